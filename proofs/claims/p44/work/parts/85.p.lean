/-! THE LAW, 986 to 1226: pairs tell kind and salt -/
theorem mull_2 {a : Nat} : 2 * Int32.ofNat a = Int32.ofNat (2 * a) := (Int32.ofNat_mul 2 a).symm
def exF (f : FV) (i l : Nat) (t : Nat → Nat) (k : Nat) (q : Nat) : Int32 := if q < 2 * k then (if q % 2 = 0 then Int32.ofNat (t (q / 2)) else rnd f i l (t (q / 2))) else 0
theorem exF_step {f : FV} {i l k τ : Nat} {t : Nat → Nat} (q : Nat) : (if q = 2 * k + 1 then rnd f i l τ else if q = 2 * k then Int32.ofNat τ else exF f i l t k q) = exF f i l (fun q => if q = k then τ else t q) (k + 1) q := by
  unfold exF
  show _ = if q < 2 * (k + 1) then (if q % 2 = 0 then Int32.ofNat (if q / 2 = k then τ else t (q / 2)) else rnd f i l (if q / 2 = k then τ else t (q / 2))) else 0
  by_cases c1 : q = 2 * k + 1
  · rw [if_pos c1, if_pos (by omega), if_neg (by omega), if_pos (show q / 2 = k by omega)]
  · rw [if_neg c1]
    by_cases c2 : q = 2 * k
    · rw [if_pos c2, if_pos (by omega), if_pos (by omega), if_pos (show q / 2 = k by omega)]
    · rw [if_neg c2]
      by_cases c3 : q < 2 * k
      · rw [if_pos c3, if_pos (show q < 2 * (k + 1) by omega)]
        simp only [show ¬ q / 2 = k by omega, if_false]
      · rw [if_neg c3, if_neg (by omega)]
section
variable {d N a b c k n m i μ l p : Nat} {T I I' : IT} {J : JT} {r v y z w : Int32} {M : Mem} {H H0 : Nat → Fin 13} {g f : FV} {D D0 : List (Nat × Nat)} {K : Nat → Option (List (Nat × Nat))} {x κ q s : Nat → Nat} {a0 a1 a2 a3 a4 a5 a6 a7 a8 a9 a10 a11 a12 a13 a14 a15 a16 a17 a18 a19 a20 a21 a22 a23 a24 a25 a26 a27 a28 a29 a30 a31 a32 a33 a34 a35 a36 a37 a38 a39 a40 a41 a42 a43 a44 : Value}
theorem lw_1003 (hN : N / 4 ≤ 260) (hi : i < n) (h12 : a12 = .int (Int32.ofNat i)) (h0 : a0 = .ref 0) (h20 : a20.category = 1) : ∀ (j k : Nat) (I : IT) (D : List (Nat × Nat)) (t : Nat → Nat) (a22 : Value), k + j = 3 → WO T n l f H0 K D I → Rw I 5 6 (exF f i l t k) → (∀ q, t q ≤ 96) → D.length + j ≤ 40 → ∃ (I' : IT) (D' : List (Nat × Nat)) (t' : Nat → Nat) (b22 : Value), R (d + 11) iL_law 1003 [a0, .ref 1, a2, a3, a4, a5, a6, a7, a8, a9, a10, a11, a12, a13, a14, a15, a16, a17, a18, a19, a20, .int (Int32.ofNat k), a22, a23, a24, a25, a26, a27, a28, a29, a30, a31, a32, a33, a34, a35, a36, a37, a38, a39, a40, a41, a42, a43, a44] [] (mk N I J) = R (d + 11) iL_law 1125 [a0, .ref 1, a2, a3, a4, a5, a6, a7, a8, a9, a10, a11, a12, a13, a14, a15, a16, a17, a18, a19, a20, .int 3, b22, a23, a24, a25, a26, a27, a28, a29, a30, a31, a32, a33, a34, a35, a36, a37, a38, a39, a40, a41, a42, a43, a44] [] (mk N I' J) ∧ WO T n l f H0 K D' I' ∧ Rw I' 5 6 (exF f i l t' 3) ∧ ∀ q, t' q ≤ 96 := by
  subst h12
  subst h0
  intro j
  induction j with
  | zero =>
    intro k I D t a22 hk hW hR ht hL
    obtain rfl : k = 3 := by omega
    have q1 : ¬ Int32.ofNat 3 < 3 := by decide
    refine ⟨I, D, t, a22, ?_, hW, hR, ht⟩
    rw [e_L_law_1003]
    simp only [K_some, K_void, K_none, wA_ref, wA_null, isNull_null, isNull_ref, c_int, c_long, c_ref, c_null, c_float, catS_nil, catS_cons, fit_int, fit_bool, fit_long, isO_mk, len_mk, fld_mk, gI_mk, gI0_mk, gZ_mk, gR_mk, isI_mk, isR_mk, tag_mk, lenE_mk, datR_mk, isOs, lenOs, fldS, lenS, gIs, gI0s, gZs, gRs, isIs, isRs, tagS, datRs, mkv, refV, fkS, isArr, tagOk, datI_mk, wrI_mk, wrA_mk, wrF_mk, wrJ_mk, List.length_cons, List.length_nil, List.getElem?_cons_zero, List.getElem?_cons_succ, List.getElem?_nil, ↓reduceIte, Nat.reduceAdd, Nat.reduceMul, Nat.reduceSub, Nat.reduceDiv, Nat.reduceMod, Nat.reduceLT, Nat.reduceLeDiff, Nat.reduceBEq, Nat.reduceEqDiff, Nat.zero_lt_succ, beq_self_eq_true, Bool.true_and, Bool.and_true, Bool.or_true, Bool.true_or, Bool.or_false, Bool.false_or, Bool.false_and, Bool.and_false, Bool.not_true, Bool.not_false, Bool.false_eq_true, Bool.true_eq_false, Bool.and_eq_true, Bool.or_eq_true, Bool.not_eq_true', decide_eq_true_eq, decide_eq_false_iff_not, decide_true, decide_false, and_self, true_and, and_true, or_true, true_or, or_false, false_or, and_false, false_and, or_self, reduceCtorEq, not_true_eq_false, not_false_eq_true, if_true, if_false, Int32.reduceAdd, Int32.reduceSub, Int32.reduceMul, Int32.reduceDiv, Int32.reduceMod, Int32.reduceLT, Int32.reduceLE, eqF1, eqF2, Int32.reduceOfNat, Int32.reduceOfInt, Int32.reduceToNatClampNeg, inb_lit, e_L_law_1005, e_L_law_1006, e_L_law_1009, e_L_law_1010, e_L_law_1012, e_L_law_1014, e_L_law_1017, e_L_law_1019, e_L_law_1021, e_L_law_1022, e_L_law_1025, e_L_law_1026, e_L_law_1027, e_L_law_1028, e_L_law_1030, e_L_law_1031, e_L_law_1032, e_L_law_1033, e_L_law_1036, e_L_law_1039, e_L_law_1040, e_L_law_1043, e_L_law_1044, e_L_law_1046, e_L_law_1048, e_L_law_1051, e_L_law_1052, e_L_law_1055, e_L_law_1056, e_L_law_1057, e_L_law_1058, e_L_law_1060, e_L_law_1061, e_L_law_1062, e_L_law_1063, e_L_law_1064, e_L_law_1067, e_L_law_1070, e_L_law_1071, e_L_law_1074, e_L_law_1075, e_L_law_1077, e_L_law_1080, e_L_law_1082, e_L_law_1083, e_L_law_1084, e_L_law_1087, e_L_law_1090, e_L_law_1091, e_L_law_1094, e_L_law_1097, e_L_law_1098, e_L_law_1099, e_L_law_1101, e_L_law_1104, e_L_law_1106, e_L_law_1107, e_L_law_1108, e_L_law_1111, e_L_law_1114, e_L_law_1117, e_L_law_1118, e_L_law_1119, e_L_law_1122, q1]
  | succ j ih =>
    intro k I D t a22 hk hW hR ht hL
    have q1 : Int32.ofNat k < 3 := (oN_lt (j := k) (k := 3) (by omega) (by omega)).mpr (by omega)
    obtain ⟨τ, hτ⟩ : ∃ τ, totN (hF H0 D) = τ := ⟨_, rfl⟩
    have τ96 : τ ≤ 96 := by rw [← hτ]; exact totN_le _
    obtain ⟨r, hr⟩ : ∃ r, rnd f i l τ = r := ⟨_, rfl⟩
    have w1 := z_w6 (d := d + 1) (N := N) (J := J) hW hi
    rw [hτ, hr] at w1
    obtain ⟨x1, x2, x3⟩ := wo_t (v := r) hW
    have c3 := z_c3 (d := d + 1) (N := N) (J := J) x1
    rw [hτ] at c3
    obtain ⟨I2, y1, y2, y3, y4⟩ := z_lay (d := d + 1) (N := N) (J := J) (v := Int32.ofNat τ) x1 (rw_q hR x2) (show 2 * k < 6 by omega)
    rw [show Int32.ofNat 5 = 5 from rfl] at y1
    have w2 := z_w6 (d := d + 1) (N := N) (J := J) y2 hi
    rw [hτ, hr] at w2
    obtain ⟨u1, u2, u3⟩ := wo_t (v := r) y2
    obtain ⟨I4, v1, v2, v3, v4⟩ := z_lay (d := d + 1) (N := N) (J := J) (v := r) u1 (rw_q y3 u2) (show 2 * k + 1 < 6 by omega)
    rw [show Int32.ofNat 5 = 5 from rfl] at v1
    have hR4 : Rw I4 5 6 (exF f i l (fun q => if q = k then τ else t q) (k + 1)) := rw_e v3 (fun q hq => by
      rw [← hr]; exact exF_step q)
    have ht4 : ∀ q, (fun q => if q = k then τ else t q) q ≤ 96 := fun q => by
      show (if q = k then τ else t q) ≤ 96
      split
      · exact τ96
      · exact ht q
    obtain ⟨ua, ea⟩ : ∃ ua, upN (celV N (I4 0) 13 >>> (Int32.ofNat k &&& 31)) 2 = ua := ⟨_, rfl⟩
    obtain ⟨ub, eb⟩ : ∃ ub, upN (celV N (I4 0) 14 >>> (Int32.ofNat k &&& 31)) 4 = ub := ⟨_, rfl⟩
    have la : ua < 2 := by rw [← ea]; exact upN_lt _ (by omega)
    have lb : ub < 4 := by rw [← eb]; exact upN_lt _ (by omega)
    have n0 : (Int32.ofNat ua = 0) = (ua = 0) := propext (oN_inj (j := ua) (k := 0) (by omega) (by omega))
    by_cases c : ua = 0
    · obtain ⟨I5, z1, z2, z3, -⟩ := z_day (d := d + 1) (N := N) (J := J) v2 (by omega)
      have nn := oN_neg (k := totN (hF H0 (D ++ [(0, 0)]))) (by have := totN_le (hF H0 (D ++ [(0, 0)])); omega)
      obtain ⟨I6, D6, t6, b22, g1, g2, g3, g4⟩ := ih (k + 1) I5 (D ++ [(0, 0)]) _ (.int 1) (by omega) z2 (rw_q hR4 z3) ht4 (by rw [List.length_append, List.length_singleton]; omega)
      refine ⟨I6, D6, t6, b22, ?_, g2, g3, g4⟩
      rw [e_L_law_1003]
      simp only [K_some, K_void, K_none, wA_ref, wA_null, isNull_null, isNull_ref, c_int, c_long, c_ref, c_null, c_float, catS_nil, catS_cons, fit_int, fit_bool, fit_long, isO_mk, len_mk, fld_mk, gI_mk, gI0_mk, gZ_mk, gR_mk, isI_mk, isR_mk, tag_mk, lenE_mk, datR_mk, isOs, lenOs, fldS, lenS, gIs, gI0s, gZs, gRs, isIs, isRs, tagS, datRs, mkv, refV, fkS, isArr, tagOk, datI_mk, wrI_mk, wrA_mk, wrF_mk, wrJ_mk, List.length_cons, List.length_nil, List.getElem?_cons_zero, List.getElem?_cons_succ, List.getElem?_nil, ↓reduceIte, Nat.reduceAdd, Nat.reduceMul, Nat.reduceSub, Nat.reduceDiv, Nat.reduceMod, Nat.reduceLT, Nat.reduceLeDiff, Nat.reduceBEq, Nat.reduceEqDiff, Nat.zero_lt_succ, beq_self_eq_true, Bool.true_and, Bool.and_true, Bool.or_true, Bool.true_or, Bool.or_false, Bool.false_or, Bool.false_and, Bool.and_false, Bool.not_true, Bool.not_false, Bool.false_eq_true, Bool.true_eq_false, Bool.and_eq_true, Bool.or_eq_true, Bool.not_eq_true', decide_eq_true_eq, decide_eq_false_iff_not, decide_true, decide_false, and_self, true_and, and_true, or_true, true_or, or_false, false_or, and_false, false_and, or_self, reduceCtorEq, not_true_eq_false, not_false_eq_true, if_true, if_false, Int32.reduceAdd, Int32.reduceSub, Int32.reduceMul, Int32.reduceDiv, Int32.reduceMod, Int32.reduceLT, Int32.reduceLE, eqF1, eqF2, Int32.reduceOfNat, Int32.reduceOfInt, Int32.reduceToNatClampNeg, inb_lit, e_L_law_1005, e_L_law_1006, e_L_law_1009, e_L_law_1010, e_L_law_1012, e_L_law_1014, e_L_law_1017, e_L_law_1019, e_L_law_1021, e_L_law_1022, e_L_law_1025, e_L_law_1026, e_L_law_1027, e_L_law_1028, e_L_law_1030, e_L_law_1031, e_L_law_1032, e_L_law_1033, e_L_law_1036, e_L_law_1039, e_L_law_1040, e_L_law_1043, e_L_law_1044, e_L_law_1046, e_L_law_1048, e_L_law_1051, e_L_law_1052, e_L_law_1055, e_L_law_1056, e_L_law_1057, e_L_law_1058, e_L_law_1060, e_L_law_1061, e_L_law_1062, e_L_law_1063, e_L_law_1064, e_L_law_1067, e_L_law_1070, e_L_law_1071, e_L_law_1074, e_L_law_1075, e_L_law_1077, e_L_law_1080, e_L_law_1082, e_L_law_1083, e_L_law_1084, e_L_law_1087, e_L_law_1090, e_L_law_1091, e_L_law_1094, e_L_law_1097, e_L_law_1098, e_L_law_1099, e_L_law_1101, e_L_law_1104, e_L_law_1106, e_L_law_1107, e_L_law_1108, e_L_law_1111, e_L_law_1114, e_L_law_1117, e_L_law_1118, e_L_law_1119, e_L_law_1122, sh_1, q1, w1, c3, mull_2, y1, w2, z_asked, u3, oN_succ, v1, l_cell hN, l_up2, l_up4, l_up5, l_up6, l_up7, l_up9, l_up10, l_up15, l_up25, l_up30, l_up40, l_up60, l_up2000000, ea, eb, n0, c, z1, nn, h20]
      exact g1
    · obtain ⟨I5, z1, z2, z3, -⟩ := z_say (d := d + 1) (N := N) (J := J) (m := ub) v2 (by omega) lb
      have nn := oN_neg (k := totN (hF H0 (D ++ [(1, ub)]))) (by have := totN_le (hF H0 (D ++ [(1, ub)])); omega)
      obtain ⟨I6, D6, t6, b22, g1, g2, g3, g4⟩ := ih (k + 1) I5 (D ++ [(1, ub)]) _ (.int 1) (by omega) z2 (rw_q hR4 z3) ht4 (by rw [List.length_append, List.length_singleton]; omega)
      refine ⟨I6, D6, t6, b22, ?_, g2, g3, g4⟩
      rw [e_L_law_1003]
      simp only [K_some, K_void, K_none, wA_ref, wA_null, isNull_null, isNull_ref, c_int, c_long, c_ref, c_null, c_float, catS_nil, catS_cons, fit_int, fit_bool, fit_long, isO_mk, len_mk, fld_mk, gI_mk, gI0_mk, gZ_mk, gR_mk, isI_mk, isR_mk, tag_mk, lenE_mk, datR_mk, isOs, lenOs, fldS, lenS, gIs, gI0s, gZs, gRs, isIs, isRs, tagS, datRs, mkv, refV, fkS, isArr, tagOk, datI_mk, wrI_mk, wrA_mk, wrF_mk, wrJ_mk, List.length_cons, List.length_nil, List.getElem?_cons_zero, List.getElem?_cons_succ, List.getElem?_nil, ↓reduceIte, Nat.reduceAdd, Nat.reduceMul, Nat.reduceSub, Nat.reduceDiv, Nat.reduceMod, Nat.reduceLT, Nat.reduceLeDiff, Nat.reduceBEq, Nat.reduceEqDiff, Nat.zero_lt_succ, beq_self_eq_true, Bool.true_and, Bool.and_true, Bool.or_true, Bool.true_or, Bool.or_false, Bool.false_or, Bool.false_and, Bool.and_false, Bool.not_true, Bool.not_false, Bool.false_eq_true, Bool.true_eq_false, Bool.and_eq_true, Bool.or_eq_true, Bool.not_eq_true', decide_eq_true_eq, decide_eq_false_iff_not, decide_true, decide_false, and_self, true_and, and_true, or_true, true_or, or_false, false_or, and_false, false_and, or_self, reduceCtorEq, not_true_eq_false, not_false_eq_true, if_true, if_false, Int32.reduceAdd, Int32.reduceSub, Int32.reduceMul, Int32.reduceDiv, Int32.reduceMod, Int32.reduceLT, Int32.reduceLE, eqF1, eqF2, Int32.reduceOfNat, Int32.reduceOfInt, Int32.reduceToNatClampNeg, inb_lit, e_L_law_1005, e_L_law_1006, e_L_law_1009, e_L_law_1010, e_L_law_1012, e_L_law_1014, e_L_law_1017, e_L_law_1019, e_L_law_1021, e_L_law_1022, e_L_law_1025, e_L_law_1026, e_L_law_1027, e_L_law_1028, e_L_law_1030, e_L_law_1031, e_L_law_1032, e_L_law_1033, e_L_law_1036, e_L_law_1039, e_L_law_1040, e_L_law_1043, e_L_law_1044, e_L_law_1046, e_L_law_1048, e_L_law_1051, e_L_law_1052, e_L_law_1055, e_L_law_1056, e_L_law_1057, e_L_law_1058, e_L_law_1060, e_L_law_1061, e_L_law_1062, e_L_law_1063, e_L_law_1064, e_L_law_1067, e_L_law_1070, e_L_law_1071, e_L_law_1074, e_L_law_1075, e_L_law_1077, e_L_law_1080, e_L_law_1082, e_L_law_1083, e_L_law_1084, e_L_law_1087, e_L_law_1090, e_L_law_1091, e_L_law_1094, e_L_law_1097, e_L_law_1098, e_L_law_1099, e_L_law_1101, e_L_law_1104, e_L_law_1106, e_L_law_1107, e_L_law_1108, e_L_law_1111, e_L_law_1114, e_L_law_1117, e_L_law_1118, e_L_law_1119, e_L_law_1122, sh_1, q1, w1, c3, mull_2, y1, w2, z_asked, u3, oN_succ, v1, l_cell hN, l_up2, l_up4, l_up5, l_up6, l_up7, l_up9, l_up10, l_up15, l_up25, l_up30, l_up40, l_up60, l_up2000000, ea, eb, n0, c, z1, nn, h20]
      exact g1
theorem lw_986 (hN : N / 4 ≤ 260) (hW : WO T n l f H0 K D0 I) (hK : K 0 = some D0) (hL : D0.length ≤ 9) (hi : i < n) (hR : RowR (T 77) n l x κ q s) (f1 : f (10 + i) = Int32.ofNat (κ i)) (f2 : f (22 + i) = Int32.ofNat (s i)) (h20 : a20.category = 1) (h21 : a21.category = 1) : ∃ (I' : IT) (b21 b22 b23 : Value), R (d + 11) iL_law 986 [.ref 0, .ref 1, .ref 77, a3, .int (Int32.ofNat D0.length), a5, a6, a7, a8, a9, a10, a11, .int (Int32.ofNat i), a13, a14, a15, a16, a17, a18, a19, a20, a21, a22, a23, a24, a25, a26, a27, a28, a29, a30, a31, a32, a33, a34, a35, a36, a37, a38, a39, a40, a41, a42, a43, a44] [] (mk N I J) = R (d + 11) iL_law 1226 [.ref 0, .ref 1, .ref 77, a3, .int (Int32.ofNat D0.length), a5, a6, a7, a8, a9, a10, a11, .int (Int32.ofNat i), a13, a14, a15, a16, a17, a18, a19, a20, b21, b22, b23, a24, a25, a26, a27, a28, a29, a30, a31, a32, a33, a34, a35, a36, a37, a38, a39, a40, a41, a42, a43, a44] [] (mk N I' J) ∧ WO T n l f H0 K D0 I' ∧ b23.category = 1 := by
  have hn := hW.1.1.1
  obtain ⟨⟨rκ, κ5⟩, -, rs, s9⟩ := hR.2.2.2 i hi
  obtain ⟨I1, c1, c2, c3, c4⟩ := z_row (d := d + 1) (N := N) (J := J) (k := 5) (m := 6) hW (by omega) (by omega)
  rw [show Int32.ofNat 5 = 5 from rfl, show Int32.ofNat 6 = 6 from rfl] at c1
  obtain ⟨I2, D2, t, b22, d1, d2, d3, d4⟩ := lw_1003 (d := d) (N := N) (J := J) (a0 := .ref 0) (a2 := .ref 77) (a3 := a3) (a4 := .int (Int32.ofNat D0.length)) (a5 := a5) (a6 := a6) (a7 := a7) (a8 := a8) (a9 := a9) (a10 := a10) (a11 := a11) (a12 := .int (Int32.ofNat i)) (a13 := a13) (a14 := a14) (a15 := a15) (a16 := a16) (a17 := a17) (a18 := a18) (a19 := a19) (a20 := a20) (a23 := a23) (a24 := a24) (a25 := a25) (a26 := a26) (a27 := a27) (a28 := a28) (a29 := a29) (a30 := a30) (a31 := a31) (a32 := a32) (a33 := a33) (a34 := a34) (a35 := a35) (a36 := a36) (a37 := a37) (a38 := a38) (a39 := a39) (a40 := a40) (a41 := a41) (a42 := a42) (a43 := a43) (a44 := a44) hN hi rfl rfl h20 3 0 I1 D0 (fun _ => 0) a22 (by omega) c2 (rw_e c3 (fun q hq => by unfold exF; rw [if_neg (by omega)])) (fun _ => by omega) (by omega)
  rw [show Int32.ofNat 0 = 0 from rfl] at d1
  have ex0 : ∀ q, q < 3 → exF f i l t 3 (2 * q) = Int32.ofNat (t q) ∧ exF f i l t 3 (2 * q + 1) = rnd f i l (t q) := fun q hq => by
    unfold exF
    rw [if_pos (by omega), if_pos (by omega), if_pos (by omega), if_neg (by omega), show 2 * q / 2 = q by omega, show (2 * q + 1) / 2 = q by omega]
    exact ⟨rfl, rfl⟩
  have hall : allN (okP (exF f i l t 3)) (2 * 3) 0 = true := allN_lt (m := 6) (fun q hq => by
    obtain ⟨q', h | h⟩ : ∃ q', q = 2 * q' ∨ q = 2 * q' + 1 := ⟨q / 2, by omega⟩
    · subst h
      obtain ⟨e1, -⟩ := ex0 q' (by omega)
      have h4 := d4 q'
      have g1 := oN_neg (k := t q') (by omega)
      have g2 : ¬ 100 < Int32.ofNat (t q') := fun h => by have := (oN_lt (j := 100) (k := t q') (by omega) (by omega)).mp h; omega
      unfold okP
      rw [if_pos (by omega), e1, decide_eq_false g1, decide_eq_false g2]; rfl
    · subst h
      obtain ⟨-, e1⟩ := ex0 q' (by omega)
      obtain ⟨g1, g2⟩ := rnd_b (l := l) f1 f2 κ5 s9 (d4 q')
      unfold okP
      rw [if_neg (by omega), e1, decide_eq_false g1, decide_eq_false g2]; rfl) (by omega)
  have hfit : fitN (exF f i l t 3) (Int32.ofNat l) (f (10 + i)) (f (22 + i)) 3 0 = true := by
    obtain ⟨a1, a2⟩ := ex0 0 (by omega)
    obtain ⟨a3, a4⟩ := ex0 1 (by omega)
    obtain ⟨a5, a6⟩ := ex0 2 (by omega)
    simp only [Nat.mul_zero, Nat.mul_one, Nat.zero_add, Nat.reduceMul, Nat.reduceAdd] at a1 a2 a3 a4 a5 a6
    simp only [fitN, Nat.zero_add, Nat.reduceAdd, a1, a2, a3, a4, a5, a6]
    unfold rnd
    simp
  have hR6 : Rw I2 5 (2 * 3) (exF f i l t 3) := d3
  have zk := z_kinds (d := d + 1) (N := N) (J := J) (q := 3) d2 hi hR6 hall
  have fk : fitN (exF f i l t 3) (Int32.ofNat l) (Int32.ofNat (κ i)) (f (22 + i)) 3 0 = true := by rw [← f1]; exact hfit
  have fs : fitN (exF f i l t 3) (Int32.ofNat l) (f (10 + i)) (Int32.ofNat (s i)) 3 0 = true := by rw [← f2]; exact hfit
  obtain ⟨p1, p2, p3⟩ := kind_bit (P := fun s => fitN (exF f i l t 3) (Int32.ofNat l) (Int32.ofNat s) (f (22 + i)) 3 0) (a := κ i) (by omega) fk
  have p4 := salt_bit (P := fun s => fitN (exF f i l t 3) (Int32.ofNat l) (f (10 + i)) (Int32.ofNat s) 3 0) (a := s i) (by omega) fs
  obtain ⟨B, hB⟩ : ∃ B, kbN (fun s => fitN (exF f i l t 3) (Int32.ofNat l) (Int32.ofNat s) (f (22 + i)) 3 0) 6 0 0 = B := ⟨_, rfl⟩
  rw [hB] at p1 p2 p3 zk
  have B0 : B ≠ 0 := fun h => by subst h; simp at p1
  obtain ⟨I3, r1, r2, r3, r4⟩ := z_test (d := d + 1) (N := N) (J := J) (q := 3) d2 hi hR6 hall hB B0
  obtain ⟨t1, t2, t3⟩ := test_v (B := B) (κ := κ i) (L := Int32.ofNat l) (σ := f (22 + i)) p2 (by omega) p1
  obtain ⟨P, hP⟩ : ∃ P, tN (fun q => gN (alk B (Int32.ofNat l) (f (22 + i)) (Int32.ofNat q)) 6 0 0) 101 0 0 7 = P := ⟨_, rfl⟩
  rw [hP] at r1 r4 t1 t2 t3
  obtain ⟨I4, k1, k2, k3, -⟩ := z_on (d := d + 1) (N := N) (J := J) r2 hK
  have zs := z_salts (d := d + 1) (N := N) (J := J) (q := 3) k2 hi (rw_q (rw_q hR6 r3) k3) hall
  rw [show Int32.ofNat 5 = 5 from rfl] at zk r1 zs
  obtain ⟨S, hS⟩ : ∃ S, sbI (fun s => fitN (exF f i l t 3) (Int32.ofNat l) (f (10 + i)) (Int32.ofNat s) 3 0) 10 0 0 = S := ⟨_, rfl⟩
  rw [hS] at zs p4
  have i22 : I4 77 (22 + i) = Int32.ofNat (s i) := by rw [k2.2.2.2.2.2 77 (by unfold fx; omega)]; exact rs
  have i10 : I4 77 (10 + i) = Int32.ofNat (κ i) := by rw [k2.2.2.2.2.2 77 (by unfold fx; omega)]; exact rκ
  have b1 : inb (Int32.ofNat (10 + i)) 48 = true := inb_ofNat (by omega) (by omega)
  have b2 : (Int32.ofNat (10 + i)).toNatClampNeg = 10 + i := nat_ofNat (by omega)
  have b5 : inb (Int32.ofNat (22 + i)) 48 = true := inb_ofNat (by omega) (by omega)
  have b6 : (Int32.ofNat (22 + i)).toNatClampNeg = 22 + i := nat_ofNat (by omega)
  have hp6 : popN 6 B 0 ≤ 6 := by
    have h1 := pop_cN ⟨B, p2⟩
    simp only at h1
    rw [← h1]
    exact cN_le (j := 6) (c := 0)
  have n1 := oN_neg (k := P.1) (by omega)
  have n2 : ¬ 100 < Int32.ofNat P.1 := fun h => by have := (oN_lt (j := 100) (k := P.1) (by omega) (by omega)).mp h; omega
  have n3 : ¬ Int32.ofNat P.2 < 1 := fun h => by have := (oN_lt (j := P.2) (k := 1) (by omega) (by omega)).mp h; omega
  have n4 : ¬ Int32.ofNat (popN 6 B 0) < Int32.ofNat P.2 := fun h => by have := (oN_lt (by omega) (by omega)).mp h; omega
  have lb := l_bits (d := d + 10) (M := mk N I4 J) p2
  refine ⟨I4, .int (Int32.ofNat B), .int (Int32.ofNat P.1), .int (Int32.ofNat P.2), ?_, k2, rfl⟩
  simp only [K_some, K_void, K_none, wA_ref, wA_null, isNull_null, isNull_ref, c_int, c_long, c_ref, c_null, c_float, catS_nil, catS_cons, fit_int, fit_bool, fit_long, isO_mk, len_mk, fld_mk, gI_mk, gI0_mk, gZ_mk, gR_mk, isI_mk, isR_mk, tag_mk, lenE_mk, datR_mk, isOs, lenOs, fldS, lenS, gIs, gI0s, gZs, gRs, isIs, isRs, tagS, datRs, mkv, refV, fkS, isArr, tagOk, datI_mk, wrI_mk, wrA_mk, wrF_mk, wrJ_mk, List.length_cons, List.length_nil, List.getElem?_cons_zero, List.getElem?_cons_succ, List.getElem?_nil, ↓reduceIte, Nat.reduceAdd, Nat.reduceMul, Nat.reduceSub, Nat.reduceDiv, Nat.reduceMod, Nat.reduceLT, Nat.reduceLeDiff, Nat.reduceBEq, Nat.reduceEqDiff, Nat.zero_lt_succ, beq_self_eq_true, Bool.true_and, Bool.and_true, Bool.or_true, Bool.true_or, Bool.or_false, Bool.false_or, Bool.false_and, Bool.and_false, Bool.not_true, Bool.not_false, Bool.false_eq_true, Bool.true_eq_false, Bool.and_eq_true, Bool.or_eq_true, Bool.not_eq_true', decide_eq_true_eq, decide_eq_false_iff_not, decide_true, decide_false, and_self, true_and, and_true, or_true, true_or, or_false, false_or, and_false, false_and, or_self, reduceCtorEq, not_true_eq_false, not_false_eq_true, if_true, if_false, Int32.reduceAdd, Int32.reduceSub, Int32.reduceMul, Int32.reduceDiv, Int32.reduceMod, Int32.reduceLT, Int32.reduceLE, eqF1, eqF2, Int32.reduceOfNat, Int32.reduceOfInt, Int32.reduceToNatClampNeg, inb_lit, e_L_law_986, e_L_law_987, e_L_law_988, e_L_law_990, e_L_law_993, e_L_law_995, e_L_law_998, e_L_law_999, e_L_law_1000, e_L_law_1001, sh_1, c1, h20]
  refine d1.trans ?_
  simp only [K_some, K_void, K_none, wA_ref, wA_null, isNull_null, isNull_ref, c_int, c_long, c_ref, c_null, c_float, catS_nil, catS_cons, fit_int, fit_bool, fit_long, isO_mk, len_mk, fld_mk, gI_mk, gI0_mk, gZ_mk, gR_mk, isI_mk, isR_mk, tag_mk, lenE_mk, datR_mk, isOs, lenOs, fldS, lenS, gIs, gI0s, gZs, gRs, isIs, isRs, tagS, datRs, mkv, refV, fkS, isArr, tagOk, datI_mk, wrI_mk, wrA_mk, wrF_mk, wrJ_mk, List.length_cons, List.length_nil, List.getElem?_cons_zero, List.getElem?_cons_succ, List.getElem?_nil, ↓reduceIte, Nat.reduceAdd, Nat.reduceMul, Nat.reduceSub, Nat.reduceDiv, Nat.reduceMod, Nat.reduceLT, Nat.reduceLeDiff, Nat.reduceBEq, Nat.reduceEqDiff, Nat.zero_lt_succ, beq_self_eq_true, Bool.true_and, Bool.and_true, Bool.or_true, Bool.true_or, Bool.or_false, Bool.false_or, Bool.false_and, Bool.and_false, Bool.not_true, Bool.not_false, Bool.false_eq_true, Bool.true_eq_false, Bool.and_eq_true, Bool.or_eq_true, Bool.not_eq_true', decide_eq_true_eq, decide_eq_false_iff_not, decide_true, decide_false, and_self, true_and, and_true, or_true, true_or, or_false, false_or, and_false, false_and, or_self, reduceCtorEq, not_true_eq_false, not_false_eq_true, if_true, if_false, Int32.reduceAdd, Int32.reduceSub, Int32.reduceMul, Int32.reduceDiv, Int32.reduceMod, Int32.reduceLT, Int32.reduceLE, eqF1, eqF2, Int32.reduceOfNat, Int32.reduceOfInt, Int32.reduceToNatClampNeg, inb_lit, e_L_law_1125, e_L_law_1126, e_L_law_1128, e_L_law_1129, e_L_law_1132, e_L_law_1134, e_L_law_1135, e_L_law_1137, e_L_law_1138, e_L_law_1141, e_L_law_1143, e_L_law_1144, e_L_law_1147, e_L_law_1149, e_L_law_1150, e_L_law_1151, e_L_law_1154, e_L_law_1156, e_L_law_1159, e_L_law_1160, e_L_law_1162, e_L_law_1163, e_L_law_1166, e_L_law_1167, e_L_law_1169, e_L_law_1171, e_L_law_1172, e_L_law_1173, e_L_law_1174, e_L_law_1175, e_L_law_1176, e_L_law_1177, e_L_law_1180, e_L_law_1182, e_L_law_1183, e_L_law_1185, e_L_law_1187, e_L_law_1188, e_L_law_1189, e_L_law_1190, e_L_law_1191, e_L_law_1192, e_L_law_1193, e_L_law_1196, e_L_law_1198, e_L_law_1201, e_L_law_1203, e_L_law_1205, e_L_law_1208, e_L_law_1210, e_L_law_1211, e_L_law_1214, e_L_law_1216, e_L_law_1218, e_L_law_1221, e_L_law_1224, e_L_law_1225, sh_1, sh_77, zk, r1, z_asked, r4, k1, zs, addl_10, addl_22, b1, b2, b5, b6, i10, i22, p3, p4, n1, n2, n3, n4, lb, h20]
end
