/-! THE LAW, 696 to 986, whole -/
section
variable {d N a b c k n m i μ l p : Nat} {T I I' : IT} {J : JT} {r v y z w : Int32} {M : Mem} {H H0 : Nat → Fin 13} {g f : FV} {D D0 : List (Nat × Nat)} {K : Nat → Option (List (Nat × Nat))} {e : Nat → Nat} {a0 a1 a2 a3 a4 a5 a6 a7 a8 a9 a10 a11 a12 a13 a14 a15 a16 a17 a18 a19 a20 a21 a22 a23 a24 a25 a26 a27 a28 a29 a30 a31 a32 a33 a34 a35 a36 a37 a38 a39 a40 a41 a42 a43 a44 : Value}
theorem lw_696 (hN : N / 4 ≤ 260) (hW : WO T n l f H0 K D0 I) (hK : K 0 = some D0) (hL : D0.length ≤ 9) (h15 : a15.category = 1) (h20 : a20.category = 1) (h21 : a21.category = 1) (h16 : a16.category = 1) (h17 : a17.category = 1) (h18 : a18.category = 1) : ∃ (I' : IT) (J' : JT) (b16 b17 b18 b19 b20 b21 : Value), R (d + 11) iL_law 696 [.ref 0, .ref 1, a2, a3, .int (Int32.ofNat D0.length), a5, a6, a7, a8, a9, a10, a11, a12, a13, a14, a15, a16, a17, a18, a19, a20, a21, a22, a23, a24, a25, a26, a27, a28, a29, a30, a31, a32, a33, a34, a35, a36, a37, a38, a39, a40, a41, a42, a43, a44] [] (mk N I J) = R (d + 11) iL_law 986 [.ref 0, .ref 1, a2, a3, .int (Int32.ofNat D0.length), a5, a6, a7, a8, a9, a10, a11, a12, a13, a14, a15, b16, b17, b18, b19, b20, b21, a22, a23, a24, a25, a26, a27, a28, a29, a30, a31, a32, a33, a34, a35, a36, a37, a38, a39, a40, a41, a42, a43, a44] [] (mk N I' J') ∧ WO T n l f H0 K D0 I' ∧ b20.category = 1 ∧ b21.category = 1 := by
  obtain ⟨m0, em⟩ : ∃ m0, upN (celV N (I 0) 11) 4 = m0 := ⟨_, rfl⟩
  have lm : m0 < 4 := by rw [← em]; exact upN_lt _ (by omega)
  obtain ⟨m, hm⟩ : ∃ m, m = 1 + m0 := ⟨_, rfl⟩
  have hm1 : 1 ≤ m := by omega
  have hm4 : m ≤ 4 := by omega
  have am : 1 + Int32.ofNat m0 = Int32.ofNat m := by rw [addl_1, hm]
  obtain ⟨I1, e, c1, c2, c3, he, c5⟩ := l_laid (d := d) (N := N) (J := J) (x := celV N (I 0) 12) (k := 2) (m := m) hW (by omega) (by omega)
  rw [show Int32.ofNat 2 = 2 from rfl] at c1
  obtain ⟨I2, d1, d2, d3, d4⟩ := z_row (d := d + 1) (N := N) (J := J) (k := 1) (m := m) c2 (by omega) (by omega)
  rw [show Int32.ofNat 1 = 1 from rfl] at d1
  obtain ⟨I3, D3, b20, b21, f1, f2, f3, f4, f5⟩ := lw_750 (d := d) (N := N) (J := J) (H := hF H0 D0) (a0 := .ref 0) (a2 := a2) (a3 := a3) (a4 := .int (Int32.ofNat D0.length)) (a5 := a5) (a6 := a6) (a7 := a7) (a8 := a8) (a9 := a9) (a10 := a10) (a11 := a11) (a12 := a12) (a13 := a13) (a14 := a14) (a15 := a15) (a16 := .int 0) (a22 := a22) (a23 := a23) (a24 := a24) (a25 := a25) (a26 := a26) (a27 := a27) (a28 := a28) (a29 := a29) (a30 := a30) (a31 := a31) (a32 := a32) (a33 := a33) (a34 := a34) (a35 := a35) (a36 := a36) (a37 := a37) (a38 := a38) (a39 := a39) (a40 := a40) (a41 := a41) (a42 := a42) (a43 := a43) (a44 := a44) he hm4 rfl m 0 I2 D0 0 (-9) a20 a21 h20 h21 (by omega) d2 (rw_x c3 d4 (by omega)) (rw_e d3 (fun q hq => by show (0 : Int32) = if q < 0 then _ else 0; rw [if_neg (by omega)])) (by omega) rfl
  have fe : (if 0 = 0 then (if m = 0 then (-9 : Int32) else dS (e 0)) else -9) = dS (e 0) := by rw [if_pos rfl, if_neg (by omega)]
  rw [fe, show Int32.ofNat 0 = 0 from rfl] at f1
  obtain ⟨I4, g1, g2, g3, g4⟩ := z_on (d := d + 1) (N := N) (J := J) f2 hK
  have hR := rw_q f3 g3
  have hall : allN (okA fun q => Int32.ofNat (totN (bH e (hF H0 D0) (q + 1)))) m 0 = true := allN_of (fun q => okA_of rfl (by have := totN_le (bH e (hF H0 D0) (q + 1)); omega))
  obtain ⟨o, ho⟩ : ∃ o, lpN m (fun c => soB (dg m c) (hF H0 D0) (fun q => Int32.ofNat (totN (bH e (hF H0 D0) (q + 1)))) m 0) (5 ^ m) 0 (0, 0, 15, 0) = o := ⟨_, rfl⟩
  obtain ⟨cc, x1, x2⟩ := dg_sur (n := m) (e := e) hm4 he
  have hso : soB (dg m cc) (hF H0 D0) (fun q => Int32.ofNat (totN (bH e (hF H0 D0) (q + 1)))) m 0 = true := soB_of (fun q h1 h2 => by
    rw [bH_congr (s := dg m cc) (s' := e) (d := q + 1) (fun t ht => x2 t (by omega))])
  obtain ⟨v1, v2, -, -, -, -, v7⟩ := lp_v (n := m) (so := fun c => soB (dg m c) (hF H0 D0) (fun q => Int32.ofNat (totN (bH e (hF H0 D0) (q + 1)))) m 0) (5 ^ m) 0 (0, 0, 15, 0) b16_15 b16_0
  obtain ⟨y1, y2, y3, y4⟩ := v7 cc (by omega) (by omega) hso
  have y4 := y4 rfl
  have mc : mN2 (dg m cc) m 0 0 = mN2 e m 0 0 := mN2_congr (fun q hq => x2 q (by omega))
  rw [mc] at y1 y2
  rw [ho] at v1 v2 y1 y2 y3 y4
  obtain ⟨I5, k1, k2, k3, k4, k5⟩ := z_about (d := d + 1) (N := N) (J := J) (k := 1) g2 hR hm1 hm4 hall ho
  rw [show Int32.ofNat 1 = 1 from rfl] at k1
  obtain ⟨J5, hJ5⟩ : ∃ J5, J5 = upJ (upJ J 55 3 (Int64.ofNat o.1)) 55 4 1 := ⟨_, rfl⟩
  rw [← hJ5] at k1
  have j3 : J5 55 3 = Int64.ofNat o.1 := by rw [hJ5]; simp [upJ_at]
  have j4 : J5 55 4 = 1 := by rw [hJ5]; simp [upJ_at]
  obtain ⟨I6, r1, r2, r3, r4⟩ := z_sure (d := d + 1) (N := N) (J := J5) (k := 1) k2 (rw_q hR k3) hm1 hm4 hall ho y3
  rw [show Int32.ofNat 1 = 1 from rfl] at r1
  have B3 : B16 (mN2 e m 0 0) := b16_mN2 he b16_0
  obtain ⟨s1, s2, s3, s4, s5⟩ := b16_end v1 v2 B3 y1 y2
  have u1 : (Int64.ofNat o.1 < 1) = (o.1 < 1) := o64_lt (k := 1) (by omega) (by omega)
  have u2 : (625 < Int64.ofNat o.1) = (625 < o.1) := o64_lt (j := 625) (by omega) (by omega)
  have n1 : ¬ o.1 < 1 := by omega
  have n2 : ¬ 625 < o.1 := by omega
  have ff : fst1 m o = dS (dg m o.2.1 0) := by unfold fst1; rw [if_neg y3]
  have dle := dg_first (n := m) hm1 (show o.2.1 < 5 ^ m by omega) x1 y4
  rw [x2 0 (by omega)] at dle
  have h5 := he 0
  have fle : ¬ dS (e 0) < dS (dg m o.2.1 0) := dS_mono' ⟨dg m o.2.1 0, dg_lt⟩ ⟨e 0, h5⟩ dle
  rw [ff] at k4
  have nd := dS_neg h5
  refine ⟨I6, J5, .int (Int32.ofNat m), .int (mN2 e m 0 0), .int (dS (e 0)), .int o.2.2.1, .int (15 &&& (o.2.2.2 ^^^ -1)), b21, ?_, r2, rfl, f5⟩
  simp only [K_some, K_void, K_none, wA_ref, wA_null, isNull_null, isNull_ref, c_int, c_long, c_ref, c_null, c_float, catS_nil, catS_cons, fit_int, fit_bool, fit_long, isO_mk, len_mk, fld_mk, gI_mk, gI0_mk, gZ_mk, gR_mk, isI_mk, isR_mk, tag_mk, lenE_mk, datR_mk, isOs, lenOs, fldS, lenS, gIs, gI0s, gZs, gRs, isIs, isRs, tagS, datRs, mkv, refV, fkS, isArr, tagOk, datI_mk, wrI_mk, wrA_mk, wrF_mk, wrJ_mk, List.length_cons, List.length_nil, List.getElem?_cons_zero, List.getElem?_cons_succ, List.getElem?_nil, ↓reduceIte, Nat.reduceAdd, Nat.reduceMul, Nat.reduceSub, Nat.reduceDiv, Nat.reduceMod, Nat.reduceLT, Nat.reduceLeDiff, Nat.reduceBEq, Nat.reduceEqDiff, Nat.zero_lt_succ, beq_self_eq_true, Bool.true_and, Bool.and_true, Bool.or_true, Bool.true_or, Bool.or_false, Bool.false_or, Bool.false_and, Bool.and_false, Bool.not_true, Bool.not_false, Bool.false_eq_true, Bool.true_eq_false, Bool.and_eq_true, Bool.or_eq_true, Bool.not_eq_true', decide_eq_true_eq, decide_eq_false_iff_not, decide_true, decide_false, and_self, true_and, and_true, or_true, true_or, or_false, false_or, and_false, false_and, or_self, reduceCtorEq, not_true_eq_false, not_false_eq_true, if_true, if_false, Int32.reduceAdd, Int32.reduceSub, Int32.reduceMul, Int32.reduceDiv, Int32.reduceMod, Int32.reduceLT, Int32.reduceLE, eqF1, eqF2, Int32.reduceOfNat, Int32.reduceOfInt, Int32.reduceToNatClampNeg, inb_lit, e_L_law_696, e_L_law_697, e_L_law_698, e_L_law_700, e_L_law_703, e_L_law_704, e_L_law_707, e_L_law_708, e_L_law_710, e_L_law_711, e_L_law_713, e_L_law_715, e_L_law_717, e_L_law_718, e_L_law_719, e_L_law_721, e_L_law_722, e_L_law_724, e_L_law_727, e_L_law_730, e_L_law_733, e_L_law_734, e_L_law_735, e_L_law_737, e_L_law_740, e_L_law_742, e_L_law_745, e_L_law_746, e_L_law_747, e_L_law_748, sh_1, l_cell hN, l_up2, l_up4, l_up5, l_up6, l_up7, l_up9, l_up10, l_up15, l_up25, l_up30, l_up40, l_up60, l_up2000000, em, am, c1, d1, h15, h16, h17, h18]
  refine f1.trans ?_
  by_cases e0 : e 0 = 0
  · have z : dg m o.2.1 0 = 0 := by omega
    rw [z] at k4 fle
    rw [e0] at fle ⊢
    rw [dS_0] at k4 fle ⊢
    simp only [K_some, K_void, K_none, wA_ref, wA_null, isNull_null, isNull_ref, c_int, c_long, c_ref, c_null, c_float, catS_nil, catS_cons, fit_int, fit_bool, fit_long, isO_mk, len_mk, fld_mk, gI_mk, gI0_mk, gZ_mk, gR_mk, isI_mk, isR_mk, tag_mk, lenE_mk, datR_mk, isOs, lenOs, fldS, lenS, gIs, gI0s, gZs, gRs, isIs, isRs, tagS, datRs, mkv, refV, fkS, isArr, tagOk, datI_mk, wrI_mk, wrA_mk, wrF_mk, wrJ_mk, List.length_cons, List.length_nil, List.getElem?_cons_zero, List.getElem?_cons_succ, List.getElem?_nil, ↓reduceIte, Nat.reduceAdd, Nat.reduceMul, Nat.reduceSub, Nat.reduceDiv, Nat.reduceMod, Nat.reduceLT, Nat.reduceLeDiff, Nat.reduceBEq, Nat.reduceEqDiff, Nat.zero_lt_succ, beq_self_eq_true, Bool.true_and, Bool.and_true, Bool.or_true, Bool.true_or, Bool.or_false, Bool.false_or, Bool.false_and, Bool.and_false, Bool.not_true, Bool.not_false, Bool.false_eq_true, Bool.true_eq_false, Bool.and_eq_true, Bool.or_eq_true, Bool.not_eq_true', decide_eq_true_eq, decide_eq_false_iff_not, decide_true, decide_false, and_self, true_and, and_true, or_true, true_or, or_false, false_or, and_false, false_and, or_self, reduceCtorEq, not_true_eq_false, not_false_eq_true, if_true, if_false, Int32.reduceAdd, Int32.reduceSub, Int32.reduceMul, Int32.reduceDiv, Int32.reduceMod, Int32.reduceLT, Int32.reduceLE, eqF1, eqF2, Int32.reduceOfNat, Int32.reduceOfInt, Int32.reduceToNatClampNeg, inb_lit, e_L_law_855, e_L_law_856, e_L_law_857, e_L_law_860, e_L_law_862, e_L_law_865, e_L_law_866, e_L_law_867, e_L_law_870, e_L_law_871, e_L_law_874, e_L_law_875, e_L_law_878, e_L_law_879, e_L_law_880, e_L_law_883, e_L_law_884, e_L_law_887, e_L_law_890, e_L_law_891, e_L_law_894, e_L_law_895, e_L_law_898, e_L_law_899, e_L_law_900, e_L_law_903, e_L_law_904, e_L_law_907, e_L_law_909, e_L_law_912, e_L_law_914, e_L_law_917, e_L_law_919, e_L_law_922, e_L_law_923, e_L_law_926, e_L_law_928, e_L_law_931, e_L_law_932, e_L_law_933, e_L_law_934, e_L_law_935, e_L_law_938, e_L_law_940, e_L_law_941, e_L_law_944, e_L_law_946, e_L_law_948, e_L_law_951, e_L_law_953, e_L_law_955, e_L_law_956, e_L_law_957, e_L_law_958, e_L_law_961, e_L_law_963, e_L_law_965, e_L_law_966, e_L_law_969, e_L_law_971, e_L_law_973, e_L_law_974, e_L_law_977, e_L_law_979, e_L_law_981, e_L_law_984, e_L_law_985, sh_1, g1, k1, z_upper, z_lower, z_asked, j3, j4, lc_lt, lc_gt, lc_eq, u1, u2, n1, n2, k4, r1, r4, s1, s2, s3, s4, s5, f4]
  · have nd' : ¬ dS (e 0) < 0 := by rw [nd]; exact e0
    simp only [K_some, K_void, K_none, wA_ref, wA_null, isNull_null, isNull_ref, c_int, c_long, c_ref, c_null, c_float, catS_nil, catS_cons, fit_int, fit_bool, fit_long, isO_mk, len_mk, fld_mk, gI_mk, gI0_mk, gZ_mk, gR_mk, isI_mk, isR_mk, tag_mk, lenE_mk, datR_mk, isOs, lenOs, fldS, lenS, gIs, gI0s, gZs, gRs, isIs, isRs, tagS, datRs, mkv, refV, fkS, isArr, tagOk, datI_mk, wrI_mk, wrA_mk, wrF_mk, wrJ_mk, List.length_cons, List.length_nil, List.getElem?_cons_zero, List.getElem?_cons_succ, List.getElem?_nil, ↓reduceIte, Nat.reduceAdd, Nat.reduceMul, Nat.reduceSub, Nat.reduceDiv, Nat.reduceMod, Nat.reduceLT, Nat.reduceLeDiff, Nat.reduceBEq, Nat.reduceEqDiff, Nat.zero_lt_succ, beq_self_eq_true, Bool.true_and, Bool.and_true, Bool.or_true, Bool.true_or, Bool.or_false, Bool.false_or, Bool.false_and, Bool.and_false, Bool.not_true, Bool.not_false, Bool.false_eq_true, Bool.true_eq_false, Bool.and_eq_true, Bool.or_eq_true, Bool.not_eq_true', decide_eq_true_eq, decide_eq_false_iff_not, decide_true, decide_false, and_self, true_and, and_true, or_true, true_or, or_false, false_or, and_false, false_and, or_self, reduceCtorEq, not_true_eq_false, not_false_eq_true, if_true, if_false, Int32.reduceAdd, Int32.reduceSub, Int32.reduceMul, Int32.reduceDiv, Int32.reduceMod, Int32.reduceLT, Int32.reduceLE, eqF1, eqF2, Int32.reduceOfNat, Int32.reduceOfInt, Int32.reduceToNatClampNeg, inb_lit, e_L_law_855, e_L_law_856, e_L_law_857, e_L_law_860, e_L_law_862, e_L_law_865, e_L_law_866, e_L_law_867, e_L_law_870, e_L_law_871, e_L_law_874, e_L_law_875, e_L_law_878, e_L_law_879, e_L_law_880, e_L_law_883, e_L_law_884, e_L_law_887, e_L_law_890, e_L_law_891, e_L_law_894, e_L_law_895, e_L_law_898, e_L_law_899, e_L_law_900, e_L_law_903, e_L_law_904, e_L_law_907, e_L_law_909, e_L_law_912, e_L_law_914, e_L_law_917, e_L_law_919, e_L_law_922, e_L_law_923, e_L_law_926, e_L_law_928, e_L_law_931, e_L_law_932, e_L_law_933, e_L_law_934, e_L_law_935, e_L_law_938, e_L_law_940, e_L_law_941, e_L_law_944, e_L_law_946, e_L_law_948, e_L_law_951, e_L_law_953, e_L_law_955, e_L_law_956, e_L_law_957, e_L_law_958, e_L_law_961, e_L_law_963, e_L_law_965, e_L_law_966, e_L_law_969, e_L_law_971, e_L_law_973, e_L_law_974, e_L_law_977, e_L_law_979, e_L_law_981, e_L_law_984, e_L_law_985, sh_1, g1, k1, z_upper, z_lower, z_asked, j3, j4, lc_lt, lc_gt, lc_eq, u1, u2, n1, n2, k4, fle, nd', r1, r4, s1, s2, s3, s4, s5, f4]
end
