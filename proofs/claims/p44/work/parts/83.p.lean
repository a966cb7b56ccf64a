/-! THE LAW, 696 to 986: what it was about -/
section
variable {d N a b c k n m i μ l p : Nat} {T I I' : IT} {J : JT} {r v y z w : Int32} {M : Mem} {H H0 : Nat → Fin 13} {g f : FV} {D D0 : List (Nat × Nat)} {K : Nat → Option (List (Nat × Nat))} {e : Nat → Nat} {a0 a1 a2 a3 a4 a5 a6 a7 a8 a9 a10 a11 a12 a13 a14 a15 a16 a17 a18 a19 a20 a21 a22 a23 a24 a25 a26 a27 a28 a29 a30 a31 a32 a33 a34 a35 a36 a37 a38 a39 a40 a41 a42 a43 a44 : Value}
theorem lw_750 (he : ∀ q, e q < 5) (hm : m ≤ 4) (h16 : a16.category = 1) : ∀ (j t : Nat) (I : IT) (D : List (Nat × Nat)) (sd fs : Int32) (a20 a21 : Value), a20.category = 1 → a21.category = 1 → t + j = m → WO T n l f H0 K D I → Rw I 2 m (fun q => dS (e q)) → Rw I 1 m (fun q => if q < t then Int32.ofNat (totN (bH e H (q + 1))) else 0) → D.length + 2 * j ≤ 40 → hF H0 D = bH e H t → ∃ (I' : IT) (D' : List (Nat × Nat)) (b20 b21 : Value), R (d + 11) iL_law 750 [a0, .ref 1, a2, a3, a4, a5, a6, a7, a8, a9, a10, a11, a12, a13, a14, a15, .int (Int32.ofNat m), .int sd, .int fs, .int (Int32.ofNat t), a20, a21, a22, a23, a24, a25, a26, a27, a28, a29, a30, a31, a32, a33, a34, a35, a36, a37, a38, a39, a40, a41, a42, a43, a44] [] (mk N I J) = R (d + 11) iL_law 855 [a0, .ref 1, a2, a3, a4, a5, a6, a7, a8, a9, a10, a11, a12, a13, a14, a15, .int (Int32.ofNat m), .int (mN2 e j t sd), .int (if t = 0 then (if j = 0 then fs else dS (e 0)) else fs), .int (Int32.ofNat m), b20, b21, a22, a23, a24, a25, a26, a27, a28, a29, a30, a31, a32, a33, a34, a35, a36, a37, a38, a39, a40, a41, a42, a43, a44] [] (mk N I' J) ∧ WO T n l f H0 K D' I' ∧ Rw I' 1 m (fun q => Int32.ofNat (totN (bH e H (q + 1)))) ∧ b20.category = 1 ∧ b21.category = 1 := by
  intro j
  induction j with
  | zero =>
    intro t I D sd fs a20 a21 h20 h21 ht hW hR2 hR1 hL hH
    obtain rfl : t = m := by omega
    have q1 : ¬ Int32.ofNat t < Int32.ofNat t := fun h => by have := (oN_lt (by omega) (by omega)).mp h; omega
    refine ⟨I, D, a20, a21, ?_, hW, rw_e hR1 (fun q hq => by show (if q < t then _ else _) = _; rw [if_pos hq]), h20, h21⟩
    have e0 : (if t = 0 then (if 0 = 0 then fs else dS (e 0)) else fs) = fs := by split <;> rfl
    rw [e_L_law_750, e0]
    simp only [K_some, K_void, K_none, wA_ref, wA_null, isNull_null, isNull_ref, c_int, c_long, c_ref, c_null, c_float, catS_nil, catS_cons, fit_int, fit_bool, fit_long, isO_mk, len_mk, fld_mk, gI_mk, gI0_mk, gZ_mk, gR_mk, isI_mk, isR_mk, tag_mk, lenE_mk, datR_mk, isOs, lenOs, fldS, lenS, gIs, gI0s, gZs, gRs, isIs, isRs, tagS, datRs, mkv, refV, fkS, isArr, tagOk, datI_mk, wrI_mk, wrA_mk, wrF_mk, wrJ_mk, List.length_cons, List.length_nil, List.getElem?_cons_zero, List.getElem?_cons_succ, List.getElem?_nil, ↓reduceIte, Nat.reduceAdd, Nat.reduceMul, Nat.reduceSub, Nat.reduceDiv, Nat.reduceMod, Nat.reduceLT, Nat.reduceLeDiff, Nat.reduceBEq, Nat.reduceEqDiff, Nat.zero_lt_succ, beq_self_eq_true, Bool.true_and, Bool.and_true, Bool.or_true, Bool.true_or, Bool.or_false, Bool.false_or, Bool.false_and, Bool.and_false, Bool.not_true, Bool.not_false, Bool.false_eq_true, Bool.true_eq_false, Bool.and_eq_true, Bool.or_eq_true, Bool.not_eq_true', decide_eq_true_eq, decide_eq_false_iff_not, decide_true, decide_false, and_self, true_and, and_true, or_true, true_or, or_false, false_or, and_false, false_and, or_self, reduceCtorEq, not_true_eq_false, not_false_eq_true, if_true, if_false, Int32.reduceAdd, Int32.reduceSub, Int32.reduceMul, Int32.reduceDiv, Int32.reduceMod, Int32.reduceLT, Int32.reduceLE, eqF1, eqF2, Int32.reduceOfNat, Int32.reduceOfInt, Int32.reduceToNatClampNeg, inb_lit, e_L_law_752, e_L_law_754, e_L_law_757, e_L_law_758, e_L_law_759, e_L_law_761, e_L_law_764, e_L_law_766, e_L_law_767, e_L_law_770, e_L_law_772, e_L_law_774, e_L_law_777, e_L_law_779, e_L_law_782, e_L_law_784, e_L_law_786, e_L_law_788, e_L_law_790, e_L_law_793, e_L_law_794, e_L_law_797, e_L_law_798, e_L_law_800, e_L_law_801, e_L_law_802, e_L_law_804, e_L_law_806, e_L_law_807, e_L_law_810, e_L_law_812, e_L_law_815, e_L_law_816, e_L_law_818, e_L_law_821, e_L_law_824, e_L_law_825, e_L_law_828, e_L_law_831, e_L_law_832, e_L_law_833, e_L_law_835, e_L_law_836, e_L_law_837, e_L_law_840, e_L_law_843, e_L_law_844, e_L_law_847, e_L_law_848, e_L_law_849, e_L_law_852, q1, mN2]
  | succ j ih =>
    intro t I D sd fs a20 a21 h20 h21 ht hW hR2 hR1 hL hH
    have q1 : Int32.ofNat t < Int32.ofNat m := (oN_lt (by omega) (by omega)).mpr (by omega)
    have n0 : (Int32.ofNat t = 0) = (t = 0) := propext (oN_inj (j := t) (k := 0) (by omega) (by omega))
    have at1 := z_at (d := d + 1) (N := N) (J := J) hR2 (show t < m by omega)
    rw [show Int32.ofNat 2 = 2 from rfl] at at1
    obtain ⟨w1, w2, w3⟩ := wo_t (v := dS (e t)) hW
    have hRa := rw_q hR2 w2
    have hRb := rw_q hR1 w2
    have h5 := he t
    obtain ⟨fs1, hfs⟩ : ∃ fs1, (if t = 0 then dS (e t) else fs) = fs1 := ⟨_, rfl⟩
    have ffin : (if t + 1 = 0 then (if j = 0 then fs1 else dS (e 0)) else fs1) = (if t = 0 then (if j + 1 = 0 then fs else dS (e 0)) else fs) := by
      rw [if_neg (by omega), ← hfs]
      by_cases c : t = 0
      · rw [if_pos c, if_pos c, if_neg (by omega), c]
      · rw [if_neg c, if_neg c]
    by_cases c0 : e t = 0
    · obtain ⟨I2, y1, y2, y3, y4⟩ := z_day (d := d + 1) (N := N) (J := J) w1 (by omega)
      have nn := oN_neg (k := totN (hF H0 (D ++ [(0, 0)]))) (by have := totN_le (hF H0 (D ++ [(0, 0)])); omega)
      have hH2 : hF H0 (D ++ [(0, 0)]) = bH e H (t + 1) := by
        rw [hF_app, hH]
        show goH (0, 0) (bH e H t) = pS (e t) (bH e H t)
        rw [c0]; rfl
      have z3 := z_c3 (d := d + 1) (N := N) (J := J) y2
      rw [hH2] at z3
      obtain ⟨I3, x1, x2, x3, x4⟩ := z_lay (d := d + 1) (N := N) (J := J) (v := Int32.ofNat (totN (bH e H (t + 1)))) y2 (rw_q hRb y3) (show t < m by omega)
      rw [show Int32.ofNat 1 = 1 from rfl] at x1
      obtain ⟨I4, D4, b20, b21, g1, g2, g3, g4, g5⟩ := ih (t + 1) I3 (D ++ [(0, 0)]) sd fs1 (.int 1) (.int (-9)) rfl rfl (by omega) x2 (rw_x (rw_q hRa y3) x4 (by omega)) (rw_e x3 (fun q hq => by
        show (if q = t then _ else if q < t then _ else (0 : Int32)) = if q < t + 1 then _ else 0
        by_cases c : q = t
        · rw [if_pos c, if_pos (by omega), c]
        · rw [if_neg c]
          by_cases c' : q < t
          · rw [if_pos c', if_pos (by omega)]
          · rw [if_neg c', if_neg (by omega)])) (by rw [List.length_append, List.length_singleton]; omega) hH2
      rw [ffin] at g1
      · refine ⟨I4, D4, b20, b21, ?_, g2, g3, g4, g5⟩
        have me : mN2 e (j + 1) t sd = mN2 e j (t + 1) sd := by
          show mN2 e j (t + 1) (sd ||| if e t = 0 then 0 else _) = _
          rw [if_pos c0, Int32.or_zero]
        rw [me]
        rw [c0, dS_0] at at1 w3 y1 hfs
        by_cases t0 : t = 0
        · subst t0
          rw [if_pos rfl] at hfs
          subst hfs
          have fe : (if 0 = 0 then (if j + 1 = 0 then fs else dS (e 0)) else fs) = dS (e 0) := by rw [if_pos rfl, if_neg (by omega)]
          rw [fe] at g1 ⊢
          rw [show Int32.ofNat 0 = 0 from rfl] at q1 at1 x1 ⊢
          rw [e_L_law_750]
          simp only [K_some, K_void, K_none, wA_ref, wA_null, isNull_null, isNull_ref, c_int, c_long, c_ref, c_null, c_float, catS_nil, catS_cons, fit_int, fit_bool, fit_long, isO_mk, len_mk, fld_mk, gI_mk, gI0_mk, gZ_mk, gR_mk, isI_mk, isR_mk, tag_mk, lenE_mk, datR_mk, isOs, lenOs, fldS, lenS, gIs, gI0s, gZs, gRs, isIs, isRs, tagS, datRs, mkv, refV, fkS, isArr, tagOk, datI_mk, wrI_mk, wrA_mk, wrF_mk, wrJ_mk, List.length_cons, List.length_nil, List.getElem?_cons_zero, List.getElem?_cons_succ, List.getElem?_nil, ↓reduceIte, Nat.reduceAdd, Nat.reduceMul, Nat.reduceSub, Nat.reduceDiv, Nat.reduceMod, Nat.reduceLT, Nat.reduceLeDiff, Nat.reduceBEq, Nat.reduceEqDiff, Nat.zero_lt_succ, beq_self_eq_true, Bool.true_and, Bool.and_true, Bool.or_true, Bool.true_or, Bool.or_false, Bool.false_or, Bool.false_and, Bool.and_false, Bool.not_true, Bool.not_false, Bool.false_eq_true, Bool.true_eq_false, Bool.and_eq_true, Bool.or_eq_true, Bool.not_eq_true', decide_eq_true_eq, decide_eq_false_iff_not, decide_true, decide_false, and_self, true_and, and_true, or_true, true_or, or_false, false_or, and_false, false_and, or_self, reduceCtorEq, not_true_eq_false, not_false_eq_true, if_true, if_false, Int32.reduceAdd, Int32.reduceSub, Int32.reduceMul, Int32.reduceDiv, Int32.reduceMod, Int32.reduceLT, Int32.reduceLE, eqF1, eqF2, Int32.reduceOfNat, Int32.reduceOfInt, Int32.reduceToNatClampNeg, inb_lit, e_L_law_752, e_L_law_754, e_L_law_757, e_L_law_758, e_L_law_759, e_L_law_761, e_L_law_764, e_L_law_766, e_L_law_767, e_L_law_770, e_L_law_772, e_L_law_774, e_L_law_777, e_L_law_779, e_L_law_782, e_L_law_784, e_L_law_786, e_L_law_788, e_L_law_790, e_L_law_793, e_L_law_794, e_L_law_797, e_L_law_798, e_L_law_800, e_L_law_801, e_L_law_802, e_L_law_804, e_L_law_806, e_L_law_807, e_L_law_810, e_L_law_812, e_L_law_815, e_L_law_816, e_L_law_818, e_L_law_821, e_L_law_824, e_L_law_825, e_L_law_828, e_L_law_831, e_L_law_832, e_L_law_833, e_L_law_835, e_L_law_836, e_L_law_837, e_L_law_840, e_L_law_843, e_L_law_844, e_L_law_847, e_L_law_848, e_L_law_849, e_L_law_852, sh_1, q1, at1, z_asked, w3, y1, nn, z3, x1, Int32.or_zero, h16, h20]
          exact g1
        · rw [if_neg t0] at hfs
          subst hfs
          rw [if_neg t0] at g1
          rw [e_L_law_750]
          simp only [K_some, K_void, K_none, wA_ref, wA_null, isNull_null, isNull_ref, c_int, c_long, c_ref, c_null, c_float, catS_nil, catS_cons, fit_int, fit_bool, fit_long, isO_mk, len_mk, fld_mk, gI_mk, gI0_mk, gZ_mk, gR_mk, isI_mk, isR_mk, tag_mk, lenE_mk, datR_mk, isOs, lenOs, fldS, lenS, gIs, gI0s, gZs, gRs, isIs, isRs, tagS, datRs, mkv, refV, fkS, isArr, tagOk, datI_mk, wrI_mk, wrA_mk, wrF_mk, wrJ_mk, List.length_cons, List.length_nil, List.getElem?_cons_zero, List.getElem?_cons_succ, List.getElem?_nil, ↓reduceIte, Nat.reduceAdd, Nat.reduceMul, Nat.reduceSub, Nat.reduceDiv, Nat.reduceMod, Nat.reduceLT, Nat.reduceLeDiff, Nat.reduceBEq, Nat.reduceEqDiff, Nat.zero_lt_succ, beq_self_eq_true, Bool.true_and, Bool.and_true, Bool.or_true, Bool.true_or, Bool.or_false, Bool.false_or, Bool.false_and, Bool.and_false, Bool.not_true, Bool.not_false, Bool.false_eq_true, Bool.true_eq_false, Bool.and_eq_true, Bool.or_eq_true, Bool.not_eq_true', decide_eq_true_eq, decide_eq_false_iff_not, decide_true, decide_false, and_self, true_and, and_true, or_true, true_or, or_false, false_or, and_false, false_and, or_self, reduceCtorEq, not_true_eq_false, not_false_eq_true, if_true, if_false, Int32.reduceAdd, Int32.reduceSub, Int32.reduceMul, Int32.reduceDiv, Int32.reduceMod, Int32.reduceLT, Int32.reduceLE, eqF1, eqF2, Int32.reduceOfNat, Int32.reduceOfInt, Int32.reduceToNatClampNeg, inb_lit, e_L_law_752, e_L_law_754, e_L_law_757, e_L_law_758, e_L_law_759, e_L_law_761, e_L_law_764, e_L_law_766, e_L_law_767, e_L_law_770, e_L_law_772, e_L_law_774, e_L_law_777, e_L_law_779, e_L_law_782, e_L_law_784, e_L_law_786, e_L_law_788, e_L_law_790, e_L_law_793, e_L_law_794, e_L_law_797, e_L_law_798, e_L_law_800, e_L_law_801, e_L_law_802, e_L_law_804, e_L_law_806, e_L_law_807, e_L_law_810, e_L_law_812, e_L_law_815, e_L_law_816, e_L_law_818, e_L_law_821, e_L_law_824, e_L_law_825, e_L_law_828, e_L_law_831, e_L_law_832, e_L_law_833, e_L_law_835, e_L_law_836, e_L_law_837, e_L_law_840, e_L_law_843, e_L_law_844, e_L_law_847, e_L_law_848, e_L_law_849, e_L_law_852, sh_1, q1, at1, z_asked, w3, n0, t0, y1, nn, z3, x1, Int32.or_zero, oN_succ, h16, h20]
          exact g1
    · have pm := dS_pos c0
      obtain ⟨I1, v1, v2, v3, v4⟩ := z_say (d := d + 1) (N := N) (J := J) (m := e t - 1) w1 (by omega) (by omega)
      obtain ⟨I2, y1, y2, y3, y4⟩ := z_day (d := d + 1) (N := N) (J := J) v2 (by rw [List.length_append, List.length_singleton]; omega)
      have n1 := oN_neg (k := totN (hF H0 (D ++ [(1, e t - 1)]))) (by have := totN_le (hF H0 (D ++ [(1, e t - 1)])); omega)
      have n2 := oN_neg (k := totN (hF H0 (D ++ [(1, e t - 1)] ++ [(0, 0)]))) (by have := totN_le (hF H0 (D ++ [(1, e t - 1)] ++ [(0, 0)])); omega)
      have n3 : ¬ Int32.ofNat (e t - 1) < 0 := oN_neg (by omega)
      have hH2 : hF H0 (D ++ [(1, e t - 1)] ++ [(0, 0)]) = bH e H (t + 1) := by
        rw [hF_app, hF_app, hH, pS_go c0]; rfl
      have z3 := z_c3 (d := d + 1) (N := N) (J := J) y2
      rw [hH2] at z3
      obtain ⟨I3, x1, x2, x3, x4⟩ := z_lay (d := d + 1) (N := N) (J := J) (v := Int32.ofNat (totN (bH e H (t + 1)))) y2 (rw_q (rw_q hRb v3) y3) (show t < m by omega)
      rw [show Int32.ofNat 1 = 1 from rfl] at x1
      obtain ⟨I4, D4, b20, b21, g1, g2, g3, g4, g5⟩ := ih (t + 1) I3 (D ++ [(1, e t - 1)] ++ [(0, 0)]) (sd ||| (1 : Int32) <<< (Int32.ofNat (e t - 1) &&& 31)) fs1 (.int 1) (.int (Int32.ofNat (e t - 1))) rfl rfl (by omega) x2 (rw_x (rw_q (rw_q hRa v3) y3) x4 (by omega)) (rw_e x3 (fun q hq => by
        show (if q = t then _ else if q < t then _ else (0 : Int32)) = if q < t + 1 then _ else 0
        by_cases c : q = t
        · rw [if_pos c, if_pos (by omega), c]
        · rw [if_neg c]
          by_cases c' : q < t
          · rw [if_pos c', if_pos (by omega)]
          · rw [if_neg c', if_neg (by omega)])) (by rw [List.length_append, List.length_append, List.length_singleton, List.length_singleton]; omega) hH2
      rw [ffin] at g1
      · refine ⟨I4, D4, b20, b21, ?_, g2, g3, g4, g5⟩
        have me : mN2 e (j + 1) t sd = mN2 e j (t + 1) (sd ||| (1 : Int32) <<< (Int32.ofNat (e t - 1) &&& 31)) := by
          show mN2 e j (t + 1) (sd ||| if e t = 0 then 0 else _) = _
          rw [if_neg c0]
        rw [me]
        rw [pm] at at1 w3 v1 hfs
        by_cases t0 : t = 0
        · subst t0
          rw [if_pos rfl] at hfs
          subst hfs
          have fe : (if 0 = 0 then (if j + 1 = 0 then fs else dS (e 0)) else fs) = dS (e 0) := by rw [if_pos rfl, if_neg (by omega)]
          rw [fe] at g1 ⊢
          rw [show Int32.ofNat 0 = 0 from rfl] at q1 at1 x1 ⊢
          rw [e_L_law_750]
          simp only [K_some, K_void, K_none, wA_ref, wA_null, isNull_null, isNull_ref, c_int, c_long, c_ref, c_null, c_float, catS_nil, catS_cons, fit_int, fit_bool, fit_long, isO_mk, len_mk, fld_mk, gI_mk, gI0_mk, gZ_mk, gR_mk, isI_mk, isR_mk, tag_mk, lenE_mk, datR_mk, isOs, lenOs, fldS, lenS, gIs, gI0s, gZs, gRs, isIs, isRs, tagS, datRs, mkv, refV, fkS, isArr, tagOk, datI_mk, wrI_mk, wrA_mk, wrF_mk, wrJ_mk, List.length_cons, List.length_nil, List.getElem?_cons_zero, List.getElem?_cons_succ, List.getElem?_nil, ↓reduceIte, Nat.reduceAdd, Nat.reduceMul, Nat.reduceSub, Nat.reduceDiv, Nat.reduceMod, Nat.reduceLT, Nat.reduceLeDiff, Nat.reduceBEq, Nat.reduceEqDiff, Nat.zero_lt_succ, beq_self_eq_true, Bool.true_and, Bool.and_true, Bool.or_true, Bool.true_or, Bool.or_false, Bool.false_or, Bool.false_and, Bool.and_false, Bool.not_true, Bool.not_false, Bool.false_eq_true, Bool.true_eq_false, Bool.and_eq_true, Bool.or_eq_true, Bool.not_eq_true', decide_eq_true_eq, decide_eq_false_iff_not, decide_true, decide_false, and_self, true_and, and_true, or_true, true_or, or_false, false_or, and_false, false_and, or_self, reduceCtorEq, not_true_eq_false, not_false_eq_true, if_true, if_false, Int32.reduceAdd, Int32.reduceSub, Int32.reduceMul, Int32.reduceDiv, Int32.reduceMod, Int32.reduceLT, Int32.reduceLE, eqF1, eqF2, Int32.reduceOfNat, Int32.reduceOfInt, Int32.reduceToNatClampNeg, inb_lit, e_L_law_752, e_L_law_754, e_L_law_757, e_L_law_758, e_L_law_759, e_L_law_761, e_L_law_764, e_L_law_766, e_L_law_767, e_L_law_770, e_L_law_772, e_L_law_774, e_L_law_777, e_L_law_779, e_L_law_782, e_L_law_784, e_L_law_786, e_L_law_788, e_L_law_790, e_L_law_793, e_L_law_794, e_L_law_797, e_L_law_798, e_L_law_800, e_L_law_801, e_L_law_802, e_L_law_804, e_L_law_806, e_L_law_807, e_L_law_810, e_L_law_812, e_L_law_815, e_L_law_816, e_L_law_818, e_L_law_821, e_L_law_824, e_L_law_825, e_L_law_828, e_L_law_831, e_L_law_832, e_L_law_833, e_L_law_835, e_L_law_836, e_L_law_837, e_L_law_840, e_L_law_843, e_L_law_844, e_L_law_847, e_L_law_848, e_L_law_849, e_L_law_852, sh_1, q1, at1, z_asked, w3, n3, v1, n1, y1, n2, z3, x1, h16, h20]
          exact g1
        · rw [if_neg t0] at hfs
          subst hfs
          rw [if_neg t0] at g1
          rw [e_L_law_750]
          simp only [K_some, K_void, K_none, wA_ref, wA_null, isNull_null, isNull_ref, c_int, c_long, c_ref, c_null, c_float, catS_nil, catS_cons, fit_int, fit_bool, fit_long, isO_mk, len_mk, fld_mk, gI_mk, gI0_mk, gZ_mk, gR_mk, isI_mk, isR_mk, tag_mk, lenE_mk, datR_mk, isOs, lenOs, fldS, lenS, gIs, gI0s, gZs, gRs, isIs, isRs, tagS, datRs, mkv, refV, fkS, isArr, tagOk, datI_mk, wrI_mk, wrA_mk, wrF_mk, wrJ_mk, List.length_cons, List.length_nil, List.getElem?_cons_zero, List.getElem?_cons_succ, List.getElem?_nil, ↓reduceIte, Nat.reduceAdd, Nat.reduceMul, Nat.reduceSub, Nat.reduceDiv, Nat.reduceMod, Nat.reduceLT, Nat.reduceLeDiff, Nat.reduceBEq, Nat.reduceEqDiff, Nat.zero_lt_succ, beq_self_eq_true, Bool.true_and, Bool.and_true, Bool.or_true, Bool.true_or, Bool.or_false, Bool.false_or, Bool.false_and, Bool.and_false, Bool.not_true, Bool.not_false, Bool.false_eq_true, Bool.true_eq_false, Bool.and_eq_true, Bool.or_eq_true, Bool.not_eq_true', decide_eq_true_eq, decide_eq_false_iff_not, decide_true, decide_false, and_self, true_and, and_true, or_true, true_or, or_false, false_or, and_false, false_and, or_self, reduceCtorEq, not_true_eq_false, not_false_eq_true, if_true, if_false, Int32.reduceAdd, Int32.reduceSub, Int32.reduceMul, Int32.reduceDiv, Int32.reduceMod, Int32.reduceLT, Int32.reduceLE, eqF1, eqF2, Int32.reduceOfNat, Int32.reduceOfInt, Int32.reduceToNatClampNeg, inb_lit, e_L_law_752, e_L_law_754, e_L_law_757, e_L_law_758, e_L_law_759, e_L_law_761, e_L_law_764, e_L_law_766, e_L_law_767, e_L_law_770, e_L_law_772, e_L_law_774, e_L_law_777, e_L_law_779, e_L_law_782, e_L_law_784, e_L_law_786, e_L_law_788, e_L_law_790, e_L_law_793, e_L_law_794, e_L_law_797, e_L_law_798, e_L_law_800, e_L_law_801, e_L_law_802, e_L_law_804, e_L_law_806, e_L_law_807, e_L_law_810, e_L_law_812, e_L_law_815, e_L_law_816, e_L_law_818, e_L_law_821, e_L_law_824, e_L_law_825, e_L_law_828, e_L_law_831, e_L_law_832, e_L_law_833, e_L_law_835, e_L_law_836, e_L_law_837, e_L_law_840, e_L_law_843, e_L_law_844, e_L_law_847, e_L_law_848, e_L_law_849, e_L_law_852, sh_1, q1, at1, z_asked, w3, n0, t0, n3, v1, n1, y1, n2, z3, x1, oN_succ, h16, h20]
          exact g1
end
