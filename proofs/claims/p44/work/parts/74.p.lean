/-! THE LAW'S PLANS: laid, does -/
theorem dS_neg' : ∀ s : Fin 5, (dS s.val < 0) = (s.val = 0) ∧ (s.val ≠ 0 → dS s.val = Int32.ofNat (s.val - 1)) ∧ (dS s.val = -9) = (s.val = 0) := by
  intro s
  refine ⟨?_, fun h => by unfold dS; rw [if_neg h], ?_⟩
  · revert s; decide +kernel
  · revert s; decide +kernel
theorem dS_neg {s : Nat} (h : s < 5) : (dS s < 0) = (s = 0) := (dS_neg' ⟨s, h⟩).1
theorem dS_pos {s : Nat} (h : s ≠ 0) : dS s = Int32.ofNat (s - 1) := by unfold dS; rw [if_neg h]
theorem dS_0 : dS 0 = -9 := rfl
section
variable {d N a b c k n m i μ l : Nat} {T I I' : IT} {J : JT} {r v x y z w : Int32} {M : Mem} {H H0 : Nat → Fin 13} {g f : FV} {D : List (Nat × Nat)} {K : Nat → Option (List (Nat × Nat))} {e : Nat → Nat}
theorem laid1 (hm : m ≤ 40) : ∀ (j t : Nat) (I : IT) (s : Nat → Nat) (a6 : Value), t + j = m → WO T n l f H0 K D I → Rw I k m (fun q => if q < t then dS (s q) else 0) → (∀ q, s q < 5) → ∃ (I' : IT) (s' : Nat → Nat), R (d + 10) iL_laid 20 [.ref 1, .int (Int32.ofNat k), .int (Int32.ofNat m), .int x, .int 1, .int (Int32.ofNat t), a6] [] (mk N I J) = some (some (.int 1), mk N I' J) ∧ WO T n l f H0 K D I' ∧ Rw I' k m (fun q => dS (s' q)) ∧ (∀ q, s' q < 5) ∧ RWx k I I' := by
  intro j
  induction j with
  | zero =>
    intro t I s a6 ht hW hR hs
    obtain rfl : t = m := by omega
    have q1 : ¬ Int32.ofNat t < Int32.ofNat t := fun h => by have := (oN_lt (by omega) (by omega)).mp h; omega
    refine ⟨I, s, ?_, hW, rw_e hR (fun q hq => by show (if q < t then dS (s q) else 0) = _; rw [if_pos hq]), hs, fun _ _ _ _ _ => rfl⟩
    rw [e_L_laid_20]
    simp only [K_some, K_void, K_none, wA_ref, wA_null, isNull_null, isNull_ref, c_int, c_long, c_ref, c_null, c_float, catS_nil, catS_cons, fit_int, fit_bool, fit_long, isO_mk, len_mk, fld_mk, gI_mk, gI0_mk, gZ_mk, gR_mk, isI_mk, isR_mk, tag_mk, lenE_mk, datR_mk, isOs, lenOs, fldS, lenS, gIs, gI0s, gZs, gRs, isIs, isRs, tagS, datRs, mkv, refV, fkS, isArr, tagOk, datI_mk, wrI_mk, wrA_mk, wrF_mk, wrJ_mk, List.length_cons, List.length_nil, List.getElem?_cons_zero, List.getElem?_cons_succ, List.getElem?_nil, ↓reduceIte, Nat.reduceAdd, Nat.reduceMul, Nat.reduceSub, Nat.reduceDiv, Nat.reduceMod, Nat.reduceLT, Nat.reduceLeDiff, Nat.reduceBEq, Nat.reduceEqDiff, Nat.zero_lt_succ, beq_self_eq_true, Bool.true_and, Bool.and_true, Bool.or_true, Bool.true_or, Bool.or_false, Bool.false_or, Bool.false_and, Bool.and_false, Bool.not_true, Bool.not_false, Bool.false_eq_true, Bool.true_eq_false, Bool.and_eq_true, Bool.or_eq_true, Bool.not_eq_true', decide_eq_true_eq, decide_eq_false_iff_not, decide_true, decide_false, and_self, true_and, and_true, or_true, true_or, or_false, false_or, and_false, false_and, or_self, reduceCtorEq, not_true_eq_false, not_false_eq_true, if_true, if_false, Int32.reduceAdd, Int32.reduceSub, Int32.reduceMul, Int32.reduceDiv, Int32.reduceMod, Int32.reduceLT, Int32.reduceLE, eqF1, eqF2, Int32.reduceOfNat, Int32.reduceOfInt, Int32.reduceToNatClampNeg, inb_lit, e_L_laid_0, e_L_laid_1, e_L_laid_2, e_L_laid_3, e_L_laid_6, e_L_laid_7, e_L_laid_10, e_L_laid_11, e_L_laid_14, e_L_laid_15, e_L_laid_17, e_L_laid_18, e_L_laid_22, e_L_laid_23, e_L_laid_26, e_L_laid_27, e_L_laid_28, e_L_laid_30, e_L_laid_31, e_L_laid_32, e_L_laid_33, e_L_laid_36, e_L_laid_37, e_L_laid_38, e_L_laid_40, e_L_laid_42, e_L_laid_45, e_L_laid_46, e_L_laid_47, e_L_laid_49, e_L_laid_51, e_L_laid_54, e_L_laid_56, e_L_laid_59, e_L_laid_61, e_L_laid_64, e_L_laid_65, e_L_laid_68, e_L_laid_69, e_L_laid_72, e_L_laid_73, e_L_laid_75, e_L_laid_78, e_L_laid_81, e_L_laid_83, q1]
  | succ j ih =>
    intro t I s a6 ht hW hR hs
    have q1 : Int32.ofNat t < Int32.ofNat m := (oN_lt (by omega) (by omega)).mpr (by omega)
    obtain ⟨u, hu⟩ : ∃ u, upN (x >>> (3 * Int32.ofNat t &&& 31)) 5 = u := ⟨_, rfl⟩
    have u5 : u < 5 := by rw [← hu]; exact upN_lt _ (by omega)
    obtain ⟨I1, c1, c2, c3, c4⟩ := z_lay (d := d) (N := N) (J := J) (v := dS u) hW hR (show t < m by omega)
    obtain ⟨I2, s', d1, d2, d3, d4, d5⟩ := ih (t + 1) I1 (fun q => if q = t then u else s q) (.int (Int32.ofNat u - 1)) (by omega) c2 (rw_e c3 (fun q hq => by
      show (if q = t then dS u else if q < t then dS (s q) else 0) = if q < t + 1 then dS (if q = t then u else s q) else 0
      by_cases c : q = t
      · rw [if_pos c, if_pos (by omega), if_pos c]
      · rw [if_neg c]
        by_cases c' : q < t
        · rw [if_pos c', if_pos (by omega), if_neg c]
        · rw [if_neg c', if_neg (by omega)])) (fun q => by
      show (if q = t then u else s q) < 5
      split
      · exact u5
      · exact hs q)
    refine ⟨I2, s', ?_, d2, d3, d4, fun a h1 h2 h3 h4 => by rw [d5 a h1 h2 h3 h4, c4 a h1 h2 h3 h4]⟩
    rw [e_L_laid_20]
    by_cases c : u = 0
    · subst c
      have m1 : Int32.ofNat 0 - 1 < 0 := by decide
      rw [dS_0] at c1
      simp only [K_some, K_void, K_none, wA_ref, wA_null, isNull_null, isNull_ref, c_int, c_long, c_ref, c_null, c_float, catS_nil, catS_cons, fit_int, fit_bool, fit_long, isO_mk, len_mk, fld_mk, gI_mk, gI0_mk, gZ_mk, gR_mk, isI_mk, isR_mk, tag_mk, lenE_mk, datR_mk, isOs, lenOs, fldS, lenS, gIs, gI0s, gZs, gRs, isIs, isRs, tagS, datRs, mkv, refV, fkS, isArr, tagOk, datI_mk, wrI_mk, wrA_mk, wrF_mk, wrJ_mk, List.length_cons, List.length_nil, List.getElem?_cons_zero, List.getElem?_cons_succ, List.getElem?_nil, ↓reduceIte, Nat.reduceAdd, Nat.reduceMul, Nat.reduceSub, Nat.reduceDiv, Nat.reduceMod, Nat.reduceLT, Nat.reduceLeDiff, Nat.reduceBEq, Nat.reduceEqDiff, Nat.zero_lt_succ, beq_self_eq_true, Bool.true_and, Bool.and_true, Bool.or_true, Bool.true_or, Bool.or_false, Bool.false_or, Bool.false_and, Bool.and_false, Bool.not_true, Bool.not_false, Bool.false_eq_true, Bool.true_eq_false, Bool.and_eq_true, Bool.or_eq_true, Bool.not_eq_true', decide_eq_true_eq, decide_eq_false_iff_not, decide_true, decide_false, and_self, true_and, and_true, or_true, true_or, or_false, false_or, and_false, false_and, or_self, reduceCtorEq, not_true_eq_false, not_false_eq_true, if_true, if_false, Int32.reduceAdd, Int32.reduceSub, Int32.reduceMul, Int32.reduceDiv, Int32.reduceMod, Int32.reduceLT, Int32.reduceLE, eqF1, eqF2, Int32.reduceOfNat, Int32.reduceOfInt, Int32.reduceToNatClampNeg, inb_lit, e_L_laid_0, e_L_laid_1, e_L_laid_2, e_L_laid_3, e_L_laid_6, e_L_laid_7, e_L_laid_10, e_L_laid_11, e_L_laid_14, e_L_laid_15, e_L_laid_17, e_L_laid_18, e_L_laid_22, e_L_laid_23, e_L_laid_26, e_L_laid_27, e_L_laid_28, e_L_laid_30, e_L_laid_31, e_L_laid_32, e_L_laid_33, e_L_laid_36, e_L_laid_37, e_L_laid_38, e_L_laid_40, e_L_laid_42, e_L_laid_45, e_L_laid_46, e_L_laid_47, e_L_laid_49, e_L_laid_51, e_L_laid_54, e_L_laid_56, e_L_laid_59, e_L_laid_61, e_L_laid_64, e_L_laid_65, e_L_laid_68, e_L_laid_69, e_L_laid_72, e_L_laid_73, e_L_laid_75, e_L_laid_78, e_L_laid_81, e_L_laid_83, sh_1, q1, l_up5, hu, m1, c1, oN_succ]
      exact d1
    · have m0 : Int32.ofNat u - 1 = Int32.ofNat (u - 1) := oN_sub (b := 1) (by omega) (by omega)
      have m1 : ¬ Int32.ofNat (u - 1) < 0 := oN_neg (by omega)
      rw [m0] at d1
      rw [dS_pos c] at c1
      simp only [K_some, K_void, K_none, wA_ref, wA_null, isNull_null, isNull_ref, c_int, c_long, c_ref, c_null, c_float, catS_nil, catS_cons, fit_int, fit_bool, fit_long, isO_mk, len_mk, fld_mk, gI_mk, gI0_mk, gZ_mk, gR_mk, isI_mk, isR_mk, tag_mk, lenE_mk, datR_mk, isOs, lenOs, fldS, lenS, gIs, gI0s, gZs, gRs, isIs, isRs, tagS, datRs, mkv, refV, fkS, isArr, tagOk, datI_mk, wrI_mk, wrA_mk, wrF_mk, wrJ_mk, List.length_cons, List.length_nil, List.getElem?_cons_zero, List.getElem?_cons_succ, List.getElem?_nil, ↓reduceIte, Nat.reduceAdd, Nat.reduceMul, Nat.reduceSub, Nat.reduceDiv, Nat.reduceMod, Nat.reduceLT, Nat.reduceLeDiff, Nat.reduceBEq, Nat.reduceEqDiff, Nat.zero_lt_succ, beq_self_eq_true, Bool.true_and, Bool.and_true, Bool.or_true, Bool.true_or, Bool.or_false, Bool.false_or, Bool.false_and, Bool.and_false, Bool.not_true, Bool.not_false, Bool.false_eq_true, Bool.true_eq_false, Bool.and_eq_true, Bool.or_eq_true, Bool.not_eq_true', decide_eq_true_eq, decide_eq_false_iff_not, decide_true, decide_false, and_self, true_and, and_true, or_true, true_or, or_false, false_or, and_false, false_and, or_self, reduceCtorEq, not_true_eq_false, not_false_eq_true, if_true, if_false, Int32.reduceAdd, Int32.reduceSub, Int32.reduceMul, Int32.reduceDiv, Int32.reduceMod, Int32.reduceLT, Int32.reduceLE, eqF1, eqF2, Int32.reduceOfNat, Int32.reduceOfInt, Int32.reduceToNatClampNeg, inb_lit, e_L_laid_0, e_L_laid_1, e_L_laid_2, e_L_laid_3, e_L_laid_6, e_L_laid_7, e_L_laid_10, e_L_laid_11, e_L_laid_14, e_L_laid_15, e_L_laid_17, e_L_laid_18, e_L_laid_22, e_L_laid_23, e_L_laid_26, e_L_laid_27, e_L_laid_28, e_L_laid_30, e_L_laid_31, e_L_laid_32, e_L_laid_33, e_L_laid_36, e_L_laid_37, e_L_laid_38, e_L_laid_40, e_L_laid_42, e_L_laid_45, e_L_laid_46, e_L_laid_47, e_L_laid_49, e_L_laid_51, e_L_laid_54, e_L_laid_56, e_L_laid_59, e_L_laid_61, e_L_laid_64, e_L_laid_65, e_L_laid_68, e_L_laid_69, e_L_laid_72, e_L_laid_73, e_L_laid_75, e_L_laid_78, e_L_laid_81, e_L_laid_83, sh_1, q1, l_up5, hu, m0, m1, c1, oN_succ]
      exact d1
theorem l_laid (hW : WO T n l f H0 K D I) (hk : k < 6) (hm : m ≤ 40) : ∃ (I' : IT) (s' : Nat → Nat), C (d + 11) iL_laid [.ref 1, .int (Int32.ofNat k), .int (Int32.ofNat m), .int x] (mk N I J) = some (some (.int 1), mk N I' J) ∧ WO T n l f H0 K D I' ∧ Rw I' k m (fun q => dS (s' q)) ∧ (∀ q, s' q < 5) ∧ RWx k I I' := by
  obtain ⟨I1, c1, c2, c3, c4⟩ := z_row (d := d) (N := N) (J := J) hW hk hm
  obtain ⟨I2, s', d1, d2, d3, d4, d5⟩ := laid1 (d := d) (N := N) (J := J) (x := x) hm m 0 I1 (fun _ => 0) (.float 0) (by omega) c2 (rw_e c3 (fun q hq => by show (0 : Int32) = if q < 0 then _ else 0; rw [if_neg (by omega)])) (fun _ => by omega)
  rw [show Int32.ofNat 0 = 0 from rfl] at d1
  refine ⟨I2, s', ?_, d2, d3, d4, fun a h1 h2 h3 h4 => by rw [d5 a h1 h2 h3 h4, c4 a h1 h2 h3 h4]⟩
  simp only [K_some, K_void, K_none, wA_ref, wA_null, isNull_null, isNull_ref, c_int, c_long, c_ref, c_null, c_float, catS_nil, catS_cons, fit_int, fit_bool, fit_long, isO_mk, len_mk, fld_mk, gI_mk, gI0_mk, gZ_mk, gR_mk, isI_mk, isR_mk, tag_mk, lenE_mk, datR_mk, isOs, lenOs, fldS, lenS, gIs, gI0s, gZs, gRs, isIs, isRs, tagS, datRs, mkv, refV, fkS, isArr, tagOk, datI_mk, wrI_mk, wrA_mk, wrF_mk, wrJ_mk, List.length_cons, List.length_nil, List.getElem?_cons_zero, List.getElem?_cons_succ, List.getElem?_nil, ↓reduceIte, Nat.reduceAdd, Nat.reduceMul, Nat.reduceSub, Nat.reduceDiv, Nat.reduceMod, Nat.reduceLT, Nat.reduceLeDiff, Nat.reduceBEq, Nat.reduceEqDiff, Nat.zero_lt_succ, beq_self_eq_true, Bool.true_and, Bool.and_true, Bool.or_true, Bool.true_or, Bool.or_false, Bool.false_or, Bool.false_and, Bool.and_false, Bool.not_true, Bool.not_false, Bool.false_eq_true, Bool.true_eq_false, Bool.and_eq_true, Bool.or_eq_true, Bool.not_eq_true', decide_eq_true_eq, decide_eq_false_iff_not, decide_true, decide_false, and_self, true_and, and_true, or_true, true_or, or_false, false_or, and_false, false_and, or_self, reduceCtorEq, not_true_eq_false, not_false_eq_true, if_true, if_false, Int32.reduceAdd, Int32.reduceSub, Int32.reduceMul, Int32.reduceDiv, Int32.reduceMod, Int32.reduceLT, Int32.reduceLE, eqF1, eqF2, Int32.reduceOfNat, Int32.reduceOfInt, Int32.reduceToNatClampNeg, inb_lit, en_L_laid, e_L_laid_0, e_L_laid_1, e_L_laid_2, e_L_laid_3, e_L_laid_6, e_L_laid_7, e_L_laid_10, e_L_laid_11, e_L_laid_14, e_L_laid_15, e_L_laid_17, e_L_laid_18, e_L_laid_22, e_L_laid_23, e_L_laid_26, e_L_laid_27, e_L_laid_28, e_L_laid_30, e_L_laid_31, e_L_laid_32, e_L_laid_33, e_L_laid_36, e_L_laid_37, e_L_laid_38, e_L_laid_40, e_L_laid_42, e_L_laid_45, e_L_laid_46, e_L_laid_47, e_L_laid_49, e_L_laid_51, e_L_laid_54, e_L_laid_56, e_L_laid_59, e_L_laid_61, e_L_laid_64, e_L_laid_65, e_L_laid_68, e_L_laid_69, e_L_laid_72, e_L_laid_73, e_L_laid_75, e_L_laid_78, e_L_laid_81, e_L_laid_83, sh_1, c1]
  exact d1
/-- a day of a plan done -/
theorem pS_go {H : Nat → Fin 13} {s : Nat} (hs : s ≠ 0) : goH (0, 0) (goH (1, s - 1) H) = pS s H := by
  unfold pS
  rw [if_neg hs]
  rfl
theorem pS_g0 {H : Nat → Fin 13} : goH (0, 0) H = pS 0 H := rfl
def plD (s : Nat) : List (Nat × Nat) := if s = 0 then [(0, 0)] else [(1, s - 1), (0, 0)]
theorem hF_plD {s : Nat} : hF H0 (D ++ plD s) = pS s (hF H0 D) := by
  unfold plD
  by_cases c : s = 0
  · subst c; rw [if_pos rfl, hF_app]; rfl
  · rw [if_neg c, show D ++ [(1, s - 1), (0, 0)] = (D ++ [(1, s - 1)]) ++ [(0, 0)] by simp, hF_app, hF_app, pS_go c]
theorem plD_len {s : Nat} : (plD s).length ≤ 2 := by unfold plD; split <;> simp
theorem does1 (he : ∀ q, e q < 5) (hm : m ≤ 20) : ∀ (j t c : Nat) (I : IT) (D : List (Nat × Nat)) (a5 a6 : Value), a5.category = 1 → a6.category = 1 → t + j = m → c ≤ t → WO T n l f H0 K D I → Rw I k m (fun q => dS (e q)) → D.length + 2 * j ≤ 40 → hF H0 D = bH e H t → ∃ I' D', R (d + 10) iL_does 5 [.ref 1, .int (Int32.ofNat k), .int (Int32.ofNat m), .int (Int32.ofNat c), .int (Int32.ofNat t), a5, a6] [] (mk N I J) = some (some (.int (Int32.ofNat (sN e j t c))), mk N I' J) ∧ WO T n l f H0 K D' I' ∧ hF H0 D' = bH e H m ∧ D'.length ≤ D.length + 2 * j ∧ RWq I I' := by
  intro j
  induction j with
  | zero =>
    intro t c I D a5 a6 h5 h6 ht hc hW hR hL hH
    obtain rfl : t = m := by omega
    have q1 : ¬ Int32.ofNat t < Int32.ofNat t := fun h => by have := (oN_lt (by omega) (by omega)).mp h; omega
    refine ⟨I, D, ?_, hW, hH, by omega, fun _ _ _ => rfl⟩
    rw [e_L_does_5]
    simp only [K_some, K_void, K_none, wA_ref, wA_null, isNull_null, isNull_ref, c_int, c_long, c_ref, c_null, c_float, catS_nil, catS_cons, fit_int, fit_bool, fit_long, isO_mk, len_mk, fld_mk, gI_mk, gI0_mk, gZ_mk, gR_mk, isI_mk, isR_mk, tag_mk, lenE_mk, datR_mk, isOs, lenOs, fldS, lenS, gIs, gI0s, gZs, gRs, isIs, isRs, tagS, datRs, mkv, refV, fkS, isArr, tagOk, datI_mk, wrI_mk, wrA_mk, wrF_mk, wrJ_mk, List.length_cons, List.length_nil, List.getElem?_cons_zero, List.getElem?_cons_succ, List.getElem?_nil, ↓reduceIte, Nat.reduceAdd, Nat.reduceMul, Nat.reduceSub, Nat.reduceDiv, Nat.reduceMod, Nat.reduceLT, Nat.reduceLeDiff, Nat.reduceBEq, Nat.reduceEqDiff, Nat.zero_lt_succ, beq_self_eq_true, Bool.true_and, Bool.and_true, Bool.or_true, Bool.true_or, Bool.or_false, Bool.false_or, Bool.false_and, Bool.and_false, Bool.not_true, Bool.not_false, Bool.false_eq_true, Bool.true_eq_false, Bool.and_eq_true, Bool.or_eq_true, Bool.not_eq_true', decide_eq_true_eq, decide_eq_false_iff_not, decide_true, decide_false, and_self, true_and, and_true, or_true, true_or, or_false, false_or, and_false, false_and, or_self, reduceCtorEq, not_true_eq_false, not_false_eq_true, if_true, if_false, Int32.reduceAdd, Int32.reduceSub, Int32.reduceMul, Int32.reduceDiv, Int32.reduceMod, Int32.reduceLT, Int32.reduceLE, eqF1, eqF2, Int32.reduceOfNat, Int32.reduceOfInt, Int32.reduceToNatClampNeg, inb_lit, e_L_does_0, e_L_does_1, e_L_does_2, e_L_does_3, e_L_does_7, e_L_does_8, e_L_does_11, e_L_does_12, e_L_does_13, e_L_does_15, e_L_does_18, e_L_does_20, e_L_does_21, e_L_does_24, e_L_does_26, e_L_does_27, e_L_does_29, e_L_does_32, e_L_does_33, e_L_does_36, e_L_does_37, e_L_does_38, e_L_does_39, e_L_does_41, e_L_does_42, e_L_does_45, e_L_does_47, e_L_does_50, e_L_does_51, e_L_does_53, e_L_does_56, e_L_does_59, e_L_does_60, e_L_does_63, e_L_does_66, e_L_does_67, e_L_does_68, e_L_does_71, e_L_does_74, e_L_does_75, q1, sN]
  | succ j ih =>
    intro t c I D a5 a6 h5 h6 ht hc hW hR hL hH
    have q1 : Int32.ofNat t < Int32.ofNat m := (oN_lt (by omega) (by omega)).mpr (by omega)
    have z1 := z_at (d := d) (N := N) (J := J) hR (show t < m by omega)
    obtain ⟨w1, w2, w3⟩ := wo_t (v := dS (e t)) hW
    have hR1 := rw_q hR w2
    have aa : (dS (e t) < 0) = (e t = 0) := dS_neg (he t)
    by_cases c0 : e t = 0
    · obtain ⟨I2, y1, y2, y3, y4⟩ := z_day (d := d) (N := N) (J := J) w1 (by omega)
      obtain ⟨I3, D3, x1, x2, x3, x4, x5⟩ := ih (t + 1) c I2 (D ++ [(0, 0)]) (.int 1) (.int (dS (e t))) rfl rfl (by omega) (by omega) y2 (rw_q hR1 y3) (by simp; omega) (by
        rw [hF_app, hH]
        show goH (0, 0) (bH e H t) = pS (e t) (bH e H t)
        rw [c0]; rfl)
      refine ⟨I3, D3, ?_, x2, x3, ?_, fun a h1 h2 => by rw [x5 a h1 h2, y3 a h1 h2, w2 a h1 h2]⟩
      · have nn := oN_neg (k := totN (hF H0 (D ++ [(0, 0)]))) (by have := totN_le (hF H0 (D ++ [(0, 0)])); omega)
        rw [c0, dS_0] at z1 w3 y1
        rw [c0, dS_0] at x1
        rw [e_L_does_5]
        simp only [K_some, K_void, K_none, wA_ref, wA_null, isNull_null, isNull_ref, c_int, c_long, c_ref, c_null, c_float, catS_nil, catS_cons, fit_int, fit_bool, fit_long, isO_mk, len_mk, fld_mk, gI_mk, gI0_mk, gZ_mk, gR_mk, isI_mk, isR_mk, tag_mk, lenE_mk, datR_mk, isOs, lenOs, fldS, lenS, gIs, gI0s, gZs, gRs, isIs, isRs, tagS, datRs, mkv, refV, fkS, isArr, tagOk, datI_mk, wrI_mk, wrA_mk, wrF_mk, wrJ_mk, List.length_cons, List.length_nil, List.getElem?_cons_zero, List.getElem?_cons_succ, List.getElem?_nil, ↓reduceIte, Nat.reduceAdd, Nat.reduceMul, Nat.reduceSub, Nat.reduceDiv, Nat.reduceMod, Nat.reduceLT, Nat.reduceLeDiff, Nat.reduceBEq, Nat.reduceEqDiff, Nat.zero_lt_succ, beq_self_eq_true, Bool.true_and, Bool.and_true, Bool.or_true, Bool.true_or, Bool.or_false, Bool.false_or, Bool.false_and, Bool.and_false, Bool.not_true, Bool.not_false, Bool.false_eq_true, Bool.true_eq_false, Bool.and_eq_true, Bool.or_eq_true, Bool.not_eq_true', decide_eq_true_eq, decide_eq_false_iff_not, decide_true, decide_false, and_self, true_and, and_true, or_true, true_or, or_false, false_or, and_false, false_and, or_self, reduceCtorEq, not_true_eq_false, not_false_eq_true, if_true, if_false, Int32.reduceAdd, Int32.reduceSub, Int32.reduceMul, Int32.reduceDiv, Int32.reduceMod, Int32.reduceLT, Int32.reduceLE, eqF1, eqF2, Int32.reduceOfNat, Int32.reduceOfInt, Int32.reduceToNatClampNeg, inb_lit, e_L_does_0, e_L_does_1, e_L_does_2, e_L_does_3, e_L_does_7, e_L_does_8, e_L_does_11, e_L_does_12, e_L_does_13, e_L_does_15, e_L_does_18, e_L_does_20, e_L_does_21, e_L_does_24, e_L_does_26, e_L_does_27, e_L_does_29, e_L_does_32, e_L_does_33, e_L_does_36, e_L_does_37, e_L_does_38, e_L_does_39, e_L_does_41, e_L_does_42, e_L_does_45, e_L_does_47, e_L_does_50, e_L_does_51, e_L_does_53, e_L_does_56, e_L_does_59, e_L_does_60, e_L_does_63, e_L_does_66, e_L_does_67, e_L_does_68, e_L_does_71, e_L_does_74, e_L_does_75, sh_1, q1, z1, z_asked, w3, c0, y1, nn, oN_succ, sN, h5, h6, Int32.add_zero, Nat.add_zero]
        exact x1
      · rw [List.length_append, List.length_singleton] at x4; omega
    · have pm := dS_pos c0
      have h4 := he t
      obtain ⟨I1, v1, v2, v3, v4⟩ := z_say (d := d) (N := N) (J := J) (m := e t - 1) w1 (by omega) (by omega)
      obtain ⟨I2, y1, y2, y3, y4⟩ := z_day (d := d) (N := N) (J := J) v2 (by simp; omega)
      have n1 := oN_neg (k := totN (hF H0 (D ++ [(1, e t - 1)]))) (by have := totN_le (hF H0 (D ++ [(1, e t - 1)])); omega)
      have n2 := oN_neg (k := totN (hF H0 (D ++ [(1, e t - 1)] ++ [(0, 0)]))) (by have := totN_le (hF H0 (D ++ [(1, e t - 1)] ++ [(0, 0)])); omega)
      have n3 : ¬ Int32.ofNat (e t - 1) < 0 := oN_neg (by omega)
      obtain ⟨I3, D3, x1, x2, x3, x4, x5⟩ := ih (t + 1) (c + 1) I2 (D ++ [(1, e t - 1)] ++ [(0, 0)]) (.int 1) (.int (Int32.ofNat (e t - 1))) rfl rfl (by omega) (by omega) y2 (rw_q (rw_q hR1 v3) y3) (by simp; omega) (by
        rw [hF_app, hF_app, hH, pS_go c0]; rfl)
      refine ⟨I3, D3, ?_, x2, x3, ?_, fun a h1 h2 => by rw [x5 a h1 h2, y3 a h1 h2, v3 a h1 h2, w2 a h1 h2]⟩
      · rw [pm] at z1 w3 v1
        rw [e_L_does_5]
        simp only [K_some, K_void, K_none, wA_ref, wA_null, isNull_null, isNull_ref, c_int, c_long, c_ref, c_null, c_float, catS_nil, catS_cons, fit_int, fit_bool, fit_long, isO_mk, len_mk, fld_mk, gI_mk, gI0_mk, gZ_mk, gR_mk, isI_mk, isR_mk, tag_mk, lenE_mk, datR_mk, isOs, lenOs, fldS, lenS, gIs, gI0s, gZs, gRs, isIs, isRs, tagS, datRs, mkv, refV, fkS, isArr, tagOk, datI_mk, wrI_mk, wrA_mk, wrF_mk, wrJ_mk, List.length_cons, List.length_nil, List.getElem?_cons_zero, List.getElem?_cons_succ, List.getElem?_nil, ↓reduceIte, Nat.reduceAdd, Nat.reduceMul, Nat.reduceSub, Nat.reduceDiv, Nat.reduceMod, Nat.reduceLT, Nat.reduceLeDiff, Nat.reduceBEq, Nat.reduceEqDiff, Nat.zero_lt_succ, beq_self_eq_true, Bool.true_and, Bool.and_true, Bool.or_true, Bool.true_or, Bool.or_false, Bool.false_or, Bool.false_and, Bool.and_false, Bool.not_true, Bool.not_false, Bool.false_eq_true, Bool.true_eq_false, Bool.and_eq_true, Bool.or_eq_true, Bool.not_eq_true', decide_eq_true_eq, decide_eq_false_iff_not, decide_true, decide_false, and_self, true_and, and_true, or_true, true_or, or_false, false_or, and_false, false_and, or_self, reduceCtorEq, not_true_eq_false, not_false_eq_true, if_true, if_false, Int32.reduceAdd, Int32.reduceSub, Int32.reduceMul, Int32.reduceDiv, Int32.reduceMod, Int32.reduceLT, Int32.reduceLE, eqF1, eqF2, Int32.reduceOfNat, Int32.reduceOfInt, Int32.reduceToNatClampNeg, inb_lit, e_L_does_0, e_L_does_1, e_L_does_2, e_L_does_3, e_L_does_7, e_L_does_8, e_L_does_11, e_L_does_12, e_L_does_13, e_L_does_15, e_L_does_18, e_L_does_20, e_L_does_21, e_L_does_24, e_L_does_26, e_L_does_27, e_L_does_29, e_L_does_32, e_L_does_33, e_L_does_36, e_L_does_37, e_L_does_38, e_L_does_39, e_L_does_41, e_L_does_42, e_L_does_45, e_L_does_47, e_L_does_50, e_L_does_51, e_L_does_53, e_L_does_56, e_L_does_59, e_L_does_60, e_L_does_63, e_L_does_66, e_L_does_67, e_L_does_68, e_L_does_71, e_L_does_74, e_L_does_75, sh_1, q1, z1, z_asked, w3, n3, v1, n1, y1, n2, oN_succ, sN, c0, h5, h6]
        exact x1
      · rw [List.length_append, List.length_append, List.length_singleton, List.length_singleton] at x4; omega
theorem l_does (hW : WO T n l f H0 K D I) (hR : Rw I k m (fun q => dS (e q))) (he : ∀ q, e q < 5) (hm : m ≤ 20) (hL : D.length + 2 * m ≤ 40) : ∃ I' D', C (d + 11) iL_does [.ref 1, .int (Int32.ofNat k), .int (Int32.ofNat m)] (mk N I J) = some (some (.int (Int32.ofNat (sN e m 0 0))), mk N I' J) ∧ WO T n l f H0 K D' I' ∧ hF H0 D' = bH e (hF H0 D) m ∧ D'.length ≤ D.length + 2 * m ∧ RWq I I' := by
  obtain ⟨I', D', e1, e2, e3, e4, e5⟩ := does1 (d := d) (N := N) (J := J) he hm m 0 0 I D (.float 0) (.float 0) rfl rfl (by omega) (by omega) hW hR hL rfl
  refine ⟨I', D', ?_, e2, e3, e4, e5⟩
  rw [show Int32.ofNat 0 = 0 from rfl] at e1
  simp only [K_some, K_void, K_none, wA_ref, wA_null, isNull_null, isNull_ref, c_int, c_long, c_ref, c_null, c_float, catS_nil, catS_cons, fit_int, fit_bool, fit_long, isO_mk, len_mk, fld_mk, gI_mk, gI0_mk, gZ_mk, gR_mk, isI_mk, isR_mk, tag_mk, lenE_mk, datR_mk, isOs, lenOs, fldS, lenS, gIs, gI0s, gZs, gRs, isIs, isRs, tagS, datRs, mkv, refV, fkS, isArr, tagOk, datI_mk, wrI_mk, wrA_mk, wrF_mk, wrJ_mk, List.length_cons, List.length_nil, List.getElem?_cons_zero, List.getElem?_cons_succ, List.getElem?_nil, ↓reduceIte, Nat.reduceAdd, Nat.reduceMul, Nat.reduceSub, Nat.reduceDiv, Nat.reduceMod, Nat.reduceLT, Nat.reduceLeDiff, Nat.reduceBEq, Nat.reduceEqDiff, Nat.zero_lt_succ, beq_self_eq_true, Bool.true_and, Bool.and_true, Bool.or_true, Bool.true_or, Bool.or_false, Bool.false_or, Bool.false_and, Bool.and_false, Bool.not_true, Bool.not_false, Bool.false_eq_true, Bool.true_eq_false, Bool.and_eq_true, Bool.or_eq_true, Bool.not_eq_true', decide_eq_true_eq, decide_eq_false_iff_not, decide_true, decide_false, and_self, true_and, and_true, or_true, true_or, or_false, false_or, and_false, false_and, or_self, reduceCtorEq, not_true_eq_false, not_false_eq_true, if_true, if_false, Int32.reduceAdd, Int32.reduceSub, Int32.reduceMul, Int32.reduceDiv, Int32.reduceMod, Int32.reduceLT, Int32.reduceLE, eqF1, eqF2, Int32.reduceOfNat, Int32.reduceOfInt, Int32.reduceToNatClampNeg, inb_lit, en_L_does, e_L_does_0, e_L_does_1, e_L_does_2, e_L_does_3, e_L_does_7, e_L_does_8, e_L_does_11, e_L_does_12, e_L_does_13, e_L_does_15, e_L_does_18, e_L_does_20, e_L_does_21, e_L_does_24, e_L_does_26, e_L_does_27, e_L_does_29, e_L_does_32, e_L_does_33, e_L_does_36, e_L_does_37, e_L_does_38, e_L_does_39, e_L_does_41, e_L_does_42, e_L_does_45, e_L_does_47, e_L_does_50, e_L_does_51, e_L_does_53, e_L_does_56, e_L_does_59, e_L_does_60, e_L_does_63, e_L_does_66, e_L_does_67, e_L_does_68, e_L_does_71, e_L_does_74, e_L_does_75]
  exact e1
end
