/-! KEPT FARMS: keep, on -/
theorem cpy40 {f g : Nat → Int32} {j : Nat} (h : j < 40) : va_cpy f g 0 0 40 j = f j := by
  unfold va_cpy
  rw [if_pos (by omega)]
  congr 1
  omega
section
variable {d N a b k n m i μ l : Nat} {I : IT} {J : JT} {r s v x y z w : Int32} {M : Mem} {H : Nat → Fin 13} {g f : FV} {D D' : List (Nat × Nat)} {K : Nat → Option (List (Nat × Nat))} {p : Nat × Nat} {I' : IT} {T : IT} {H0 : Nat → Fin 13}
theorem sh_kept (h : k < 3) : sh N (20 + 3 * k) = .inr (.inr (0, [(2, 21 + 3 * k), (2, 22 + 3 * k), (0, 0)])) := by
  obtain rfl | rfl | rfl : k = 0 ∨ k = 1 ∨ k = 2 := by omega
  all_goals rfl
theorem sh_keptB (h : k < 3) : sh N (21 + 3 * k) = .inl (0, 40) := by
  obtain rfl | rfl | rfl : k = 0 ∨ k = 1 ∨ k = 2 := by omega
  all_goals rfl
theorem sh_keptC (h : k < 3) : sh N (22 + 3 * k) = .inl (0, 40) := by
  obtain rfl | rfl | rfl : k = 0 ∨ k = 1 ∨ k = 2 := by omega
  all_goals rfl
theorem kept_at (h : k < 3) : datR (rd (mk N I J) 13) k = some (20 + 3 * k) := by
  rw [datR_mk]
  obtain rfl | rfl | rfl : k = 0 ∨ k = 1 ∨ k = 2 := by omega
  all_goals rfl
theorem q1_keptOf (h : k < 3) : C (d + 1) iX1_keptOf [.ref 4, .int (Int32.ofNat k)] (mk N I J) = some (some (.ref (20 + 3 * k)), mk N I J) := by
  have h1 : inb (Int32.ofNat k) 3 = true := inb_ofNat h (by omega)
  have h2 := inb_neg h1
  have h3 := inb_lt h1 (by omega)
  rw [show Int32.ofNat 3 = 3 from rfl] at h3
  have h4 : (Int32.ofNat k).toNatClampNeg = k := nat_ofNat (by omega)
  simp only [kept_at h, K_some, K_void, K_none, wA_ref, wA_null, isNull_null, isNull_ref, c_int, c_long, c_ref, c_null, c_float, catS_nil, catS_cons, fit_int, fit_bool, fit_long, isO_mk, len_mk, fld_mk, gI_mk, gI0_mk, gZ_mk, gR_mk, isI_mk, isR_mk, tag_mk, lenE_mk, datR_mk, isOs, lenOs, fldS, lenS, gIs, gI0s, gZs, gRs, isIs, isRs, tagS, datRs, mkv, refV, fkS, isArr, tagOk, datI_mk, wrI_mk, wrA_mk, wrF_mk, wrJ_mk, List.length_cons, List.length_nil, List.getElem?_cons_zero, List.getElem?_cons_succ, List.getElem?_nil, ↓reduceIte, Nat.reduceAdd, Nat.reduceMul, Nat.reduceSub, Nat.reduceDiv, Nat.reduceMod, Nat.reduceLT, Nat.reduceLeDiff, Nat.reduceBEq, Nat.reduceEqDiff, Nat.zero_lt_succ, beq_self_eq_true, Bool.true_and, Bool.and_true, Bool.or_true, Bool.true_or, Bool.or_false, Bool.false_or, Bool.false_and, Bool.and_false, Bool.not_true, Bool.not_false, Bool.false_eq_true, Bool.true_eq_false, Bool.and_eq_true, Bool.or_eq_true, Bool.not_eq_true', decide_eq_true_eq, decide_eq_false_iff_not, decide_true, decide_false, and_self, true_and, and_true, or_true, true_or, or_false, false_or, and_false, false_and, or_self, reduceCtorEq, not_true_eq_false, not_false_eq_true, if_true, if_false, Int32.reduceAdd, Int32.reduceSub, Int32.reduceMul, Int32.reduceDiv, Int32.reduceMod, Int32.reduceLT, Int32.reduceLE, eqF1, eqF2, Int32.reduceOfNat, Int32.reduceOfInt, Int32.reduceToNatClampNeg, inb_lit, en_X1_keptOf, e_X1_keptOf_0, e_X1_keptOf_1, e_X1_keptOf_4, e_X1_keptOf_5, e_X1_keptOf_6, e_X1_keptOf_9, e_X1_keptOf_10, e_X1_keptOf_13, e_X1_keptOf_14, e_X1_keptOf_17, e_X1_keptOf_18, e_X1_keptOf_19, e_X1_keptOf_22, e_X1_keptOf_23, sh_4, sh_13, sh_1, sh_2, sh_3, sh_7, sh_8, sh_9, sh_10, sh_11, sh_12, sh_29, sh_35, sh_50, sh_53, sh_54, sh_55, sh_56, h1, h2, h3, h4]
theorem q1_keptNo (h : ¬ inb r 3 = true) : C (d + 1) iX1_keptOf [.ref 4, .int r] (mk N I J) = some (some .null, mk N I J) := by
  rcases inb_no (n := 3) h (by omega) with h1 | h1
  · simp only [K_some, K_void, K_none, wA_ref, wA_null, isNull_null, isNull_ref, c_int, c_long, c_ref, c_null, c_float, catS_nil, catS_cons, fit_int, fit_bool, fit_long, isO_mk, len_mk, fld_mk, gI_mk, gI0_mk, gZ_mk, gR_mk, isI_mk, isR_mk, tag_mk, lenE_mk, datR_mk, isOs, lenOs, fldS, lenS, gIs, gI0s, gZs, gRs, isIs, isRs, tagS, datRs, mkv, refV, fkS, isArr, tagOk, datI_mk, wrI_mk, wrA_mk, wrF_mk, wrJ_mk, List.length_cons, List.length_nil, List.getElem?_cons_zero, List.getElem?_cons_succ, List.getElem?_nil, ↓reduceIte, Nat.reduceAdd, Nat.reduceMul, Nat.reduceSub, Nat.reduceDiv, Nat.reduceMod, Nat.reduceLT, Nat.reduceLeDiff, Nat.reduceBEq, Nat.reduceEqDiff, Nat.zero_lt_succ, beq_self_eq_true, Bool.true_and, Bool.and_true, Bool.or_true, Bool.true_or, Bool.or_false, Bool.false_or, Bool.false_and, Bool.and_false, Bool.not_true, Bool.not_false, Bool.false_eq_true, Bool.true_eq_false, Bool.and_eq_true, Bool.or_eq_true, Bool.not_eq_true', decide_eq_true_eq, decide_eq_false_iff_not, decide_true, decide_false, and_self, true_and, and_true, or_true, true_or, or_false, false_or, and_false, false_and, or_self, reduceCtorEq, not_true_eq_false, not_false_eq_true, if_true, if_false, Int32.reduceAdd, Int32.reduceSub, Int32.reduceMul, Int32.reduceDiv, Int32.reduceMod, Int32.reduceLT, Int32.reduceLE, eqF1, eqF2, Int32.reduceOfNat, Int32.reduceOfInt, Int32.reduceToNatClampNeg, inb_lit, en_X1_keptOf, e_X1_keptOf_0, e_X1_keptOf_1, e_X1_keptOf_4, e_X1_keptOf_5, e_X1_keptOf_6, e_X1_keptOf_9, e_X1_keptOf_10, e_X1_keptOf_13, e_X1_keptOf_14, e_X1_keptOf_17, e_X1_keptOf_18, e_X1_keptOf_19, e_X1_keptOf_22, e_X1_keptOf_23, sh_4, sh_13, sh_1, sh_2, sh_3, sh_7, sh_8, sh_9, sh_10, sh_11, sh_12, sh_29, sh_35, sh_50, sh_53, sh_54, sh_55, sh_56, h1]
  · rw [show Int32.ofNat 3 = 3 from rfl] at h1
    by_cases h2 : r < 0 <;> simp only [K_some, K_void, K_none, wA_ref, wA_null, isNull_null, isNull_ref, c_int, c_long, c_ref, c_null, c_float, catS_nil, catS_cons, fit_int, fit_bool, fit_long, isO_mk, len_mk, fld_mk, gI_mk, gI0_mk, gZ_mk, gR_mk, isI_mk, isR_mk, tag_mk, lenE_mk, datR_mk, isOs, lenOs, fldS, lenS, gIs, gI0s, gZs, gRs, isIs, isRs, tagS, datRs, mkv, refV, fkS, isArr, tagOk, datI_mk, wrI_mk, wrA_mk, wrF_mk, wrJ_mk, List.length_cons, List.length_nil, List.getElem?_cons_zero, List.getElem?_cons_succ, List.getElem?_nil, ↓reduceIte, Nat.reduceAdd, Nat.reduceMul, Nat.reduceSub, Nat.reduceDiv, Nat.reduceMod, Nat.reduceLT, Nat.reduceLeDiff, Nat.reduceBEq, Nat.reduceEqDiff, Nat.zero_lt_succ, beq_self_eq_true, Bool.true_and, Bool.and_true, Bool.or_true, Bool.true_or, Bool.or_false, Bool.false_or, Bool.false_and, Bool.and_false, Bool.not_true, Bool.not_false, Bool.false_eq_true, Bool.true_eq_false, Bool.and_eq_true, Bool.or_eq_true, Bool.not_eq_true', decide_eq_true_eq, decide_eq_false_iff_not, decide_true, decide_false, and_self, true_and, and_true, or_true, true_or, or_false, false_or, and_false, false_and, or_self, reduceCtorEq, not_true_eq_false, not_false_eq_true, if_true, if_false, Int32.reduceAdd, Int32.reduceSub, Int32.reduceMul, Int32.reduceDiv, Int32.reduceMod, Int32.reduceLT, Int32.reduceLE, eqF1, eqF2, Int32.reduceOfNat, Int32.reduceOfInt, Int32.reduceToNatClampNeg, inb_lit, en_X1_keptOf, e_X1_keptOf_0, e_X1_keptOf_1, e_X1_keptOf_4, e_X1_keptOf_5, e_X1_keptOf_6, e_X1_keptOf_9, e_X1_keptOf_10, e_X1_keptOf_13, e_X1_keptOf_14, e_X1_keptOf_17, e_X1_keptOf_18, e_X1_keptOf_19, e_X1_keptOf_22, e_X1_keptOf_23, sh_4, sh_13, sh_1, sh_2, sh_3, sh_7, sh_8, sh_9, sh_10, sh_11, sh_12, sh_29, sh_35, sh_50, sh_53, sh_54, sh_55, sh_56, h1, h2]
def tkI (I : IT) (a b c a' b' c' : Nat) : IT := up (upA (upA I b (va_cpy (I b') (I b) 0 0 40)) c (va_cpy (I c') (I c) 0 0 40)) a 2 (I a' 2)
theorem dc_tk {I : IT} {a a' : Nat} {D : List (Nat × Nat)} (hl : D.length ≤ 40) (h : DC I a' D) : DC (tkI I a (a + 1) (a + 2) a' (a' + 1) (a' + 2)) a D := by
  obtain ⟨h1, h2⟩ := h
  unfold tkI
  refine ⟨by rw [up_same]; exact h1, fun j p hp => ?_⟩
  have hj := (List.getElem?_eq_some_iff.mp hp).1
  obtain ⟨a1, a2⟩ := h2 j p hp
  rw [up_ne (by omega), up_ne (by omega), upA_ne (by omega), upA_same, upA_same, cpy40 (by omega), cpy40 (by omega)]
  exact ⟨a1, a2⟩
theorem tk_ne {I : IT} {a b c a' b' c' q : Nat} (h1 : q ≠ a) (h2 : q ≠ b) (h3 : q ≠ c) : tkI I a b c a' b' c' q = I q := by
  unfold tkI; rw [up_ne h1, upA_ne h3, upA_ne h2]
/-- keep(0) -/
theorem z_keep (hW : WO T n l f H0 K D I) : ∃ I', C (d + 10) iX9_keep [.ref 1, .int 0] (mk N I J) = some (some (.int (Int32.ofNat D.length)), mk N I' J) ∧ WO T n l f H0 (fun j => if j = 0 then some D else K j) D I' ∧ RWq I I' ∧ I' 55 = I 55 := by
  obtain ⟨h0, -, f3, f4, f5, f6, f7, f8, f9, f10, f11, f12, f13, f14, -⟩ := wo_fa hW
  obtain ⟨h1, h2, h3, h4, h5, h6, h7⟩ := h0
  obtain ⟨l1, l2, l3, e5, -⟩ := wo_l hW
  obtain ⟨I1, hI1⟩ : ∃ I1, I1 = tkI I 20 21 22 10 11 12 := ⟨_, rfl⟩
  have e1 : ∀ b, b < 20 ∨ 22 < b → I1 b = I b := fun b hb => by rw [hI1]; exact tk_ne (by omega) (by omega) (by omega)
  have kk := q1_keptOf (d := d + 8) (N := N) (I := I) (J := J) (k := 0) (by omega)
  simp only [Nat.mul_zero, Nat.add_zero, show Int32.ofNat 0 = 0 from rfl] at kk
  have tk := q0_take (d := d + 8) (N := N) (I := I) (J := J) (a := 20) (b := 21) (c := 22) (a' := 10) (b' := 11) (c' := 12) sh_20 sh_21 sh_22 sh_10 sh_11 sh_12 (by omega) (by omega) (by omega) (by omega)
  obtain ⟨-, w2, w3, w4, w5, w6⟩ := hW
  refine ⟨I1, ?_, ⟨⟨h1, h2, ?_, ?_, ?_, trivial, fun j hj => ?_⟩, w2, w3, w4, ?_, fun b hb => ?_⟩, fun a h1 h2 => e1 a (by omega), e1 55 (by omega)⟩
  · rw [hI1]
    unfold tkI
    simp only [K_some, K_void, K_none, wA_ref, wA_null, isNull_null, isNull_ref, c_int, c_long, c_ref, c_null, c_float, catS_nil, catS_cons, fit_int, fit_bool, fit_long, isO_mk, len_mk, fld_mk, gI_mk, gI0_mk, gZ_mk, gR_mk, isI_mk, isR_mk, tag_mk, lenE_mk, datR_mk, isOs, lenOs, fldS, lenS, gIs, gI0s, gZs, gRs, isIs, isRs, tagS, datRs, mkv, refV, fkS, isArr, tagOk, datI_mk, wrI_mk, wrA_mk, wrF_mk, wrJ_mk, List.length_cons, List.length_nil, List.getElem?_cons_zero, List.getElem?_cons_succ, List.getElem?_nil, ↓reduceIte, Nat.reduceAdd, Nat.reduceMul, Nat.reduceSub, Nat.reduceDiv, Nat.reduceMod, Nat.reduceLT, Nat.reduceLeDiff, Nat.reduceBEq, Nat.reduceEqDiff, Nat.zero_lt_succ, beq_self_eq_true, Bool.true_and, Bool.and_true, Bool.or_true, Bool.true_or, Bool.or_false, Bool.false_or, Bool.false_and, Bool.and_false, Bool.not_true, Bool.not_false, Bool.false_eq_true, Bool.true_eq_false, Bool.and_eq_true, Bool.or_eq_true, Bool.not_eq_true', decide_eq_true_eq, decide_eq_false_iff_not, decide_true, decide_false, and_self, true_and, and_true, or_true, true_or, or_false, false_or, and_false, false_and, or_self, reduceCtorEq, not_true_eq_false, not_false_eq_true, if_true, if_false, Int32.reduceAdd, Int32.reduceSub, Int32.reduceMul, Int32.reduceDiv, Int32.reduceMod, Int32.reduceLT, Int32.reduceLE, eqF1, eqF2, Int32.reduceOfNat, Int32.reduceOfInt, Int32.reduceToNatClampNeg, inb_lit, en_X9_keep, e_X9_keep_0, e_X9_keep_1, e_X9_keep_4, e_X9_keep_5, e_X9_keep_8, e_X9_keep_9, e_X9_keep_10, e_X9_keep_13, e_X9_keep_14, e_X9_keep_15, e_X9_keep_16, e_X9_keep_19, e_X9_keep_22, e_X9_keep_25, e_X9_keep_27, e_X9_keep_28, e_X9_keep_29, e_X9_keep_30, e_X9_keep_33, e_X9_keep_36, e_X9_keep_39, e_X9_keep_40, e_X9_keep_43, up_at, upA_at2, upJ_at, sh_1, sh_4, sh_10, sh_20, sh_2, sh_3, sh_7, sh_8, sh_9, sh_11, sh_12, sh_13, sh_29, sh_35, sh_50, sh_53, sh_54, sh_55, sh_56, kk, q1_isEmpty, e5, tk, f13]
  · rw [e1 6 (by omega)]; exact h3
  · exact fc_congr f4 (fun b hb => by rw [e1 b (by omega)]) h4
  · exact dc_congr (e1 _ (by omega)) (e1 _ (by omega)) (e1 _ (by omega)) h5
  · by_cases hjk : j = 0
    · subst hjk
      simp only [if_true, KP]
      refine ⟨h2, ?_⟩
      rw [hI1]
      exact dc_tk (I := I) (a := 20) (a' := 10) h2.1 h5
    · have := h7 j hj
      simp only [hjk, if_false]
      unfold KP DC at this ⊢
      rw [e1 (20 + 3 * j) (by omega), e1 (20 + 3 * j + 1) (by omega), e1 (20 + 3 * j + 2) (by omega)]
      exact this
  · exact ci_congr (fun a h1 h2 => e1 a (by omega)) w5
  · unfold fx at hb
    rw [e1 b (by omega)]; exact w6 b hb
/-- on(0), where a farm is kept -/
theorem z_on {D' : List (Nat × Nat)} (hW : WO T n l f H0 K D I) (hK : K 0 = some D') : ∃ I', C (d + 10) iX9_on [.ref 1, .int 0] (mk N I J) = some (some (.int (Int32.ofNat D'.length)), mk N I' J) ∧ WO T n l f H0 K D' I' ∧ RWq I I' ∧ I' 55 = I 55 := by
  have hW0 := hW
  obtain ⟨h0, -, f3, f4, f5, f6, f7, f8, f9, f10, f11, f12, f13, f14, -⟩ := wo_fa hW
  obtain ⟨h1, h2, h3, h4, h5, h6, h7⟩ := h0
  have hk7 := h7 0 (by omega)
  unfold KP at hk7
  rw [hK] at hk7
  simp only [Nat.mul_zero, Nat.add_zero] at hk7
  obtain ⟨k1, k2⟩ := hk7
  have e2 := k2.1
  have ne := oN_neg (k := D'.length) (by have := k1.1; omega)
  have kk := q1_keptOf (d := d + 8) (N := N) (I := I) (J := J) (k := 0) (by omega)
  simp only [Nat.mul_zero, Nat.add_zero, show Int32.ofNat 0 = 0 from rfl] at kk
  have tk := q0_take (d := d + 8) (N := N) (I := I) (J := J) (a := 10) (b := 11) (c := 12) (a' := 20) (b' := 21) (c' := 22) sh_10 sh_11 sh_12 sh_20 sh_21 sh_22 (by omega) (by omega) (by omega) (by omega)
  obtain ⟨I0, hI0⟩ : ∃ I0, I0 = tkI I 10 11 12 20 21 22 := ⟨_, rfl⟩
  have e0 : ∀ b, b < 10 ∨ 12 < b → I0 b = I b := fun b hb => by rw [hI0]; exact tk_ne (by omega) (by omega) (by omega)
  have hD : DC I0 10 D' := by
    rw [hI0]
    exact dc_tk (I := I) (a := 10) (a' := 20) (D := D') k1.1 k2
  obtain ⟨I1, c1, c2, c3⟩ := wo_rep (d := d + 3) (N := N) (J := J) hW0 k1 hD e0
  have eS : I1 20 2 = Int32.ofNat D'.length := by rw [c3 _ (by unfold fr; omega)]; exact k2.1
  refine ⟨I1, ?_, c2, fr_rw c3⟩
  rw [hI0] at c1
  unfold tkI at c1
  simp only [K_some, K_void, K_none, wA_ref, wA_null, isNull_null, isNull_ref, c_int, c_long, c_ref, c_null, c_float, catS_nil, catS_cons, fit_int, fit_bool, fit_long, isO_mk, len_mk, fld_mk, gI_mk, gI0_mk, gZ_mk, gR_mk, isI_mk, isR_mk, tag_mk, lenE_mk, datR_mk, isOs, lenOs, fldS, lenS, gIs, gI0s, gZs, gRs, isIs, isRs, tagS, datRs, mkv, refV, fkS, isArr, tagOk, datI_mk, wrI_mk, wrA_mk, wrF_mk, wrJ_mk, List.length_cons, List.length_nil, List.getElem?_cons_zero, List.getElem?_cons_succ, List.getElem?_nil, ↓reduceIte, Nat.reduceAdd, Nat.reduceMul, Nat.reduceSub, Nat.reduceDiv, Nat.reduceMod, Nat.reduceLT, Nat.reduceLeDiff, Nat.reduceBEq, Nat.reduceEqDiff, Nat.zero_lt_succ, beq_self_eq_true, Bool.true_and, Bool.and_true, Bool.or_true, Bool.true_or, Bool.or_false, Bool.false_or, Bool.false_and, Bool.and_false, Bool.not_true, Bool.not_false, Bool.false_eq_true, Bool.true_eq_false, Bool.and_eq_true, Bool.or_eq_true, Bool.not_eq_true', decide_eq_true_eq, decide_eq_false_iff_not, decide_true, decide_false, and_self, true_and, and_true, or_true, true_or, or_false, false_or, and_false, false_and, or_self, reduceCtorEq, not_true_eq_false, not_false_eq_true, if_true, if_false, Int32.reduceAdd, Int32.reduceSub, Int32.reduceMul, Int32.reduceDiv, Int32.reduceMod, Int32.reduceLT, Int32.reduceLE, eqF1, eqF2, Int32.reduceOfNat, Int32.reduceOfInt, Int32.reduceToNatClampNeg, inb_lit, en_X9_on, e_X9_on_0, e_X9_on_1, e_X9_on_4, e_X9_on_5, e_X9_on_8, e_X9_on_9, e_X9_on_10, e_X9_on_13, e_X9_on_14, e_X9_on_15, e_X9_on_16, e_X9_on_19, e_X9_on_22, e_X9_on_23, e_X9_on_26, e_X9_on_27, e_X9_on_30, e_X9_on_31, e_X9_on_32, e_X9_on_35, e_X9_on_38, e_X9_on_39, e_X9_on_42, e_X9_on_43, e_X9_on_46, e_X9_on_49, e_X9_on_50, e_X9_on_53, up_at, upA_at2, upJ_at, sh_1, sh_4, sh_10, sh_20, sh_2, sh_3, sh_7, sh_8, sh_9, sh_11, sh_12, sh_13, sh_29, sh_35, sh_50, sh_53, sh_54, sh_55, sh_56, kk, q0_isMissing (a := 20) (b := 21) (c := 22) sh_20, e2, ne, tk]
  simp only [e2] at c1
  simp only [K_some, K_void, K_none, wA_ref, wA_null, isNull_null, isNull_ref, c_int, c_long, c_ref, c_null, c_float, catS_nil, catS_cons, fit_int, fit_bool, fit_long, isO_mk, len_mk, fld_mk, gI_mk, gI0_mk, gZ_mk, gR_mk, isI_mk, isR_mk, tag_mk, lenE_mk, datR_mk, isOs, lenOs, fldS, lenS, gIs, gI0s, gZs, gRs, isIs, isRs, tagS, datRs, mkv, refV, fkS, isArr, tagOk, datI_mk, wrI_mk, wrA_mk, wrF_mk, wrJ_mk, List.length_cons, List.length_nil, List.getElem?_cons_zero, List.getElem?_cons_succ, List.getElem?_nil, ↓reduceIte, Nat.reduceAdd, Nat.reduceMul, Nat.reduceSub, Nat.reduceDiv, Nat.reduceMod, Nat.reduceLT, Nat.reduceLeDiff, Nat.reduceBEq, Nat.reduceEqDiff, Nat.zero_lt_succ, beq_self_eq_true, Bool.true_and, Bool.and_true, Bool.or_true, Bool.true_or, Bool.or_false, Bool.false_or, Bool.false_and, Bool.and_false, Bool.not_true, Bool.not_false, Bool.false_eq_true, Bool.true_eq_false, Bool.and_eq_true, Bool.or_eq_true, Bool.not_eq_true', decide_eq_true_eq, decide_eq_false_iff_not, decide_true, decide_false, and_self, true_and, and_true, or_true, true_or, or_false, false_or, and_false, false_and, or_self, reduceCtorEq, not_true_eq_false, not_false_eq_true, if_true, if_false, Int32.reduceAdd, Int32.reduceSub, Int32.reduceMul, Int32.reduceDiv, Int32.reduceMod, Int32.reduceLT, Int32.reduceLE, eqF1, eqF2, Int32.reduceOfNat, Int32.reduceOfInt, Int32.reduceToNatClampNeg, inb_lit, e_X9_on_0, e_X9_on_1, e_X9_on_4, e_X9_on_5, e_X9_on_8, e_X9_on_9, e_X9_on_10, e_X9_on_13, e_X9_on_14, e_X9_on_15, e_X9_on_16, e_X9_on_19, e_X9_on_22, e_X9_on_23, e_X9_on_26, e_X9_on_27, e_X9_on_30, e_X9_on_31, e_X9_on_32, e_X9_on_35, e_X9_on_38, e_X9_on_39, e_X9_on_42, e_X9_on_43, e_X9_on_46, e_X9_on_49, e_X9_on_50, e_X9_on_53, sh_1, sh_4, sh_10, sh_20, sh_2, sh_3, sh_7, sh_8, sh_9, sh_11, sh_12, sh_13, sh_29, sh_35, sh_50, sh_53, sh_54, sh_55, sh_56, c1, eS]
/-- on(0), where none is kept -/
theorem z_onNo (hW : WO T n l f H0 K D I) (hK : K 0 = none) : ∃ I', C (d + 10) iX9_on [.ref 1, .int 0] (mk N I J) = some (some (.int (-3)), mk N I' J) ∧ WO T n l f H0 K D I' := by
  obtain ⟨h0, -⟩ := wo_fa hW
  obtain ⟨h1, h2, h3, h4, h5, h6, h7⟩ := h0
  have hk7 := h7 0 (by omega)
  unfold KP at hk7
  rw [hK] at hk7
  simp only [Nat.mul_zero, Nat.add_zero] at hk7
  have kk := q1_keptOf (d := d + 8) (N := N) (I := I) (J := J) (k := 0) (by omega)
  simp only [Nat.mul_zero, Nat.add_zero, show Int32.ofNat 0 = 0 from rfl] at kk
  refine ⟨rfC 1 I, ?_, wo_congr (fun a ha => rfC_a (by omega) (by omega)) hW⟩
  simp only [K_some, K_void, K_none, wA_ref, wA_null, isNull_null, isNull_ref, c_int, c_long, c_ref, c_null, c_float, catS_nil, catS_cons, fit_int, fit_bool, fit_long, isO_mk, len_mk, fld_mk, gI_mk, gI0_mk, gZ_mk, gR_mk, isI_mk, isR_mk, tag_mk, lenE_mk, datR_mk, isOs, lenOs, fldS, lenS, gIs, gI0s, gZs, gRs, isIs, isRs, tagS, datRs, mkv, refV, fkS, isArr, tagOk, datI_mk, wrI_mk, wrA_mk, wrF_mk, wrJ_mk, List.length_cons, List.length_nil, List.getElem?_cons_zero, List.getElem?_cons_succ, List.getElem?_nil, ↓reduceIte, Nat.reduceAdd, Nat.reduceMul, Nat.reduceSub, Nat.reduceDiv, Nat.reduceMod, Nat.reduceLT, Nat.reduceLeDiff, Nat.reduceBEq, Nat.reduceEqDiff, Nat.zero_lt_succ, beq_self_eq_true, Bool.true_and, Bool.and_true, Bool.or_true, Bool.true_or, Bool.or_false, Bool.false_or, Bool.false_and, Bool.and_false, Bool.not_true, Bool.not_false, Bool.false_eq_true, Bool.true_eq_false, Bool.and_eq_true, Bool.or_eq_true, Bool.not_eq_true', decide_eq_true_eq, decide_eq_false_iff_not, decide_true, decide_false, and_self, true_and, and_true, or_true, true_or, or_false, false_or, and_false, false_and, or_self, reduceCtorEq, not_true_eq_false, not_false_eq_true, if_true, if_false, Int32.reduceAdd, Int32.reduceSub, Int32.reduceMul, Int32.reduceDiv, Int32.reduceMod, Int32.reduceLT, Int32.reduceLE, eqF1, eqF2, Int32.reduceOfNat, Int32.reduceOfInt, Int32.reduceToNatClampNeg, inb_lit, en_X9_on, e_X9_on_0, e_X9_on_1, e_X9_on_4, e_X9_on_5, e_X9_on_8, e_X9_on_9, e_X9_on_10, e_X9_on_13, e_X9_on_14, e_X9_on_15, e_X9_on_16, e_X9_on_19, e_X9_on_22, e_X9_on_23, e_X9_on_26, e_X9_on_27, e_X9_on_30, e_X9_on_31, e_X9_on_32, e_X9_on_35, e_X9_on_38, e_X9_on_39, e_X9_on_42, e_X9_on_43, e_X9_on_46, e_X9_on_49, e_X9_on_50, e_X9_on_53, sh_1, sh_20, sh_2, sh_3, sh_4, sh_7, sh_8, sh_9, sh_10, sh_11, sh_12, sh_13, sh_29, sh_35, sh_50, sh_53, sh_54, sh_55, sh_56, kk, q0_isMissing (a := 20) (b := 21) (c := 22) sh_20, hk7, q7_refuse]
end
