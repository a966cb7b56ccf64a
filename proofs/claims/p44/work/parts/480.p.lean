/-! ROWS, TEXTS: the calls -/
abbrev RWx (k : Nat) (I I' : IT) : Prop := ∀ a, 57 ≤ a → a ≤ 68 → a ≠ 57 + 2 * k → a ≠ 58 + 2 * k → I' a = I a
section
variable {d N a b k n m i p μ l : Nat} {T I I' : IT} {J : JT} {r s v x y z w : Int32} {M : Mem} {H H0 : Nat → Fin 13} {g f : FV} {D : List (Nat × Nat)} {K : Nat → Option (List (Nat × Nat))} {e : Nat → Int32}
theorem wo_row (hk : k < 6) (h : ∀ a, a < 29 ∨ 57 ≤ a → a ≠ 57 + 2 * k → a ≠ 58 + 2 * k → I' a = I a) (h1 : I' (57 + 2 * k) 1 = I (57 + 2 * k) 1) (h2 : m ≤ 40) (h3 : I' (57 + 2 * k) 2 = Int32.ofNat m) (hW : WO T n l f H0 K D I) : WO T n l f H0 K D I' := by
  obtain ⟨w1, w2, w3, w4, w5, w6⟩ := hW
  refine ⟨farm_congr (fun a ha => h a (by unfold fz at ha; omega) (by unfold fz at ha; omega) (by unfold fz at ha; omega)) w1, w2, w3, w4, ⟨fun r hr => ?_, fun t ht => ?_⟩, fun b hb => ?_⟩
  · by_cases e : r = k
    · subst e
      exact ⟨by rw [h1]; exact (w5.1 r hr).1, Or.inr ⟨m, h2, h3⟩⟩
    · have := w5.1 r hr
      unfold RowOk at *
      rw [h (57 + 2 * r) (by omega) (by omega) (by omega)]; exact this
  · have := w5.2 t ht
    unfold TextOk at *
    rw [h (69 + 2 * t) (by omega) (by omega) (by omega)]; exact this
  · unfold fx at hb
    rw [h b (by omega) (by omega) (by omega)]; exact w6 b hb
theorem rw_x {k' : Nat} (hR : Rw I k m e) (hx : RWx k' I I') (hne : k ≠ k') : Rw I' k m e := by
  obtain ⟨h1, h2, h3, -, h5, -⟩ := hR
  refine ⟨h1, h2, ?_, trivial, fun q hq => ?_, trivial⟩
  · rw [hx (57 + 2 * k) (by omega) (by omega) (by omega) (by omega)]; exact h3
  · rw [hx (58 + 2 * k) (by omega) (by omega) (by omega) (by omega)]; exact h5 q hq
theorem rw_q (hR : Rw I k m e) (hx : RWq I I') : Rw I' k m e := by
  obtain ⟨h1, h2, h3, -, h5, -⟩ := hR
  refine ⟨h1, h2, ?_, trivial, fun q hq => ?_, trivial⟩
  · rw [hx (57 + 2 * k) (by omega) (by omega)]; exact h3
  · rw [hx (58 + 2 * k) (by omega) (by omega)]; exact h5 q hq
theorem rw_e {e' : Nat → Int32} (hR : Rw I k m e) (h : ∀ q, q < m → e q = e' q) : Rw I k m e' := by
  obtain ⟨h1, h2, h3, -, h5, -⟩ := hR
  exact ⟨h1, h2, h3, trivial, fun q hq => by rw [← h q hq]; exact h5 q hq, trivial⟩
/-- row(k, m) -/
theorem z_row (hW : WO T n l f H0 K D I) (hk : k < 6) (hm : m ≤ 40) : ∃ I', C (d + 10) iX9_row [.ref 1, .int (Int32.ofNat k), .int (Int32.ofNat m)] (mk N I J) = some (some (.int (Int32.ofNat m)), mk N I' J) ∧ WO T n l f H0 K D I' ∧ Rw I' k m (fun _ => 0) ∧ RWx k I I' := by
  have h1 : ¬ 40 < Int32.ofNat m := fun h => by have := (oN_lt (j := 40) (k := m) (by omega) (by omega)).mp h; omega
  have h2 := oN_neg (k := m) (by omega)
  have b0 := (hW.2.2.2.2.1.1 k hk).1
  obtain ⟨I', hI'⟩ : ∃ I', I' = up (upA I (58 + 2 * k) (fun q => if q < 40 then I (57 + 2 * k) 1 else I (58 + 2 * k) q)) (57 + 2 * k) 2 (imin (Int32.ofNat m) (Int32.ofNat 40)) := ⟨_, rfl⟩
  have e0 : ∀ a, a ≠ 57 + 2 * k → a ≠ 58 + 2 * k → I' a = I a := fun a h1 h2 => by rw [hI', up_ne h1, upA_ne h2]
  have e1 : I' (57 + 2 * k) 1 = I (57 + 2 * k) 1 := by rw [hI', up_at, if_neg (by omega), upA_ne (by omega)]
  have e2 : I' (57 + 2 * k) 2 = Int32.ofNat m := by rw [hI', up_eq, imin_le hm (by omega)]
  refine ⟨I', ?_, wo_row hk (fun a _ h1 h2 => e0 a h1 h2) e1 hm e2 hW, ⟨hk, hm, e2, trivial, fun q hq => ?_, trivial⟩, fun a _ _ h1 h2 => e0 a h1 h2⟩
  · rw [hI']
    simp only [K_some, K_void, K_none, wA_ref, wA_null, isNull_null, isNull_ref, c_int, c_long, c_ref, c_null, c_float, catS_nil, catS_cons, fit_int, fit_bool, fit_long, isO_mk, len_mk, fld_mk, gI_mk, gI0_mk, gZ_mk, gR_mk, isI_mk, isR_mk, tag_mk, lenE_mk, datR_mk, isOs, lenOs, fldS, lenS, gIs, gI0s, gZs, gRs, isIs, isRs, tagS, datRs, mkv, refV, fkS, isArr, tagOk, datI_mk, wrI_mk, wrA_mk, wrF_mk, wrJ_mk, List.length_cons, List.length_nil, List.getElem?_cons_zero, List.getElem?_cons_succ, List.getElem?_nil, ↓reduceIte, Nat.reduceAdd, Nat.reduceMul, Nat.reduceSub, Nat.reduceDiv, Nat.reduceMod, Nat.reduceLT, Nat.reduceLeDiff, Nat.reduceBEq, Nat.reduceEqDiff, Nat.zero_lt_succ, beq_self_eq_true, Bool.true_and, Bool.and_true, Bool.or_true, Bool.true_or, Bool.or_false, Bool.false_or, Bool.false_and, Bool.and_false, Bool.not_true, Bool.not_false, Bool.false_eq_true, Bool.true_eq_false, Bool.and_eq_true, Bool.or_eq_true, Bool.not_eq_true', decide_eq_true_eq, decide_eq_false_iff_not, decide_true, decide_false, and_self, true_and, and_true, or_true, true_or, or_false, false_or, and_false, false_and, or_self, reduceCtorEq, not_true_eq_false, not_false_eq_true, if_true, if_false, Int32.reduceAdd, Int32.reduceSub, Int32.reduceMul, Int32.reduceDiv, Int32.reduceMod, Int32.reduceLT, Int32.reduceLE, eqF1, eqF2, Int32.reduceOfNat, Int32.reduceOfInt, Int32.reduceToNatClampNeg, inb_lit, en_X9_row, e_X9_row_0, e_X9_row_1, e_X9_row_2, e_X9_row_5, e_X9_row_6, e_X9_row_7, e_X9_row_10, e_X9_row_11, e_X9_row_13, e_X9_row_16, e_X9_row_17, e_X9_row_18, e_X9_row_19, e_X9_row_22, e_X9_row_23, e_X9_row_26, e_X9_row_27, e_X9_row_30, e_X9_row_31, e_X9_row_32, e_X9_row_33, e_X9_row_36, e_X9_row_37, sh_1, sh_2, sh_3, sh_4, sh_7, sh_8, sh_9, sh_10, sh_11, sh_12, sh_13, sh_29, sh_35, sh_50, sh_53, sh_54, sh_55, sh_56, sh_row hk, q9_rowOf hk, h1, h2, q5_renew (sh_row hk) (sh_rowB hk) (show 40 ≤ 4096 by omega)]
    first | done | rfl
  · rw [hI', up_ne (by omega), upA_same, if_pos (by omega)]; exact b0
/-- lay(k, p, v) -/
theorem z_lay (hW : WO T n l f H0 K D I) (hR : Rw I k m e) (hp : p < m) : ∃ I', C (d + 10) iX9_lay [.ref 1, .int (Int32.ofNat k), .int (Int32.ofNat p), .int v] (mk N I J) = some (some (.int 1), mk N I' J) ∧ WO T n l f H0 K D I' ∧ Rw I' k m (fun q => if q = p then v else e q) ∧ RWx k I I' := by
  obtain ⟨hk, hm, h1, -, h3, -⟩ := hR
  have hi : inb (Int32.ofNat p) m = true := inb_ofNat hp (by omega)
  have hi2 : inb (Int32.ofNat p) 40 = true := inb_ofNat (by omega) (by omega)
  have h6 : (Int32.ofNat p).toNatClampNeg = p := nat_ofNat (by omega)
  obtain ⟨I', hI'⟩ : ∃ I', I' = up (up I (58 + 2 * k) p v) 55 2 (e p) := ⟨_, rfl⟩
  have e0 : ∀ a, a ≠ 55 → a ≠ 58 + 2 * k → I' a = I a := fun a h1 h2 => by rw [hI', up_ne h1, up_ne h2]
  refine ⟨I', ?_, wo_row hk (fun a h0 h1 h2 => e0 a (by omega) h2) (by rw [e0 _ (by omega) (by omega)]) hm (by rw [e0 _ (by omega) (by omega)]; exact h1) hW, ⟨hk, hm, by rw [e0 _ (by omega) (by omega)]; exact h1, trivial, fun q hq => ?_, trivial⟩, fun a _ _ h1 h2 => e0 a (by omega) h2⟩
  · rw [hI']
    simp only [K_some, K_void, K_none, wA_ref, wA_null, isNull_null, isNull_ref, c_int, c_long, c_ref, c_null, c_float, catS_nil, catS_cons, fit_int, fit_bool, fit_long, isO_mk, len_mk, fld_mk, gI_mk, gI0_mk, gZ_mk, gR_mk, isI_mk, isR_mk, tag_mk, lenE_mk, datR_mk, isOs, lenOs, fldS, lenS, gIs, gI0s, gZs, gRs, isIs, isRs, tagS, datRs, mkv, refV, fkS, isArr, tagOk, datI_mk, wrI_mk, wrA_mk, wrF_mk, wrJ_mk, List.length_cons, List.length_nil, List.getElem?_cons_zero, List.getElem?_cons_succ, List.getElem?_nil, ↓reduceIte, Nat.reduceAdd, Nat.reduceMul, Nat.reduceSub, Nat.reduceDiv, Nat.reduceMod, Nat.reduceLT, Nat.reduceLeDiff, Nat.reduceBEq, Nat.reduceEqDiff, Nat.zero_lt_succ, beq_self_eq_true, Bool.true_and, Bool.and_true, Bool.or_true, Bool.true_or, Bool.or_false, Bool.false_or, Bool.false_and, Bool.and_false, Bool.not_true, Bool.not_false, Bool.false_eq_true, Bool.true_eq_false, Bool.and_eq_true, Bool.or_eq_true, Bool.not_eq_true', decide_eq_true_eq, decide_eq_false_iff_not, decide_true, decide_false, and_self, true_and, and_true, or_true, true_or, or_false, false_or, and_false, false_and, or_self, reduceCtorEq, not_true_eq_false, not_false_eq_true, if_true, if_false, Int32.reduceAdd, Int32.reduceSub, Int32.reduceMul, Int32.reduceDiv, Int32.reduceMod, Int32.reduceLT, Int32.reduceLE, eqF1, eqF2, Int32.reduceOfNat, Int32.reduceOfInt, Int32.reduceToNatClampNeg, inb_lit, en_X9_lay, e_X9_lay_0, e_X9_lay_1, e_X9_lay_2, e_X9_lay_5, e_X9_lay_7, e_X9_lay_8, e_X9_lay_10, e_X9_lay_11, e_X9_lay_14, e_X9_lay_16, e_X9_lay_18, e_X9_lay_21, e_X9_lay_23, e_X9_lay_26, e_X9_lay_28, e_X9_lay_29, e_X9_lay_31, e_X9_lay_32, e_X9_lay_35, e_X9_lay_37, e_X9_lay_39, e_X9_lay_40, e_X9_lay_41, e_X9_lay_44, e_X9_lay_45, e_X9_lay_48, e_X9_lay_50, e_X9_lay_53, sh_1, sh_55, sh_2, sh_3, sh_4, sh_7, sh_8, sh_9, sh_10, sh_11, sh_12, sh_13, sh_29, sh_35, sh_50, sh_53, sh_54, sh_56, sh_row hk, q9_rowOf hk, q9_placeOk (sh_row hk) h1 (show m ≤ 60 by omega) hi, q5_get (sh_row hk) (sh_rowB hk) (show 40 ≤ 4096 by omega) hi2, q5_set (sh_row hk) (sh_rowB hk) (show 40 ≤ 4096 by omega) hi2, q7_tell, h6, h3 p hp]
  · rw [hI', up_ne (by omega), up_at]
    by_cases c : q = p
    · rw [if_pos ⟨rfl, c⟩]
      show v = if q = p then v else e q
      rw [if_pos c]
    · rw [if_neg (fun h => c h.2)]
      show I (58 + 2 * k) q = if q = p then v else e q
      rw [if_neg c]; exact h3 q hq
/-- at(k, p) -/
theorem z_at (hR : Rw I k m e) (hp : p < m) : C (d + 10) iX9_at [.ref 1, .int (Int32.ofNat k), .int (Int32.ofNat p)] (mk N I J) = some (some (.int 1), mk N (up I 55 2 (e p)) J) := by
  obtain ⟨hk, hm, h1, -, h3, -⟩ := hR
  have hi : inb (Int32.ofNat p) m = true := inb_ofNat hp (by omega)
  have hi2 : inb (Int32.ofNat p) 40 = true := inb_ofNat (by omega) (by omega)
  have h6 : (Int32.ofNat p).toNatClampNeg = p := nat_ofNat (by omega)
  simp only [K_some, K_void, K_none, wA_ref, wA_null, isNull_null, isNull_ref, c_int, c_long, c_ref, c_null, c_float, catS_nil, catS_cons, fit_int, fit_bool, fit_long, isO_mk, len_mk, fld_mk, gI_mk, gI0_mk, gZ_mk, gR_mk, isI_mk, isR_mk, tag_mk, lenE_mk, datR_mk, isOs, lenOs, fldS, lenS, gIs, gI0s, gZs, gRs, isIs, isRs, tagS, datRs, mkv, refV, fkS, isArr, tagOk, datI_mk, wrI_mk, wrA_mk, wrF_mk, wrJ_mk, List.length_cons, List.length_nil, List.getElem?_cons_zero, List.getElem?_cons_succ, List.getElem?_nil, ↓reduceIte, Nat.reduceAdd, Nat.reduceMul, Nat.reduceSub, Nat.reduceDiv, Nat.reduceMod, Nat.reduceLT, Nat.reduceLeDiff, Nat.reduceBEq, Nat.reduceEqDiff, Nat.zero_lt_succ, beq_self_eq_true, Bool.true_and, Bool.and_true, Bool.or_true, Bool.true_or, Bool.or_false, Bool.false_or, Bool.false_and, Bool.and_false, Bool.not_true, Bool.not_false, Bool.false_eq_true, Bool.true_eq_false, Bool.and_eq_true, Bool.or_eq_true, Bool.not_eq_true', decide_eq_true_eq, decide_eq_false_iff_not, decide_true, decide_false, and_self, true_and, and_true, or_true, true_or, or_false, false_or, and_false, false_and, or_self, reduceCtorEq, not_true_eq_false, not_false_eq_true, if_true, if_false, Int32.reduceAdd, Int32.reduceSub, Int32.reduceMul, Int32.reduceDiv, Int32.reduceMod, Int32.reduceLT, Int32.reduceLE, eqF1, eqF2, Int32.reduceOfNat, Int32.reduceOfInt, Int32.reduceToNatClampNeg, inb_lit, en_X9_at, e_X9_at_0, e_X9_at_1, e_X9_at_2, e_X9_at_5, e_X9_at_6, e_X9_at_7, e_X9_at_8, e_X9_at_9, e_X9_at_12, e_X9_at_14, e_X9_at_15, e_X9_at_18, e_X9_at_20, e_X9_at_23, e_X9_at_25, e_X9_at_26, e_X9_at_27, e_X9_at_30, e_X9_at_31, e_X9_at_32, e_X9_at_35, e_X9_at_38, sh_1, sh_55, sh_2, sh_3, sh_4, sh_7, sh_8, sh_9, sh_10, sh_11, sh_12, sh_13, sh_29, sh_35, sh_50, sh_53, sh_54, sh_56, sh_row hk, q9_rowOf hk, q9_placeOk (sh_row hk) h1 (show m ≤ 60 by omega) hi, q5_get (sh_row hk) (sh_rowB hk) (show 40 ≤ 4096 by omega) hi2, q7_tell, h6, h3 p hp]
/-- text(0, m) -/
theorem z_text (hm : m ≤ 60) : ∃ I', C (d + 10) iX9_text [.ref 1, .int 0, .int (Int32.ofNat m)] (mk N I J) = some (some (.int (Int32.ofNat m)), mk N I' J) ∧ I' 69 1 = I 69 1 ∧ I' 69 2 = Int32.ofNat m ∧ (∀ q, q < m → I' 70 q = I 69 1) ∧ ∀ b, b ≠ 69 → b ≠ 70 → I' b = I b := by
  have h1 : ¬ 60 < Int32.ofNat m := fun h => by have := (oN_lt (j := 60) (k := m) (by omega) (by omega)).mp h; omega
  have h2 := oN_neg (k := m) (by omega)
  have t0 := q9_textOf (d := d + 8) (N := N) (I := I) (J := J) (k := 0) (by omega)
  simp only [Nat.mul_zero, Nat.add_zero, show Int32.ofNat 0 = 0 from rfl] at t0
  obtain ⟨I', hI'⟩ : ∃ I', I' = up (upA I 70 (fun q => if q < 60 then I 69 1 else I 70 q)) 69 2 (imin (Int32.ofNat m) (Int32.ofNat 60)) := ⟨_, rfl⟩
  refine ⟨I', ?_, ?_, ?_, fun q hq => ?_, fun b h1 h2 => ?_⟩
  · rw [hI']
    simp only [K_some, K_void, K_none, wA_ref, wA_null, isNull_null, isNull_ref, c_int, c_long, c_ref, c_null, c_float, catS_nil, catS_cons, fit_int, fit_bool, fit_long, isO_mk, len_mk, fld_mk, gI_mk, gI0_mk, gZ_mk, gR_mk, isI_mk, isR_mk, tag_mk, lenE_mk, datR_mk, isOs, lenOs, fldS, lenS, gIs, gI0s, gZs, gRs, isIs, isRs, tagS, datRs, mkv, refV, fkS, isArr, tagOk, datI_mk, wrI_mk, wrA_mk, wrF_mk, wrJ_mk, List.length_cons, List.length_nil, List.getElem?_cons_zero, List.getElem?_cons_succ, List.getElem?_nil, ↓reduceIte, Nat.reduceAdd, Nat.reduceMul, Nat.reduceSub, Nat.reduceDiv, Nat.reduceMod, Nat.reduceLT, Nat.reduceLeDiff, Nat.reduceBEq, Nat.reduceEqDiff, Nat.zero_lt_succ, beq_self_eq_true, Bool.true_and, Bool.and_true, Bool.or_true, Bool.true_or, Bool.or_false, Bool.false_or, Bool.false_and, Bool.and_false, Bool.not_true, Bool.not_false, Bool.false_eq_true, Bool.true_eq_false, Bool.and_eq_true, Bool.or_eq_true, Bool.not_eq_true', decide_eq_true_eq, decide_eq_false_iff_not, decide_true, decide_false, and_self, true_and, and_true, or_true, true_or, or_false, false_or, and_false, false_and, or_self, reduceCtorEq, not_true_eq_false, not_false_eq_true, if_true, if_false, Int32.reduceAdd, Int32.reduceSub, Int32.reduceMul, Int32.reduceDiv, Int32.reduceMod, Int32.reduceLT, Int32.reduceLE, eqF1, eqF2, Int32.reduceOfNat, Int32.reduceOfInt, Int32.reduceToNatClampNeg, inb_lit, en_X9_text, e_X9_text_0, e_X9_text_1, e_X9_text_2, e_X9_text_5, e_X9_text_6, e_X9_text_7, e_X9_text_10, e_X9_text_11, e_X9_text_13, e_X9_text_16, e_X9_text_17, e_X9_text_18, e_X9_text_19, e_X9_text_22, e_X9_text_23, e_X9_text_26, e_X9_text_27, e_X9_text_30, e_X9_text_31, e_X9_text_32, e_X9_text_33, e_X9_text_36, e_X9_text_37, sh_1, sh_69, sh_2, sh_3, sh_4, sh_7, sh_8, sh_9, sh_10, sh_11, sh_12, sh_13, sh_29, sh_35, sh_50, sh_53, sh_54, sh_55, sh_56, t0, h1, h2, q5_renew (a := 69) (b := 70) sh_69 sh_70 (show 60 ≤ 4096 by omega)]
    first | done | rfl
  · rw [hI', up_at, if_neg (by omega), upA_ne (by omega)]
  · rw [hI', up_eq, imin_le hm (by omega)]
  · rw [hI', up_ne (by omega), upA_same, if_pos (by omega)]
  · rw [hI', up_ne h1, upA_ne h2]
/-- put(0, p, v) -/
theorem z_put (h1 : I 69 2 = Int32.ofNat m) (hm : m ≤ 60) (hp : p < m) : C (d + 10) iX9_put [.ref 1, .int 0, .int (Int32.ofNat p), .int v] (mk N I J) = some (some (.int (I 70 p + 1000)), mk N (up I 70 p v.toInt8.toInt32) J) := by
  have hi : inb (Int32.ofNat p) m = true := inb_ofNat hp (by omega)
  have hi2 : inb (Int32.ofNat p) 60 = true := inb_ofNat (by omega) (by omega)
  have h6 : (Int32.ofNat p).toNatClampNeg = p := nat_ofNat (by omega)
  have t0 := q9_textOf (d := d + 8) (N := N) (I := I) (J := J) (k := 0) (by omega)
  simp only [Nat.mul_zero, Nat.add_zero, show Int32.ofNat 0 = 0 from rfl] at t0
  simp only [K_some, K_void, K_none, wA_ref, wA_null, isNull_null, isNull_ref, c_int, c_long, c_ref, c_null, c_float, catS_nil, catS_cons, fit_int, fit_bool, fit_long, isO_mk, len_mk, fld_mk, gI_mk, gI0_mk, gZ_mk, gR_mk, isI_mk, isR_mk, tag_mk, lenE_mk, datR_mk, isOs, lenOs, fldS, lenS, gIs, gI0s, gZs, gRs, isIs, isRs, tagS, datRs, mkv, refV, fkS, isArr, tagOk, datI_mk, wrI_mk, wrA_mk, wrF_mk, wrJ_mk, List.length_cons, List.length_nil, List.getElem?_cons_zero, List.getElem?_cons_succ, List.getElem?_nil, ↓reduceIte, Nat.reduceAdd, Nat.reduceMul, Nat.reduceSub, Nat.reduceDiv, Nat.reduceMod, Nat.reduceLT, Nat.reduceLeDiff, Nat.reduceBEq, Nat.reduceEqDiff, Nat.zero_lt_succ, beq_self_eq_true, Bool.true_and, Bool.and_true, Bool.or_true, Bool.true_or, Bool.or_false, Bool.false_or, Bool.false_and, Bool.and_false, Bool.not_true, Bool.not_false, Bool.false_eq_true, Bool.true_eq_false, Bool.and_eq_true, Bool.or_eq_true, Bool.not_eq_true', decide_eq_true_eq, decide_eq_false_iff_not, decide_true, decide_false, and_self, true_and, and_true, or_true, true_or, or_false, false_or, and_false, false_and, or_self, reduceCtorEq, not_true_eq_false, not_false_eq_true, if_true, if_false, Int32.reduceAdd, Int32.reduceSub, Int32.reduceMul, Int32.reduceDiv, Int32.reduceMod, Int32.reduceLT, Int32.reduceLE, eqF1, eqF2, Int32.reduceOfNat, Int32.reduceOfInt, Int32.reduceToNatClampNeg, inb_lit, en_X9_put, e_X9_put_0, e_X9_put_1, e_X9_put_2, e_X9_put_5, e_X9_put_7, e_X9_put_8, e_X9_put_10, e_X9_put_11, e_X9_put_14, e_X9_put_16, e_X9_put_18, e_X9_put_21, e_X9_put_23, e_X9_put_26, e_X9_put_28, e_X9_put_29, e_X9_put_31, e_X9_put_32, e_X9_put_35, e_X9_put_37, e_X9_put_39, e_X9_put_40, e_X9_put_41, e_X9_put_42, e_X9_put_45, e_X9_put_47, e_X9_put_50, e_X9_put_51, sh_1, sh_55, sh_69, sh_2, sh_3, sh_4, sh_7, sh_8, sh_9, sh_10, sh_11, sh_12, sh_13, sh_29, sh_35, sh_50, sh_53, sh_54, sh_56, t0, q9_placeOk (a := 69) (b := 70) sh_69 h1 hm hi, q5_get (a := 69) (b := 70) sh_69 sh_70 (show 60 ≤ 4096 by omega) hi2, q5_set (a := 69) (b := 70) sh_69 sh_70 (show 60 ≤ 4096 by omega) hi2, h6]
end
