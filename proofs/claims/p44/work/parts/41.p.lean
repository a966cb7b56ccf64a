/-! THE WORLD of the law: a farm, rows, texts, the law's own cells -/
def itH : Nat → (Nat → Fin 13) → Nat → Fin 13
  | 0, H => H
  | k + 1, H => itH k (pdH H)
theorem hv_self {I : IT} {b : Nat} {H : Nat → Fin 13} (h : ∀ k, k < 8 → I b k = vi (H k)) : upA I b (hv H (I b)) = I := by
  funext c q
  rw [upA_at2]
  unfold hv
  (repeat' split)
  · rename_i hc hq; subst hc; exact (h q hq).symm
  · rename_i hc hq; subst hc; rfl
  · rfl
theorem up_ne {I : IT} {a k b : Nat} {x : Int32} (h : b ≠ a) : up I a k x b = I b := by
  funext q; rw [up_at, if_neg (fun e => h e.1)]
theorem upA_ne {I : IT} {a b : Nat} {f : Nat → Int32} (h : b ≠ a) : upA I a f b = I b := by
  funext q; rw [upA_at2, if_neg h]
theorem up_eq {I : IT} {a k : Nat} {x : Int32} : up I a k x a k = x := by rw [up_at, if_pos ⟨rfl, rfl⟩]
def hF (H0 : Nat → Fin 13) (D : List (Nat × Nat)) : Nat → Fin 13 := D.foldl (fun H p => goH p H) H0
theorem hF_nil {H0 : Nat → Fin 13} : hF H0 [] = H0 := rfl
theorem hF_app {H0 : Nat → Fin 13} {D : List (Nat × Nat)} {p : Nat × Nat} : hF H0 (D ++ [p]) = goH p (hF H0 D) := by
  simp [hF, List.foldl_append]
theorem hh_bg0 {f : FV} {H0 : Nat → Fin 13} (h : ∀ k, k < 8 → f k = vi (H0 k)) : HH (bgF f) H0 := by
  intro k hk
  unfold bgF
  rw [if_neg (by omega), if_pos (by omega), show 70 + k - 70 = k by omega]
  exact h k hk
theorem hh_hF {n : Nat} {f : FV} {H0 : Nat → Fin 13} (hn : n ≤ 6) (h : ∀ k, k < 8 → f k = vi (H0 k)) : ∀ D : List (Nat × Nat), (∀ p ∈ D, wfD n p) → HH (runF D f) (hF H0 D) := by
  have key : ∀ (D : List (Nat × Nat)) (g : FV) (H : Nat → Fin 13), HH g H → (∀ p ∈ D, wfD n p) → HH (D.foldl (fun g p => goF p g) g) (D.foldl (fun H p => goH p H) H) := by
    intro D
    induction D with
    | nil => intro g H hg _; exact hg
    | cons p D ih =>
      intro g H hg hD
      exact ih (goF p g) (goH p H) (hh_go hn (hD p List.mem_cons_self) hg) (fun q hq => hD q (List.mem_cons_of_mem _ hq))
  exact fun D hD => key D (bgF f) H0 (hh_bg0 h) hD
abbrev fx (b : Nat) : Prop := b < 4 ∨ 69 ≤ b
def WO (T : IT) (n l : Nat) (f : FV) (H0 : Nat → Fin 13) (K : Nat → Option (List (Nat × Nat))) (D : List (Nat × Nat)) (I : IT) : Prop := FarmIs I n f D K ∧ 0 < n ∧ (1 ≤ l ∧ l ≤ 60 ∧ f 8 = Int32.ofNat l) ∧ (∀ k, k < 8 → f k = vi (H0 k)) ∧ CI I ∧ ∀ b, fx b → I b = T b
/-- the rows stay as they are -/
abbrev RWq (I I' : IT) : Prop := ∀ a, 57 ≤ a → a ≤ 68 → I' a = I a
section
variable {d N a b k n m i μ l : Nat} {T I I' : IT} {J : JT} {r s v x y z w : Int32} {M : Mem} {H H0 : Nat → Fin 13} {g f : FV} {D : List (Nat × Nat)} {K : Nat → Option (List (Nat × Nat))}
theorem wo_fa (h : WO T n l f H0 K D I) : FA I n f D K (hF H0 D) (runF D f) := fa_of h.1 (hh_hF h.1.1.1 h.2.2.2.1 D h.1.2.1.2)
theorem wo_l (h : WO T n l f H0 K D I) : 1 ≤ l ∧ l ≤ 60 ∧ I 4 5 = Int32.ofNat l ∧ (I 4 6 = 0) = False ∧ runF D f 8 = Int32.ofNat l := by
  have hF := wo_fa h
  obtain ⟨h1, h2, h3, -⟩ := h
  have e : runF D f 8 = Int32.ofNat l := by rw [run_st h1.2.1.2 (by omega)]; exact h3.2.2
  obtain ⟨-, -, -, f4, f5, -, f7, -⟩ := hF
  exact ⟨h3.1, h3.2.1, by rw [f7, e], by rw [f5]; exact oN_ne0 (by omega) (by omega), e⟩
theorem wo_congr (h : ∀ a, a < 29 ∨ 57 ≤ a → I' a = I a) (hW : WO T n l f H0 K D I) : WO T n l f H0 K D I' := by
  obtain ⟨h1, h2, h3, h4, h5, h6⟩ := hW
  refine ⟨farm_congr (fun a ha => h a (by unfold fz at ha; omega)) h1, h2, h3, h4, ci_congr (fun a h1 h2 => h a (by omega)) h5, fun b hb => ?_⟩
  unfold fx at hb
  rw [h b (by omega)]; exact h6 b hb
theorem tot_lt (hl : l ≤ 60) : (Int32.ofNat (totN H) < Int32.ofNat l) = (totN H < l) := propext (oN_lt (by have := totN_le H; omega) (by omega))
theorem z_asked : C (d + 1) iX9_asked [.ref 1] (mk N I J) = some (some (.int (I 55 2)), mk N I J) := by
  simp only [K_some, K_void, K_none, wA_ref, wA_null, isNull_null, isNull_ref, c_int, c_long, c_ref, c_null, c_float, catS_nil, catS_cons, fit_int, fit_bool, fit_long, isO_mk, len_mk, fld_mk, gI_mk, gI0_mk, gZ_mk, gR_mk, isI_mk, isR_mk, tag_mk, lenE_mk, datR_mk, isOs, lenOs, fldS, lenS, gIs, gI0s, gZs, gRs, isIs, isRs, tagS, datRs, mkv, refV, fkS, isArr, tagOk, datI_mk, wrI_mk, wrA_mk, wrF_mk, wrJ_mk, List.length_cons, List.length_nil, List.getElem?_cons_zero, List.getElem?_cons_succ, List.getElem?_nil, ↓reduceIte, Nat.reduceAdd, Nat.reduceMul, Nat.reduceSub, Nat.reduceDiv, Nat.reduceMod, Nat.reduceLT, Nat.reduceLeDiff, Nat.reduceBEq, Nat.reduceEqDiff, Nat.zero_lt_succ, beq_self_eq_true, Bool.true_and, Bool.and_true, Bool.or_true, Bool.true_or, Bool.or_false, Bool.false_or, Bool.false_and, Bool.and_false, Bool.not_true, Bool.not_false, Bool.false_eq_true, Bool.true_eq_false, Bool.and_eq_true, Bool.or_eq_true, Bool.not_eq_true', decide_eq_true_eq, decide_eq_false_iff_not, decide_true, decide_false, and_self, true_and, and_true, or_true, true_or, or_false, false_or, and_false, false_and, or_self, reduceCtorEq, not_true_eq_false, not_false_eq_true, if_true, if_false, Int32.reduceAdd, Int32.reduceSub, Int32.reduceMul, Int32.reduceDiv, Int32.reduceMod, Int32.reduceLT, Int32.reduceLE, eqF1, eqF2, Int32.reduceOfNat, Int32.reduceOfInt, Int32.reduceToNatClampNeg, inb_lit, en_X9_asked, e_X9_asked_0, e_X9_asked_1, e_X9_asked_4, e_X9_asked_7, sh_1, sh_55]
theorem z_upper : C (d + 1) iX9_upper [.ref 1] (mk N I J) = some (some (.long (J 55 3)), mk N I J) := by
  simp only [K_some, K_void, K_none, wA_ref, wA_null, isNull_null, isNull_ref, c_int, c_long, c_ref, c_null, c_float, catS_nil, catS_cons, fit_int, fit_bool, fit_long, isO_mk, len_mk, fld_mk, gI_mk, gI0_mk, gZ_mk, gR_mk, isI_mk, isR_mk, tag_mk, lenE_mk, datR_mk, isOs, lenOs, fldS, lenS, gIs, gI0s, gZs, gRs, isIs, isRs, tagS, datRs, mkv, refV, fkS, isArr, tagOk, datI_mk, wrI_mk, wrA_mk, wrF_mk, wrJ_mk, List.length_cons, List.length_nil, List.getElem?_cons_zero, List.getElem?_cons_succ, List.getElem?_nil, ↓reduceIte, Nat.reduceAdd, Nat.reduceMul, Nat.reduceSub, Nat.reduceDiv, Nat.reduceMod, Nat.reduceLT, Nat.reduceLeDiff, Nat.reduceBEq, Nat.reduceEqDiff, Nat.zero_lt_succ, beq_self_eq_true, Bool.true_and, Bool.and_true, Bool.or_true, Bool.true_or, Bool.or_false, Bool.false_or, Bool.false_and, Bool.and_false, Bool.not_true, Bool.not_false, Bool.false_eq_true, Bool.true_eq_false, Bool.and_eq_true, Bool.or_eq_true, Bool.not_eq_true', decide_eq_true_eq, decide_eq_false_iff_not, decide_true, decide_false, and_self, true_and, and_true, or_true, true_or, or_false, false_or, and_false, false_and, or_self, reduceCtorEq, not_true_eq_false, not_false_eq_true, if_true, if_false, Int32.reduceAdd, Int32.reduceSub, Int32.reduceMul, Int32.reduceDiv, Int32.reduceMod, Int32.reduceLT, Int32.reduceLE, eqF1, eqF2, Int32.reduceOfNat, Int32.reduceOfInt, Int32.reduceToNatClampNeg, inb_lit, en_X9_upper, e_X9_upper_0, e_X9_upper_1, e_X9_upper_4, e_X9_upper_7, sh_1, sh_55]
theorem z_lower : C (d + 1) iX9_lower [.ref 1] (mk N I J) = some (some (.long (J 55 4)), mk N I J) := by
  simp only [K_some, K_void, K_none, wA_ref, wA_null, isNull_null, isNull_ref, c_int, c_long, c_ref, c_null, c_float, catS_nil, catS_cons, fit_int, fit_bool, fit_long, isO_mk, len_mk, fld_mk, gI_mk, gI0_mk, gZ_mk, gR_mk, isI_mk, isR_mk, tag_mk, lenE_mk, datR_mk, isOs, lenOs, fldS, lenS, gIs, gI0s, gZs, gRs, isIs, isRs, tagS, datRs, mkv, refV, fkS, isArr, tagOk, datI_mk, wrI_mk, wrA_mk, wrF_mk, wrJ_mk, List.length_cons, List.length_nil, List.getElem?_cons_zero, List.getElem?_cons_succ, List.getElem?_nil, ↓reduceIte, Nat.reduceAdd, Nat.reduceMul, Nat.reduceSub, Nat.reduceDiv, Nat.reduceMod, Nat.reduceLT, Nat.reduceLeDiff, Nat.reduceBEq, Nat.reduceEqDiff, Nat.zero_lt_succ, beq_self_eq_true, Bool.true_and, Bool.and_true, Bool.or_true, Bool.true_or, Bool.or_false, Bool.false_or, Bool.false_and, Bool.and_false, Bool.not_true, Bool.not_false, Bool.false_eq_true, Bool.true_eq_false, Bool.and_eq_true, Bool.or_eq_true, Bool.not_eq_true', decide_eq_true_eq, decide_eq_false_iff_not, decide_true, decide_false, and_self, true_and, and_true, or_true, true_or, or_false, false_or, and_false, false_and, or_self, reduceCtorEq, not_true_eq_false, not_false_eq_true, if_true, if_false, Int32.reduceAdd, Int32.reduceSub, Int32.reduceMul, Int32.reduceDiv, Int32.reduceMod, Int32.reduceLT, Int32.reduceLE, eqF1, eqF2, Int32.reduceOfNat, Int32.reduceOfInt, Int32.reduceToNatClampNeg, inb_lit, en_X9_lower, e_X9_lower_0, e_X9_lower_1, e_X9_lower_4, e_X9_lower_7, sh_1, sh_55]
/-- holds(k / 4, k % 4) -/
theorem z_holds (hW : WO T n l f H0 K D I) (hk : k < 8) : C (d + 10) iX9_holds [.ref 1, .int (Int32.ofNat (k / 4)), .int (Int32.ofNat (k % 4))] (mk N I J) = some (some (.int (vi (hF H0 D k))), mk N I J) := by
  obtain ⟨-, -, f3, f4, f5, f6, f7, f8, f9, -⟩ := wo_fa hW
  obtain rfl | rfl | rfl | rfl | rfl | rfl | rfl | rfl : k = 0 ∨ k = 1 ∨ k = 2 ∨ k = 3 ∨ k = 4 ∨ k = 5 ∨ k = 6 ∨ k = 7 := by omega
  all_goals simp only [K_some, K_void, K_none, wA_ref, wA_null, isNull_null, isNull_ref, c_int, c_long, c_ref, c_null, c_float, catS_nil, catS_cons, fit_int, fit_bool, fit_long, isO_mk, len_mk, fld_mk, gI_mk, gI0_mk, gZ_mk, gR_mk, isI_mk, isR_mk, tag_mk, lenE_mk, datR_mk, isOs, lenOs, fldS, lenS, gIs, gI0s, gZs, gRs, isIs, isRs, tagS, datRs, mkv, refV, fkS, isArr, tagOk, datI_mk, wrI_mk, wrA_mk, wrF_mk, wrJ_mk, List.length_cons, List.length_nil, List.getElem?_cons_zero, List.getElem?_cons_succ, List.getElem?_nil, ↓reduceIte, Nat.reduceAdd, Nat.reduceMul, Nat.reduceSub, Nat.reduceDiv, Nat.reduceMod, Nat.reduceLT, Nat.reduceLeDiff, Nat.reduceBEq, Nat.reduceEqDiff, Nat.zero_lt_succ, beq_self_eq_true, Bool.true_and, Bool.and_true, Bool.or_true, Bool.true_or, Bool.or_false, Bool.false_or, Bool.false_and, Bool.and_false, Bool.not_true, Bool.not_false, Bool.false_eq_true, Bool.true_eq_false, Bool.and_eq_true, Bool.or_eq_true, Bool.not_eq_true', decide_eq_true_eq, decide_eq_false_iff_not, decide_true, decide_false, and_self, true_and, and_true, or_true, true_or, or_false, false_or, and_false, false_and, or_self, reduceCtorEq, not_true_eq_false, not_false_eq_true, if_true, if_false, Int32.reduceAdd, Int32.reduceSub, Int32.reduceMul, Int32.reduceDiv, Int32.reduceMod, Int32.reduceLT, Int32.reduceLE, eqF1, eqF2, Int32.reduceOfNat, Int32.reduceOfInt, Int32.reduceToNatClampNeg, inb_lit, en_X9_holds, e_X9_holds_0, e_X9_holds_1, e_X9_holds_2, e_X9_holds_3, e_X9_holds_6, e_X9_holds_9, e_X9_holds_10, e_X9_holds_13, e_X9_holds_16, e_X9_holds_17, e_X9_holds_18, e_X9_holds_19, e_X9_holds_22, e_X9_holds_25, e_X9_holds_26, e_X9_holds_27, e_X9_holds_30, en_X2_get, e_X2_get_0, e_X2_get_1, e_X2_get_2, e_X2_get_3, e_X2_get_4, e_X2_get_5, e_X2_get_6, e_X2_get_7, e_X2_get_10, e_X2_get_11, e_X2_get_12, e_X2_get_15, e_X2_get_16, e_X2_get_19, e_X2_get_20, e_X2_get_23, e_X2_get_24, e_X2_get_25, e_X2_get_28, e_X2_get_29, sh_1, sh_4, sh_7, sh_8, q9_within, q9_isMatter, f9]
/-- wheel(i, what) -/
theorem z_wheel (hW : WO T n l f H0 K D I) (hi : i < n) (hw : m < 7) : C (d + 10) iX9_wheel [.ref 1, .int (Int32.ofNat i), .int (Int32.ofNat m)] (mk N I J) = some (some (.int 1), mk N (up I 55 2 (tlF (runF D f) i m)) J) := by
  have hF := wo_fa hW
  obtain ⟨-, -, f3, f4, f5, -⟩ := hF
  have hi' : inb (Int32.ofNat i) n = true := inb_ofNat hi (by omega)
  have e1 : (Int32.ofNat i).toNatClampNeg = i := nat_ofNat (by omega)
  have h1 := oN_neg (k := m) (by omega)
  have h3 : ¬ 6 < Int32.ofNat m := fun h => by have := (oN_lt (j := 6) (k := m) (by omega) (by omega)).mp h; omega
  simp only [K_some, K_void, K_none, wA_ref, wA_null, isNull_null, isNull_ref, c_int, c_long, c_ref, c_null, c_float, catS_nil, catS_cons, fit_int, fit_bool, fit_long, isO_mk, len_mk, fld_mk, gI_mk, gI0_mk, gZ_mk, gR_mk, isI_mk, isR_mk, tag_mk, lenE_mk, datR_mk, isOs, lenOs, fldS, lenS, gIs, gI0s, gZs, gRs, isIs, isRs, tagS, datRs, mkv, refV, fkS, isArr, tagOk, datI_mk, wrI_mk, wrA_mk, wrF_mk, wrJ_mk, List.length_cons, List.length_nil, List.getElem?_cons_zero, List.getElem?_cons_succ, List.getElem?_nil, ↓reduceIte, Nat.reduceAdd, Nat.reduceMul, Nat.reduceSub, Nat.reduceDiv, Nat.reduceMod, Nat.reduceLT, Nat.reduceLeDiff, Nat.reduceBEq, Nat.reduceEqDiff, Nat.zero_lt_succ, beq_self_eq_true, Bool.true_and, Bool.and_true, Bool.or_true, Bool.true_or, Bool.or_false, Bool.false_or, Bool.false_and, Bool.and_false, Bool.not_true, Bool.not_false, Bool.false_eq_true, Bool.true_eq_false, Bool.and_eq_true, Bool.or_eq_true, Bool.not_eq_true', decide_eq_true_eq, decide_eq_false_iff_not, decide_true, decide_false, and_self, true_and, and_true, or_true, true_or, or_false, false_or, and_false, false_and, or_self, reduceCtorEq, not_true_eq_false, not_false_eq_true, if_true, if_false, Int32.reduceAdd, Int32.reduceSub, Int32.reduceMul, Int32.reduceDiv, Int32.reduceMod, Int32.reduceLT, Int32.reduceLE, eqF1, eqF2, Int32.reduceOfNat, Int32.reduceOfInt, Int32.reduceToNatClampNeg, inb_lit, en_X9_wheel, e_X9_wheel_0, e_X9_wheel_1, e_X9_wheel_4, e_X9_wheel_5, e_X9_wheel_8, e_X9_wheel_9, e_X9_wheel_10, e_X9_wheel_13, e_X9_wheel_14, e_X9_wheel_15, e_X9_wheel_17, e_X9_wheel_20, e_X9_wheel_23, e_X9_wheel_24, e_X9_wheel_25, e_X9_wheel_26, e_X9_wheel_29, e_X9_wheel_30, e_X9_wheel_33, e_X9_wheel_34, e_X9_wheel_35, e_X9_wheel_38, e_X9_wheel_41, sh_1, sh_4, sh_55, q1_wheelOf f4 f5 hi', q9_within, h1, h3, e1, q1_tellOf (wo_fa hW) hi hw, q7_tell]
end
