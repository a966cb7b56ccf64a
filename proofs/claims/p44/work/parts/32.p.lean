/-! WHAT IS HELD: eight numbers of 0 to 12; a Grudges' methods -/
def vi (x : Fin 13) : Int32 := Int32.ofNat x.val
def dn (j : Nat) (x : Fin 13) : Fin 13 := ⟨x.val - j, by omega⟩
def u3 (x : Fin 13) : Fin 13 := ⟨min 12 (x.val + 3), by omega⟩
def pdH (H : Nat → Fin 13) : Nat → Fin 13 := fun k => if k < 4 then dn 1 (H k) else dn 2 (H k)
def syH (m : Nat) (H : Nat → Fin 13) : Nat → Fin 13 := fun k => if k = m ∨ k = m + 4 then u3 (H k) else H k
def ztH (j : Nat) (H : Nat → Fin 13) : Nat → Fin 13 := fun k => if k = j then 0 else H k
def totN (H : Nat → Fin 13) : Nat := (H 0).val + (H 1).val + (H 2).val + (H 3).val + (H 4).val + (H 5).val + (H 6).val + (H 7).val
def hv (H : Nat → Fin 13) (g : Nat → Int32) : Nat → Int32 := fun q => if q < 8 then vi (H q) else g q
theorem vi_dn1 : ∀ x : Fin 13, imax 0 (vi x - 1) = vi (dn 1 x) := by decide +kernel
theorem vi_dn2 : ∀ x : Fin 13, imax 0 (vi x - 2) = vi (dn 2 x) := by decide +kernel
theorem vi_u3 : ∀ x : Fin 13, imin 12 (vi x + 3) = vi (u3 x) := by decide +kernel
theorem vi_m1 : ∀ x : Fin 13, vi x - (if 0 < vi x then 1 else 0) = vi (dn 1 x) := by decide +kernel
theorem vi_m2 : ∀ x : Fin 13, vi x - (if 1 < vi x then 2 else vi x) = vi (dn 2 x) := by decide +kernel
theorem vi_m3 : ∀ x : Fin 13, (if 8 < vi x then 12 else vi x + 3) = vi (u3 x) := by decide +kernel
theorem vi_pos : ∀ x : Fin 13, (0 < vi x) ↔ 0 < x.val := by decide +kernel
theorem vi_neg : ∀ x : Fin 13, ¬ vi x < 0 := by decide +kernel
theorem vi_0 : vi 0 = 0 := by decide
theorem hv_at {H : Nat → Fin 13} {g : Nat → Int32} {k : Nat} (h : k < 8) : hv H g k = vi (H k) := by simp [hv, h]
theorem hv_hv (H H' : Nat → Fin 13) (g : Nat → Int32) : hv H (hv H' g) = hv H g := by
  funext q; unfold hv; split <;> rfl
theorem upA_same (I : IT) (a : Nat) (f : Nat → Int32) : upA I a f a = f := by simp [upA]
theorem upA_upA (I : IT) (a : Nat) (f g : Nat → Int32) : upA (upA I a f) a g = upA I a g := by
  funext b; unfold upA; split <;> rfl
theorem upA_self (I : IT) (a : Nat) : upA I a (I a) = I := by
  funext b; unfold upA; split
  · rename_i h; rw [h]
  · rfl
theorem totN_le (H : Nat → Fin 13) : totN H ≤ 96 := by unfold totN; omega
theorem tot_vi (H : Nat → Fin 13) : 0 + vi (H 0) + vi (H 1) + vi (H 2) + vi (H 3) + vi (H 4) + vi (H 5) + vi (H 6) + vi (H 7) = Int32.ofNat (totN H) := by
  unfold totN vi
  simp only [Int32.ofNat_add]
  rw [Int32.zero_add]
theorem up8 {I : IT} {b : Nat} (f : Nat → Int32) : up (up (up (up (up (up (up (up I b 0 (f 0)) b 1 (f 1)) b 2 (f 2)) b 3 (f 3)) b 4 (f 4)) b 5 (f 5)) b 6 (f 6)) b 7 (f 7) = upA I b (fun q => if q < 8 then f q else I b q) := by
  funext c q
  rw [upA_at2]
  by_cases hc : c = b
  · subst hc
    rw [if_pos rfl]
    by_cases hq : q < 8
    · rw [if_pos hq]
      obtain rfl | rfl | rfl | rfl | rfl | rfl | rfl | rfl : q = 0 ∨ q = 1 ∨ q = 2 ∨ q = 3 ∨ q = 4 ∨ q = 5 ∨ q = 6 ∨ q = 7 := by omega
      all_goals simp [up_at]
    · rw [if_neg hq]
      simp only [up_at, true_and]
      repeat rw [if_neg (by omega)]
  · rw [if_neg hc]
    simp only [up_at, hc, false_and, if_false]
section
variable {d N a b a' b' μ : Nat} {I : IT} {J : JT} {i v x y : Int32} {M : Mem} {H H' : Nat → Fin 13} {I' : IT} {T : IT} {H0 : Nat → Fin 13} {l : Nat}
theorem qG_get (hA : sh N a = .inr (.inr (2, [(2, b)]))) (hB : sh N b = .inl (0, 8)) (hi : inb (x * 4 + y) 8 = true) : C (d + 1) iX2_get [.ref a, .int x, .int y] (mk N I J) = some (some (.int (I b (x * 4 + y).toNatClampNeg)), mk N I J) := by
  have h1 := inb_neg hi
  have h2 := inb_lt hi (by omega)
  rw [show Int32.ofNat 8 = 8 from rfl] at h2
  simp only [K_some, K_void, K_none, wA_ref, wA_null, isNull_null, isNull_ref, c_int, c_long, c_ref, c_null, c_float, catS_nil, catS_cons, fit_int, fit_bool, fit_long, isO_mk, len_mk, fld_mk, gI_mk, gI0_mk, gZ_mk, gR_mk, isI_mk, isR_mk, tag_mk, lenE_mk, datR_mk, isOs, lenOs, fldS, lenS, gIs, gI0s, gZs, gRs, isIs, isRs, tagS, datRs, mkv, refV, fkS, isArr, tagOk, datI_mk, wrI_mk, wrA_mk, wrF_mk, wrJ_mk, List.length_cons, List.length_nil, List.getElem?_cons_zero, List.getElem?_cons_succ, List.getElem?_nil, ↓reduceIte, Nat.reduceAdd, Nat.reduceMul, Nat.reduceSub, Nat.reduceDiv, Nat.reduceMod, Nat.reduceLT, Nat.reduceLeDiff, Nat.reduceBEq, Nat.reduceEqDiff, Nat.zero_lt_succ, beq_self_eq_true, Bool.true_and, Bool.and_true, Bool.or_true, Bool.true_or, Bool.or_false, Bool.false_or, Bool.false_and, Bool.and_false, Bool.not_true, Bool.not_false, Bool.false_eq_true, Bool.true_eq_false, Bool.and_eq_true, Bool.or_eq_true, Bool.not_eq_true', decide_eq_true_eq, decide_eq_false_iff_not, decide_true, decide_false, and_self, true_and, and_true, or_true, true_or, or_false, false_or, and_false, false_and, or_self, reduceCtorEq, not_true_eq_false, not_false_eq_true, if_true, if_false, Int32.reduceAdd, Int32.reduceSub, Int32.reduceMul, Int32.reduceDiv, Int32.reduceMod, Int32.reduceLT, Int32.reduceLE, eqF1, eqF2, Int32.reduceOfNat, Int32.reduceOfInt, Int32.reduceToNatClampNeg, inb_lit, en_X2_get, e_X2_get_0, e_X2_get_1, e_X2_get_2, e_X2_get_3, e_X2_get_4, e_X2_get_5, e_X2_get_6, e_X2_get_7, e_X2_get_10, e_X2_get_11, e_X2_get_12, e_X2_get_15, e_X2_get_16, e_X2_get_19, e_X2_get_20, e_X2_get_23, e_X2_get_24, e_X2_get_25, e_X2_get_28, e_X2_get_29, hA, hB, h1, h2, hi]
theorem qG_set (hA : sh N a = .inr (.inr (2, [(2, b)]))) (hB : sh N b = .inl (0, 8)) (hi : inb (x * 4 + y) 8 = true) : C (d + 1) iX2_set [.ref a, .int x, .int y, .int v] (mk N I J) = some (none, mk N (up I b (x * 4 + y).toNatClampNeg v) J) := by
  have h1 := inb_neg hi
  have h2 := inb_lt hi (by omega)
  rw [show Int32.ofNat 8 = 8 from rfl] at h2
  simp only [K_some, K_void, K_none, wA_ref, wA_null, isNull_null, isNull_ref, c_int, c_long, c_ref, c_null, c_float, catS_nil, catS_cons, fit_int, fit_bool, fit_long, isO_mk, len_mk, fld_mk, gI_mk, gI0_mk, gZ_mk, gR_mk, isI_mk, isR_mk, tag_mk, lenE_mk, datR_mk, isOs, lenOs, fldS, lenS, gIs, gI0s, gZs, gRs, isIs, isRs, tagS, datRs, mkv, refV, fkS, isArr, tagOk, datI_mk, wrI_mk, wrA_mk, wrF_mk, wrJ_mk, List.length_cons, List.length_nil, List.getElem?_cons_zero, List.getElem?_cons_succ, List.getElem?_nil, ↓reduceIte, Nat.reduceAdd, Nat.reduceMul, Nat.reduceSub, Nat.reduceDiv, Nat.reduceMod, Nat.reduceLT, Nat.reduceLeDiff, Nat.reduceBEq, Nat.reduceEqDiff, Nat.zero_lt_succ, beq_self_eq_true, Bool.true_and, Bool.and_true, Bool.or_true, Bool.true_or, Bool.or_false, Bool.false_or, Bool.false_and, Bool.and_false, Bool.not_true, Bool.not_false, Bool.false_eq_true, Bool.true_eq_false, Bool.and_eq_true, Bool.or_eq_true, Bool.not_eq_true', decide_eq_true_eq, decide_eq_false_iff_not, decide_true, decide_false, and_self, true_and, and_true, or_true, true_or, or_false, false_or, and_false, false_and, or_self, reduceCtorEq, not_true_eq_false, not_false_eq_true, if_true, if_false, Int32.reduceAdd, Int32.reduceSub, Int32.reduceMul, Int32.reduceDiv, Int32.reduceMod, Int32.reduceLT, Int32.reduceLE, eqF1, eqF2, Int32.reduceOfNat, Int32.reduceOfInt, Int32.reduceToNatClampNeg, inb_lit, en_X2_set, e_X2_set_0, e_X2_set_1, e_X2_set_2, e_X2_set_3, e_X2_set_4, e_X2_set_5, e_X2_set_7, e_X2_set_9, e_X2_set_12, e_X2_set_14, e_X2_set_15, e_X2_set_18, e_X2_set_19, e_X2_set_22, e_X2_set_23, e_X2_set_26, e_X2_set_28, e_X2_set_29, e_X2_set_30, hA, hB, h1, h2, hi]
theorem qG_take (hA : sh N a = .inr (.inr (2, [(2, b)]))) (hB : sh N b = .inl (0, 8)) (hA' : sh N a' = .inr (.inr (2, [(2, b')]))) (hB' : sh N b' = .inl (0, 8)) (hH : ∀ k, k < 8 → I b' k = vi (H k)) : C (d + 1) iX2_takeFrom [.ref a, .ref a'] (mk N I J) = some (none, mk N (upA I b (hv H (I b))) J) := by
  simp only [K_some, K_void, K_none, wA_ref, wA_null, isNull_null, isNull_ref, c_int, c_long, c_ref, c_null, c_float, catS_nil, catS_cons, fit_int, fit_bool, fit_long, isO_mk, len_mk, fld_mk, gI_mk, gI0_mk, gZ_mk, gR_mk, isI_mk, isR_mk, tag_mk, lenE_mk, datR_mk, isOs, lenOs, fldS, lenS, gIs, gI0s, gZs, gRs, isIs, isRs, tagS, datRs, mkv, refV, fkS, isArr, tagOk, datI_mk, wrI_mk, wrA_mk, wrF_mk, wrJ_mk, List.length_cons, List.length_nil, List.getElem?_cons_zero, List.getElem?_cons_succ, List.getElem?_nil, ↓reduceIte, Nat.reduceAdd, Nat.reduceMul, Nat.reduceSub, Nat.reduceDiv, Nat.reduceMod, Nat.reduceLT, Nat.reduceLeDiff, Nat.reduceBEq, Nat.reduceEqDiff, Nat.zero_lt_succ, beq_self_eq_true, Bool.true_and, Bool.and_true, Bool.or_true, Bool.true_or, Bool.or_false, Bool.false_or, Bool.false_and, Bool.and_false, Bool.not_true, Bool.not_false, Bool.false_eq_true, Bool.true_eq_false, Bool.and_eq_true, Bool.or_eq_true, Bool.not_eq_true', decide_eq_true_eq, decide_eq_false_iff_not, decide_true, decide_false, and_self, true_and, and_true, or_true, true_or, or_false, false_or, and_false, false_and, or_self, reduceCtorEq, not_true_eq_false, not_false_eq_true, if_true, if_false, Int32.reduceAdd, Int32.reduceSub, Int32.reduceMul, Int32.reduceDiv, Int32.reduceMod, Int32.reduceLT, Int32.reduceLE, eqF1, eqF2, Int32.reduceOfNat, Int32.reduceOfInt, Int32.reduceToNatClampNeg, inb_lit, en_X2_takeFrom, e_X2_takeFrom_0, e_X2_takeFrom_1, e_X2_takeFrom_4, e_X2_takeFrom_5, e_X2_takeFrom_6, e_X2_takeFrom_9, e_X2_takeFrom_10, e_X2_takeFrom_11, e_X2_takeFrom_14, e_X2_takeFrom_15, e_X2_takeFrom_18, hA, hB, hA', hB']
  congr 4
  funext q
  unfold va_cpy hv
  by_cases hq : q < 8
  · rw [if_pos ⟨by omega, by omega⟩, if_pos hq, ← hH q hq]; congr 1; omega
  · rw [if_neg (by omega), if_neg hq]
theorem qG_total (hA : sh N a = .inr (.inr (2, [(2, b)]))) (hB : sh N b = .inl (0, 8)) (hH : ∀ k, k < 8 → I b k = vi (H k)) : C (d + 1) iX2_total [.ref a] (mk N I J) = some (some (.int (Int32.ofNat (totN H))), mk N I J) := by
  simp only [K_some, K_void, K_none, wA_ref, wA_null, isNull_null, isNull_ref, c_int, c_long, c_ref, c_null, c_float, catS_nil, catS_cons, fit_int, fit_bool, fit_long, isO_mk, len_mk, fld_mk, gI_mk, gI0_mk, gZ_mk, gR_mk, isI_mk, isR_mk, tag_mk, lenE_mk, datR_mk, isOs, lenOs, fldS, lenS, gIs, gI0s, gZs, gRs, isIs, isRs, tagS, datRs, mkv, refV, fkS, isArr, tagOk, datI_mk, wrI_mk, wrA_mk, wrF_mk, wrJ_mk, List.length_cons, List.length_nil, List.getElem?_cons_zero, List.getElem?_cons_succ, List.getElem?_nil, ↓reduceIte, Nat.reduceAdd, Nat.reduceMul, Nat.reduceSub, Nat.reduceDiv, Nat.reduceMod, Nat.reduceLT, Nat.reduceLeDiff, Nat.reduceBEq, Nat.reduceEqDiff, Nat.zero_lt_succ, beq_self_eq_true, Bool.true_and, Bool.and_true, Bool.or_true, Bool.true_or, Bool.or_false, Bool.false_or, Bool.false_and, Bool.and_false, Bool.not_true, Bool.not_false, Bool.false_eq_true, Bool.true_eq_false, Bool.and_eq_true, Bool.or_eq_true, Bool.not_eq_true', decide_eq_true_eq, decide_eq_false_iff_not, decide_true, decide_false, and_self, true_and, and_true, or_true, true_or, or_false, false_or, and_false, false_and, or_self, reduceCtorEq, not_true_eq_false, not_false_eq_true, if_true, if_false, Int32.reduceAdd, Int32.reduceSub, Int32.reduceMul, Int32.reduceDiv, Int32.reduceMod, Int32.reduceLT, Int32.reduceLE, eqF1, eqF2, Int32.reduceOfNat, Int32.reduceOfInt, Int32.reduceToNatClampNeg, inb_lit, en_X2_total, e_X2_total_0, e_X2_total_1, e_X2_total_2, e_X2_total_3, e_X2_total_4, e_X2_total_5, e_X2_total_6, e_X2_total_9, e_X2_total_10, e_X2_total_13, e_X2_total_14, e_X2_total_15, e_X2_total_18, e_X2_total_19, e_X2_total_20, e_X2_total_21, e_X2_total_22, e_X2_total_25, e_X2_total_28, e_X2_total_29, hA, hB, hH]
  rw [← tot_vi]
theorem qG_passDay (hA : sh N a = .inr (.inr (2, [(2, b)]))) (hB : sh N b = .inl (0, 8)) (hH : ∀ k, k < 8 → I b k = vi (H k)) : C (d + 2) iX2_passDay [.ref a] (mk N I J) = some (none, mk N (upA I b (hv (pdH H) (I b))) J) := by
  simp only [K_some, K_void, K_none, wA_ref, wA_null, isNull_null, isNull_ref, c_int, c_long, c_ref, c_null, c_float, catS_nil, catS_cons, fit_int, fit_bool, fit_long, isO_mk, len_mk, fld_mk, gI_mk, gI0_mk, gZ_mk, gR_mk, isI_mk, isR_mk, tag_mk, lenE_mk, datR_mk, isOs, lenOs, fldS, lenS, gIs, gI0s, gZs, gRs, isIs, isRs, tagS, datRs, mkv, refV, fkS, isArr, tagOk, datI_mk, wrI_mk, wrA_mk, wrF_mk, wrJ_mk, List.length_cons, List.length_nil, List.getElem?_cons_zero, List.getElem?_cons_succ, List.getElem?_nil, ↓reduceIte, Nat.reduceAdd, Nat.reduceMul, Nat.reduceSub, Nat.reduceDiv, Nat.reduceMod, Nat.reduceLT, Nat.reduceLeDiff, Nat.reduceBEq, Nat.reduceEqDiff, Nat.zero_lt_succ, beq_self_eq_true, Bool.true_and, Bool.and_true, Bool.or_true, Bool.true_or, Bool.or_false, Bool.false_or, Bool.false_and, Bool.and_false, Bool.not_true, Bool.not_false, Bool.false_eq_true, Bool.true_eq_false, Bool.and_eq_true, Bool.or_eq_true, Bool.not_eq_true', decide_eq_true_eq, decide_eq_false_iff_not, decide_true, decide_false, and_self, true_and, and_true, or_true, true_or, or_false, false_or, and_false, false_and, or_self, reduceCtorEq, not_true_eq_false, not_false_eq_true, if_true, if_false, Int32.reduceAdd, Int32.reduceSub, Int32.reduceMul, Int32.reduceDiv, Int32.reduceMod, Int32.reduceLT, Int32.reduceLE, eqF1, eqF2, Int32.reduceOfNat, Int32.reduceOfInt, Int32.reduceToNatClampNeg, inb_lit, en_X2_passDay, e_X2_passDay_0, e_X2_passDay_1, e_X2_passDay_2, e_X2_passDay_3, e_X2_passDay_4, e_X2_passDay_7, e_X2_passDay_8, e_X2_passDay_11, e_X2_passDay_12, e_X2_passDay_15, e_X2_passDay_16, e_X2_passDay_17, e_X2_passDay_18, e_X2_passDay_21, e_X2_passDay_22, e_X2_passDay_23, e_X2_passDay_24, e_X2_passDay_25, e_X2_passDay_28, e_X2_passDay_29, e_X2_passDay_32, e_X2_passDay_33, e_X2_passDay_34, e_X2_passDay_37, e_X2_passDay_38, e_X2_passDay_41, e_X2_passDay_44, up_at, upA_at2, upJ_at, hA, hB, hH, qJ_max, vi_dn1, vi_dn2]
  congr 3
  exact up8 (fun k => vi (pdH H k))
theorem up2 {I : IT} (hm : μ < 4) (hH : ∀ k, k < 8 → I b k = vi (H k)) : up (up I b μ (vi (u3 (H μ)))) b (μ + 4) (vi (u3 (H (μ + 4)))) = upA I b (hv (syH μ H) (I b)) := by
  funext c q
  rw [upA_at2, up_at, up_at]
  by_cases hc : c = b
  · subst hc
    rw [if_pos rfl]
    unfold hv syH
    by_cases h1 : q = μ + 4
    · subst h1; rw [if_pos ⟨rfl, rfl⟩, if_pos (by omega), if_pos (Or.inr rfl)]
    · rw [if_neg (fun h => h1 h.2)]
      by_cases h2 : q = μ
      · subst h2; rw [if_pos ⟨rfl, rfl⟩, if_pos (by omega), if_pos (Or.inl rfl)]
      · rw [if_neg (fun h => h2 h.2)]
        by_cases hq : q < 8
        · rw [if_pos hq, if_neg (by omega), hH q hq]
        · rw [if_neg hq]
  · rw [if_neg hc, if_neg (fun h => hc h.1), if_neg (fun h => hc h.1)]
theorem qG_raise (hA : sh N a = .inr (.inr (2, [(2, b)]))) (hB : sh N b = .inl (0, 8)) (hH : ∀ k, k < 8 → I b k = vi (H k)) (hm : μ < 4) : C (d + 2) iX2_raise [.ref a, .int (Int32.ofNat μ)] (mk N I J) = some (none, mk N (upA I b (hv (syH μ H) (I b))) J) := by
  rw [← up2 hm hH]
  obtain rfl | rfl | rfl | rfl : μ = 0 ∨ μ = 1 ∨ μ = 2 ∨ μ = 3 := by omega
  all_goals simp only [K_some, K_void, K_none, wA_ref, wA_null, isNull_null, isNull_ref, c_int, c_long, c_ref, c_null, c_float, catS_nil, catS_cons, fit_int, fit_bool, fit_long, isO_mk, len_mk, fld_mk, gI_mk, gI0_mk, gZ_mk, gR_mk, isI_mk, isR_mk, tag_mk, lenE_mk, datR_mk, isOs, lenOs, fldS, lenS, gIs, gI0s, gZs, gRs, isIs, isRs, tagS, datRs, mkv, refV, fkS, isArr, tagOk, datI_mk, wrI_mk, wrA_mk, wrF_mk, wrJ_mk, List.length_cons, List.length_nil, List.getElem?_cons_zero, List.getElem?_cons_succ, List.getElem?_nil, ↓reduceIte, Nat.reduceAdd, Nat.reduceMul, Nat.reduceSub, Nat.reduceDiv, Nat.reduceMod, Nat.reduceLT, Nat.reduceLeDiff, Nat.reduceBEq, Nat.reduceEqDiff, Nat.zero_lt_succ, beq_self_eq_true, Bool.true_and, Bool.and_true, Bool.or_true, Bool.true_or, Bool.or_false, Bool.false_or, Bool.false_and, Bool.and_false, Bool.not_true, Bool.not_false, Bool.false_eq_true, Bool.true_eq_false, Bool.and_eq_true, Bool.or_eq_true, Bool.not_eq_true', decide_eq_true_eq, decide_eq_false_iff_not, decide_true, decide_false, and_self, true_and, and_true, or_true, true_or, or_false, false_or, and_false, false_and, or_self, reduceCtorEq, not_true_eq_false, not_false_eq_true, if_true, if_false, Int32.reduceAdd, Int32.reduceSub, Int32.reduceMul, Int32.reduceDiv, Int32.reduceMod, Int32.reduceLT, Int32.reduceLE, eqF1, eqF2, Int32.reduceOfNat, Int32.reduceOfInt, Int32.reduceToNatClampNeg, inb_lit, en_X2_raise, e_X2_raise_0, e_X2_raise_1, e_X2_raise_2, e_X2_raise_3, e_X2_raise_5, e_X2_raise_6, e_X2_raise_7, e_X2_raise_8, e_X2_raise_11, e_X2_raise_12, e_X2_raise_13, e_X2_raise_16, e_X2_raise_19, e_X2_raise_20, e_X2_raise_21, e_X2_raise_22, e_X2_raise_24, e_X2_raise_25, e_X2_raise_26, e_X2_raise_27, e_X2_raise_30, e_X2_raise_31, e_X2_raise_32, e_X2_raise_35, e_X2_raise_38, en_X2_get, e_X2_get_0, e_X2_get_1, e_X2_get_2, e_X2_get_3, e_X2_get_4, e_X2_get_5, e_X2_get_6, e_X2_get_7, e_X2_get_10, e_X2_get_11, e_X2_get_12, e_X2_get_15, e_X2_get_16, e_X2_get_19, e_X2_get_20, e_X2_get_23, e_X2_get_24, e_X2_get_25, e_X2_get_28, e_X2_get_29, en_X2_set, e_X2_set_0, e_X2_set_1, e_X2_set_2, e_X2_set_3, e_X2_set_4, e_X2_set_5, e_X2_set_7, e_X2_set_9, e_X2_set_12, e_X2_set_14, e_X2_set_15, e_X2_set_18, e_X2_set_19, e_X2_set_22, e_X2_set_23, e_X2_set_26, e_X2_set_28, e_X2_set_29, e_X2_set_30, up_at, upA_at2, upJ_at, hA, hB, hH, qJ_min, vi_u3]
theorem hv_of (hH : ∀ k, k < 8 → I b k = vi (H k)) : ∀ k, k < 8 → upA I b (hv H' (I b)) b k = vi (H' k) := by
  intro k hk; rw [upA_same, hv_at hk]
theorem qG_with (hA : sh N a = .inr (.inr (2, [(2, b)]))) (hB : sh N b = .inl (0, 8)) (hH : ∀ k, k < 8 → I b k = vi (H k)) (hm : μ < 4) : C (d + 3) iX2_passDayWith [.ref a, .int (Int32.ofNat μ)] (mk N I J) = some (none, mk N (upA I b (hv (pdH (syH μ H)) (I b))) J) := by
  have h9 : (Int32.ofNat μ = -9) = False := by
    obtain rfl | rfl | rfl | rfl : μ = 0 ∨ μ = 1 ∨ μ = 2 ∨ μ = 3 := by omega
    all_goals decide
  simp only [K_some, K_void, K_none, wA_ref, wA_null, isNull_null, isNull_ref, c_int, c_long, c_ref, c_null, c_float, catS_nil, catS_cons, fit_int, fit_bool, fit_long, isO_mk, len_mk, fld_mk, gI_mk, gI0_mk, gZ_mk, gR_mk, isI_mk, isR_mk, tag_mk, lenE_mk, datR_mk, isOs, lenOs, fldS, lenS, gIs, gI0s, gZs, gRs, isIs, isRs, tagS, datRs, mkv, refV, fkS, isArr, tagOk, datI_mk, wrI_mk, wrA_mk, wrF_mk, wrJ_mk, List.length_cons, List.length_nil, List.getElem?_cons_zero, List.getElem?_cons_succ, List.getElem?_nil, ↓reduceIte, Nat.reduceAdd, Nat.reduceMul, Nat.reduceSub, Nat.reduceDiv, Nat.reduceMod, Nat.reduceLT, Nat.reduceLeDiff, Nat.reduceBEq, Nat.reduceEqDiff, Nat.zero_lt_succ, beq_self_eq_true, Bool.true_and, Bool.and_true, Bool.or_true, Bool.true_or, Bool.or_false, Bool.false_or, Bool.false_and, Bool.and_false, Bool.not_true, Bool.not_false, Bool.false_eq_true, Bool.true_eq_false, Bool.and_eq_true, Bool.or_eq_true, Bool.not_eq_true', decide_eq_true_eq, decide_eq_false_iff_not, decide_true, decide_false, and_self, true_and, and_true, or_true, true_or, or_false, false_or, and_false, false_and, or_self, reduceCtorEq, not_true_eq_false, not_false_eq_true, if_true, if_false, Int32.reduceAdd, Int32.reduceSub, Int32.reduceMul, Int32.reduceDiv, Int32.reduceMod, Int32.reduceLT, Int32.reduceLE, eqF1, eqF2, Int32.reduceOfNat, Int32.reduceOfInt, Int32.reduceToNatClampNeg, inb_lit, en_X2_passDayWith, e_X2_passDayWith_0, e_X2_passDayWith_1, e_X2_passDayWith_3, e_X2_passDayWith_6, e_X2_passDayWith_7, e_X2_passDayWith_8, e_X2_passDayWith_11, e_X2_passDayWith_12, e_X2_passDayWith_15, hA, hB, h9, qG_raise hA hB hH hm, qG_passDay hA hB (hv_of hH), upA_upA, upA_same, hv_hv]
theorem qG_with9 (hA : sh N a = .inr (.inr (2, [(2, b)]))) (hB : sh N b = .inl (0, 8)) (hH : ∀ k, k < 8 → I b k = vi (H k)) : C (d + 3) iX2_passDayWith [.ref a, .int (-9)] (mk N I J) = some (none, mk N (upA I b (hv (pdH H) (I b))) J) := by
  simp only [K_some, K_void, K_none, wA_ref, wA_null, isNull_null, isNull_ref, c_int, c_long, c_ref, c_null, c_float, catS_nil, catS_cons, fit_int, fit_bool, fit_long, isO_mk, len_mk, fld_mk, gI_mk, gI0_mk, gZ_mk, gR_mk, isI_mk, isR_mk, tag_mk, lenE_mk, datR_mk, isOs, lenOs, fldS, lenS, gIs, gI0s, gZs, gRs, isIs, isRs, tagS, datRs, mkv, refV, fkS, isArr, tagOk, datI_mk, wrI_mk, wrA_mk, wrF_mk, wrJ_mk, List.length_cons, List.length_nil, List.getElem?_cons_zero, List.getElem?_cons_succ, List.getElem?_nil, ↓reduceIte, Nat.reduceAdd, Nat.reduceMul, Nat.reduceSub, Nat.reduceDiv, Nat.reduceMod, Nat.reduceLT, Nat.reduceLeDiff, Nat.reduceBEq, Nat.reduceEqDiff, Nat.zero_lt_succ, beq_self_eq_true, Bool.true_and, Bool.and_true, Bool.or_true, Bool.true_or, Bool.or_false, Bool.false_or, Bool.false_and, Bool.and_false, Bool.not_true, Bool.not_false, Bool.false_eq_true, Bool.true_eq_false, Bool.and_eq_true, Bool.or_eq_true, Bool.not_eq_true', decide_eq_true_eq, decide_eq_false_iff_not, decide_true, decide_false, and_self, true_and, and_true, or_true, true_or, or_false, false_or, and_false, false_and, or_self, reduceCtorEq, not_true_eq_false, not_false_eq_true, if_true, if_false, Int32.reduceAdd, Int32.reduceSub, Int32.reduceMul, Int32.reduceDiv, Int32.reduceMod, Int32.reduceLT, Int32.reduceLE, eqF1, eqF2, Int32.reduceOfNat, Int32.reduceOfInt, Int32.reduceToNatClampNeg, inb_lit, en_X2_passDayWith, e_X2_passDayWith_0, e_X2_passDayWith_1, e_X2_passDayWith_3, e_X2_passDayWith_6, e_X2_passDayWith_7, e_X2_passDayWith_8, e_X2_passDayWith_11, e_X2_passDayWith_12, e_X2_passDayWith_15, hA, hB, qG_passDay hA hB hH]
end
section
variable {d N a b μ : Nat} {I : IT} {J : JT} {x : Int32} {H : Nat → Fin 13} {I' : IT} {T : IT} {H0 : Nat → Fin 13} {l : Nat}
end
