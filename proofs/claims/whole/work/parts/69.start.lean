/-! THE START: the constructors' end is a state; the law's run -/
def I0 (xs : Nat → Int32) : IT := fun a k => if a = 0 then xs k else if (14 ≤ a ∧ a ≤ 19) ∧ (k = 3 ∨ k = 4) then -9 else if (a = 20 ∨ a = 23 ∨ a = 26) ∧ k = 2 then -1 else if (57 ≤ a ∧ a ≤ 75 ∧ a % 2 = 1) ∧ k = 2 then -1 else if (69 ≤ a ∧ a ≤ 75 ∧ a % 2 = 1) ∧ k = 1 then 32 else if a = 82 ∧ k < 6 then -1 else if a = 84 ∧ k < 4 then -1 else 0
def J0 : JT := fun a k => if (a = 55 ∧ k = 4) ∨ (a = 77 ∧ k = 11) then 1 else 0
theorem ma_up {k n m : Nat} {f : Nat → PE} {ds : List PE} {c : PE} : al (ma k f ds n) c m = ma (k + ds.length) (fun a => if a < k then f a else ds.getD (a - k) (pO 99 [])) [c] (n + m) := by
  unfold al ma
  refine Prod.ext (funext fun a => ?_) rfl
  show (if a = k + ds.length then c else if a < k then f a else ds.getD (a - k) (pO 99 [])) = if a < k + ds.length then (if a < k then f a else ds.getD (a - k) (pO 99 [])) else [c].getD (a - (k + ds.length)) (pO 99 [])
  by_cases h : a = k + ds.length
  · rw [if_pos h, if_neg (by omega), h, Nat.sub_self]; rfl
  · rw [if_neg h]
    by_cases h2 : a < k + ds.length
    · rw [if_pos h2]
    · rw [if_neg h2, if_neg (by omega), List.getD_eq_getElem?_getD, List.getD_eq_getElem?_getD, List.getElem?_eq_none (by omega), List.getElem?_eq_none (by simp; omega)]
theorem st_cell {N : Nat} {xs : Nat → Int32} : ∀ a : Nat, (if a < 77 then (if a < 1 then pI 9 N xs else c9.getD (a - 1) (pO 99 [])) else c10.getD (a - 77) (pO 99 [])) = fill (sh N a) (I0 xs a) (J0 a)
  | 0 => rfl
  | 1 => rfl
  | 2 => congrArg (fun g => (Sum.inr (Sum.inl (15, 6, g)) : PE)) (funext fun j => match j with | 0 => rfl  | 1 => rfl  | 2 => rfl  | 3 => rfl  | 4 => rfl  | 5 => rfl | _ + 6 => rfl)
  | 3 => congrArg (fun g => (Sum.inr (Sum.inl (15, 4, g)) : PE)) (funext fun j => match j with | 0 => rfl  | 1 => rfl  | 2 => rfl  | 3 => rfl | _ + 4 => rfl)
  | 4 => rfl
  | 5 => rfl
  | 6 => rfl
  | 7 => rfl
  | 8 => rfl
  | 9 => congrArg (fun g => (Sum.inr (Sum.inl (18, 6, g)) : PE)) (funext fun j => match j with | 0 => rfl  | 1 => rfl  | 2 => rfl  | 3 => rfl  | 4 => rfl  | 5 => rfl | _ + 6 => rfl)
  | 10 => rfl
  | 11 => rfl
  | 12 => rfl
  | 13 => congrArg (fun g => (Sum.inr (Sum.inl (10, 3, g)) : PE)) (funext fun j => match j with | 0 => rfl  | 1 => rfl  | 2 => rfl | _ + 3 => rfl)
  | 14 => rfl
  | 15 => rfl
  | 16 => rfl
  | 17 => rfl
  | 18 => rfl
  | 19 => rfl
  | 20 => rfl
  | 21 => rfl
  | 22 => rfl
  | 23 => rfl
  | 24 => rfl
  | 25 => rfl
  | 26 => rfl
  | 27 => rfl
  | 28 => rfl
  | 29 => rfl
  | 30 => rfl
  | 31 => rfl
  | 32 => rfl
  | 33 => rfl
  | 34 => rfl
  | 35 => rfl
  | 36 => rfl
  | 37 => congrArg (fun g => (Sum.inr (Sum.inl (12, 6, g)) : PE)) (funext fun j => match j with | 0 => rfl  | 1 => rfl  | 2 => rfl  | 3 => rfl  | 4 => rfl  | 5 => rfl | _ + 6 => rfl)
  | 38 => rfl
  | 39 => rfl
  | 40 => rfl
  | 41 => rfl
  | 42 => rfl
  | 43 => rfl
  | 44 => rfl
  | 45 => rfl
  | 46 => rfl
  | 47 => rfl
  | 48 => rfl
  | 49 => rfl
  | 50 => rfl
  | 51 => rfl
  | 52 => rfl
  | 53 => rfl
  | 54 => rfl
  | 55 => rfl
  | 56 => rfl
  | 57 => rfl
  | 58 => rfl
  | 59 => rfl
  | 60 => rfl
  | 61 => rfl
  | 62 => rfl
  | 63 => rfl
  | 64 => rfl
  | 65 => rfl
  | 66 => rfl
  | 67 => rfl
  | 68 => rfl
  | 69 => rfl
  | 70 => rfl
  | 71 => rfl
  | 72 => rfl
  | 73 => rfl
  | 74 => rfl
  | 75 => rfl
  | 76 => rfl
  | 77 => rfl
  | 78 => rfl
  | 79 => rfl
  | 80 => rfl
  | 81 => rfl
  | 82 => congrArg (fun g => (Sum.inl (0, 6, g) : PE)) (funext fun j => match j with | 0 => rfl  | 1 => rfl  | 2 => rfl  | 3 => rfl  | 4 => rfl  | 5 => rfl | _ + 6 => rfl)
  | 83 => rfl
  | 84 => congrArg (fun g => (Sum.inl (0, 4, g) : PE)) (funext fun j => match j with | 0 => rfl  | 1 => rfl  | 2 => rfl  | 3 => rfl | _ + 4 => rfl)
  | 85 => rfl
  | 86 => rfl
  | 87 => rfl
  | 88 => rfl
  | 89 => rfl
  | 90 => rfl
  | 91 => rfl
  | 92 => rfl
  | 93 => rfl
  | a + 94 => by
    rw [if_neg (by omega), List.getD_eq_getElem?_getD, List.getElem?_eq_none (by show 17 ≤ _; omega)]
    unfold sh
    rw [if_neg (by omega), List.getD_eq_getElem?_getD, List.getElem?_eq_none (by show 94 ≤ _; omega)]
    rfl
theorem st_mk {N : Nat} {xs : Nat → Int32} : ma 77 (fun a => if a < 1 then pI 9 N xs else c9.getD (a - 1) (pO 99 [])) c10 2227 = mk N (I0 xs) J0 := by
  unfold ma mk
  exact Prod.ext (funext fun a => st_cell a) rfl
theorem st_inv {xs : Nat → Int32} : Inv (I0 xs) J0 := by
  refine ⟨fun r hr => ?_, fun r hr => ?_, ⟨rfl, rfl, fun k _ => rfl, rfl, rfl⟩, ⟨0, fun _ => 0, [], fun _ => none, ⟨by omega, rfl, fun k _ => ⟨0, rfl⟩, Or.inl rfl, fun i hi => by omega⟩, ⟨by simp, by simp⟩, fun k _ => rfl, ⟨rfl, rfl, rfl, fun k hk => ?_, fun i hi => by omega⟩, ⟨rfl, fun j p h => by simp at h⟩, ⟨fun k hk => ?_, rfl, fun j p h => by simp at h⟩, fun j hj => ?_⟩⟩
  · obtain rfl | rfl | rfl | rfl | rfl | rfl : r = 0 ∨ r = 1 ∨ r = 2 ∨ r = 3 ∨ r = 4 ∨ r = 5 := by omega
    all_goals exact ⟨rfl, rfl, Or.inl rfl⟩
  · obtain rfl | rfl | rfl | rfl : r = 0 ∨ r = 1 ∨ r = 2 ∨ r = 3 := by omega
    all_goals exact ⟨rfl, rfl, Or.inl rfl⟩
  · rw [run_nil]
    unfold bgF
    rw [if_neg (by omega), if_pos (by omega)]
    rfl
  · rw [run_nil]
    unfold relF at hk
    unfold bgF
    show (0 : Int32) = _
    by_cases c1 : k = 69
    · rw [if_pos c1]
    · rw [if_neg c1]
      by_cases c2 : 70 ≤ k ∧ k < 78
      · rw [if_pos c2]
      · rw [if_neg c2, if_neg (by omega), if_neg (by omega)]
  · obtain rfl | rfl | rfl : j = 0 ∨ j = 1 ∨ j = 2 := by omega
    all_goals exact ⟨rfl, rfl⟩
theorem lz_run {N : Nat} {xs : Nat → Int32} (hN : N ≤ 3072) : ∃ I' J', R 20 iL_law 0 [.ref 0, .float 0, .float 0, .float 0] [] (ma 1 (fun _ => pI 9 N xs) [] 0) = some (some (.int 1), mk N I' J') := by
  obtain ⟨I', J', h⟩ := lz_loop hN N 0 (I0 xs) J0 st_inv (Nat.zero_le _) (by omega)
  refine ⟨I', J', ?_⟩
  rw [show Int32.ofNat 0 = 0 from rfl] at h
  have a1 : al (ma 1 (fun _ => pI 9 N xs) [] 0) (pO 9 (defs 9)) (defs 9).length = ma 1 (fun _ => pI 9 N xs) [pO 9 (defs 9)] 8 := by rw [ma_al]; rfl
  have z1 : (ma 1 (fun _ => pI 9 N xs) [] 0).2.1 = 1 := rfl
  have x9 := i_X9 (d := 15) (f := fun _ => pI 9 N xs) (n := 8)
  have a2 : al (ma 1 (fun _ => pI 9 N xs) c9 (8 + 1056)) (pO 10 (defs 10)) (defs 10).length = ma 77 (fun a => if a < 1 then pI 9 N xs else c9.getD (a - 1) (pO 99 [])) [pO 10 (defs 10)] 1089 := by rw [ma_up]; rfl
  have z2 : (ma 1 (fun _ => pI 9 N xs) c9 (8 + 1056)).2.1 = 77 := rfl
  have x10 := i_X10 (d := 19) (n := 1089) (f := fun a => if a < 1 then pI 9 N xs else c9.getD (a - 1) (pO 99 []))
  have e : ma 77 (fun a => if a < 1 then pI 9 N xs else c9.getD (a - 1) (pO 99 [])) c10 (1089 + 1138) = mk N (I0 xs) J0 := st_mk
  rw [e] at x10
  rw [e_L_law_0, z1, a1]
  simp only [K_some, K_void, K_none, wA_ref, wA_null, isNull_null, isNull_ref, c_int, c_long, c_ref, c_null, c_float, catS_nil, catS_cons, fit_int, fit_bool, fit_long, isO_mk, len_mk, fld_mk, gI_mk, gI0_mk, gZ_mk, gR_mk, isI_mk, isR_mk, tag_mk, lenE_mk, datR_mk, isOs, lenOs, fldS, lenS, gIs, gI0s, gZs, gRs, isIs, isRs, tagS, datRs, mkv, refV, fkS, isArr, tagOk, datI_mk, wrI_mk, wrA_mk, wrF_mk, wrJ_mk, List.length_cons, List.length_nil, List.getElem?_cons_zero, List.getElem?_cons_succ, List.getElem?_nil, ↓reduceIte, Nat.reduceAdd, Nat.reduceMul, Nat.reduceSub, Nat.reduceDiv, Nat.reduceMod, Nat.reduceLT, Nat.reduceLeDiff, Nat.reduceBEq, Nat.reduceEqDiff, Nat.zero_lt_succ, beq_self_eq_true, Bool.true_and, Bool.and_true, Bool.or_true, Bool.true_or, Bool.or_false, Bool.false_or, Bool.false_and, Bool.and_false, Bool.not_true, Bool.not_false, Bool.false_eq_true, Bool.true_eq_false, Bool.and_eq_true, Bool.or_eq_true, Bool.not_eq_true', decide_eq_true_eq, decide_eq_false_iff_not, decide_true, decide_false, and_self, true_and, and_true, or_true, true_or, or_false, false_or, and_false, false_and, or_self, reduceCtorEq, not_true_eq_false, not_false_eq_true, if_true, if_false, Int32.reduceAdd, Int32.reduceSub, Int32.reduceMul, Int32.reduceDiv, Int32.reduceMod, Int32.reduceLT, Int32.reduceLE, eqF1, eqF2, Int32.reduceOfNat, Int32.reduceOfInt, Int32.reduceToNatClampNeg, inb_lit, e_L_law_3, e_L_law_4, x9]
  rw [e_L_law_7, e_L_law_8, z2, a2]
  simp only [K_some, K_void, K_none, wA_ref, wA_null, isNull_null, isNull_ref, c_int, c_long, c_ref, c_null, c_float, catS_nil, catS_cons, fit_int, fit_bool, fit_long, isO_mk, len_mk, fld_mk, gI_mk, gI0_mk, gZ_mk, gR_mk, isI_mk, isR_mk, tag_mk, lenE_mk, datR_mk, isOs, lenOs, fldS, lenS, gIs, gI0s, gZs, gRs, isIs, isRs, tagS, datRs, mkv, refV, fkS, isArr, tagOk, datI_mk, wrI_mk, wrA_mk, wrF_mk, wrJ_mk, List.length_cons, List.length_nil, List.getElem?_cons_zero, List.getElem?_cons_succ, List.getElem?_nil, ↓reduceIte, Nat.reduceAdd, Nat.reduceMul, Nat.reduceSub, Nat.reduceDiv, Nat.reduceMod, Nat.reduceLT, Nat.reduceLeDiff, Nat.reduceBEq, Nat.reduceEqDiff, Nat.zero_lt_succ, beq_self_eq_true, Bool.true_and, Bool.and_true, Bool.or_true, Bool.true_or, Bool.or_false, Bool.false_or, Bool.false_and, Bool.and_false, Bool.not_true, Bool.not_false, Bool.false_eq_true, Bool.true_eq_false, Bool.and_eq_true, Bool.or_eq_true, Bool.not_eq_true', decide_eq_true_eq, decide_eq_false_iff_not, decide_true, decide_false, and_self, true_and, and_true, or_true, true_or, or_false, false_or, and_false, false_and, or_self, reduceCtorEq, not_true_eq_false, not_false_eq_true, if_true, if_false, Int32.reduceAdd, Int32.reduceSub, Int32.reduceMul, Int32.reduceDiv, Int32.reduceMod, Int32.reduceLT, Int32.reduceLE, eqF1, eqF2, Int32.reduceOfNat, Int32.reduceOfInt, Int32.reduceToNatClampNeg, inb_lit, e_L_law_11, e_L_law_12, x10, e_L_law_15, e_L_law_16, e_L_law_17]
  exact h
  all_goals rfl
