/-! THE LAW: its loop, every call compared -/
theorem stepI_keep {own rk len pc : Nat} {ctor : Bool} {i : Instr} {L S : List Value} {M : Mem} {x : Nat × List Value × List Value × Mem} {n : Nat} {g : Nat → Int32} (h : stepI own rk ctor i len pc L S M = some (.inr (.inl x))) (h0 : M.1 0 = pI 9 n g) (h1 : 0 < M.2.1) : x.2.2.2.1 0 = pI 9 n g ∧ 0 < x.2.2.2.2.1 := by
  have w : ∀ (a : Nat) (c : PE), a ≠ 0 → (wr M a c).1 0 = pI 9 n g := fun a c ha => by
    show (if 0 = a then c else M.1 0) = _
    rw [if_neg (fun h => ha h.symm)]; exact h0
  have z1 : ∀ (a : Nat) (j : Int32), gI0 (rd M a) j = true → a ≠ 0 := fun a j h ha => by subst ha; simp [rd, h0, gI0, isIE, tagE] at h
  have z2 : ∀ (a : Nat) (j : Int32), gZ (rd M a) j = true → a ≠ 0 := fun a j h ha => by subst ha; simp [rd, h0, gZ, isIE, tagE] at h
  have z3 : ∀ (a : Nat) (j : Int32), gR (rd M a) j = true → a ≠ 0 := fun a j h ha => by subst ha; simp [rd, h0, gR, isRE] at h
  have z4 : ∀ (a : Nat) (j : Nat), isO (rd M a) j = true → a ≠ 0 := fun a j h ha => by subst ha; simp [rd, h0, isO] at h
  have z5 : ∀ (a : Nat), tagE (rd M a) = 0 → a ≠ 0 := fun a h ha => by subst ha; simp [rd, h0, tagE] at h
  cases i
  case newarray aty =>
    cases aty <;> simp only [stepI] at h <;> (repeat' (split at h)) <;> first
      | (cases h; done)
      | (cases h; exact ⟨h0, h1⟩)
      | (cases h; exact ⟨(if_neg (show ¬ (0 : Nat) = M.2.1 by omega)).trans h0, Nat.succ_pos _⟩)
  all_goals
    simp only [stepI, ld, st1, st2, jmp, copyS, callK, pcallS] at h
    (repeat' (split at h)) <;> first
      | (cases h; done)
      | (cases h; exact ⟨h0, h1⟩)
      | (cases h; exact ⟨(if_neg (show ¬ (0 : Nat) = M.2.1 by omega)).trans h0, Nat.succ_pos _⟩)
      | (rename_i hc; cases h; exact ⟨w _ _ (z1 _ _ hc.2), h1⟩)
      | (rename_i hc; cases h; exact ⟨w _ _ (z2 _ _ hc.2.1), h1⟩)
      | (rename_i hc; cases h; exact ⟨w _ _ (z3 _ _ hc.2.1), h1⟩)
      | (rename_i hc; cases h; exact ⟨w _ _ (z4 _ _ hc.2.1), h1⟩)
      | (rename_i hc; cases h; exact ⟨w _ _ (z5 _ hc.2.2.2.1), h1⟩)
theorem loop_keep {call : Nat → List Value → Mem → RV} {n : Nat} {g : Nat → Int32} (hc : ∀ m as M r, call m as M = some r → M.1 0 = pI 9 n g → 0 < M.2.1 → r.2.1 0 = pI 9 n g ∧ 0 < r.2.2.1) (m : Nat) : ∀ (f pc : Nat) (L S : List Value) (M : Mem) (r : Option Value × Mem), loopF call m f pc L S M = some r → M.1 0 = pI 9 n g → 0 < M.2.1 → r.2.1 0 = pI 9 n g ∧ 0 < r.2.2.1 := by
  intro f
  induction f with
  | zero => intro pc L S M r h; simp [loopF] at h
  | succ f ih =>
    intro pc L S M r h h0 h1
    rw [loopF] at h
    rcases hs : stp m pc L S M with _ | (x | (x | x))
    · rw [hs] at h; cases h
    · rw [hs] at h
      cases h
      unfold stp at hs
      split at hs
      · rw [stepI_inl hs]; exact ⟨h0, h1⟩
      · cases hs
    · rw [hs] at h
      unfold stp at hs
      split at hs
      · have k := stepI_keep hs h0 h1
        exact ih _ _ _ _ _ h k.1 k.2
      · cases hs
    · rw [hs] at h
      simp only at h
      rcases hk : call x.1 x.2.1 M with _ | q
      · rw [hk] at h; cases h
      · rw [hk] at h
        have k := hc _ _ _ _ hk h0 h1
        exact ih _ _ _ _ _ h k.1 k.2
theorem call_keep {n : Nat} {g : Nat → Int32} : ∀ (d f m : Nat) (as : List Value) (M : Mem) (r : Option Value × Mem), callF d f m as M = some r → M.1 0 = pI 9 n g → 0 < M.2.1 → r.2.1 0 = pI 9 n g ∧ 0 < r.2.2.1 := by
  intro d
  induction d with
  | zero => intro f m as M r h; simp [callF] at h
  | succ d ih =>
    intro f m as M r h
    rw [callF] at h
    split at h
    · cases h
    · exact loop_keep (fun m as M r h => ih f m as M r h) m f _ _ _ _ _ h
theorem stepI_rk {own rk len pc : Nat} {ctor : Bool} {i : Instr} {L S : List Value} {M : Mem} {x : Option Value × Mem} (h : stepI own rk ctor i len pc L S M = some (.inl x)) : (rk = 1 → ∃ y, x.1 = some (.int y)) ∧ (rk = 3 → ∃ y, x.1 = some (.long y)) := by
  cases i
  case newarray aty =>
    cases aty <;> simp only [stepI] at h <;> (repeat' (split at h)) <;> (cases h; done)
  all_goals
    simp only [stepI, ld, st1, st2, jmp, copyS, callK, pcallS] at h
    (repeat' (split at h)) <;> first
      | (cases h; done)
      | (rename_i hc; cases h; refine ⟨fun _ => ⟨_, rfl⟩, fun hr => ?_⟩; have h2 := hc.2; rw [hr] at h2; simp [retV] at h2)
      | (rename_i hc; cases h; exact ⟨fun hr => absurd (hr.symm.trans hc.2) (by decide), fun _ => ⟨_, rfl⟩⟩)
      | (rename_i hc; cases h; exact ⟨fun hr => absurd (hr.symm.trans hc.2.1) (by decide), fun hr => absurd (hr.symm.trans hc.2.1) (by decide)⟩)
      | (rename_i hc; cases h; exact ⟨fun hr => absurd (hr.symm.trans hc.2) (by decide), fun hr => absurd (hr.symm.trans hc.2) (by decide)⟩)
theorem loop_rk {call : Nat → List Value → Mem → RV} (m : Nat) : ∀ (f pc : Nat) (L S : List Value) (M : Mem) (r : Option Value × Mem), loopF call m f pc L S M = some r → (mK m = 1 → ∃ y, r.1 = some (.int y)) ∧ (mK m = 3 → ∃ y, r.1 = some (.long y)) := by
  intro f
  induction f with
  | zero => intro pc L S M r h; simp [loopF] at h
  | succ f ih =>
    intro pc L S M r h
    rw [loopF] at h
    rcases hs : stp m pc L S M with _ | (x | (x | x))
    · rw [hs] at h; cases h
    · rw [hs] at h
      cases h
      unfold stp at hs
      split at hs
      · exact stepI_rk hs
      · cases hs
    · rw [hs] at h
      exact ih _ _ _ _ _ h
    · rw [hs] at h
      simp only at h
      rcases hk : call x.1 x.2.1 M with _ | q
      · rw [hk] at h; cases h
      · rw [hk] at h
        exact ih _ _ _ _ _ h
section
variable {d N a b c k n m i : Nat} {I I1 : IT} {J J1 : JT} {as : List Value} {v : Value} {κ : Int32}
theorem C_rk {v : Option Value} {M M' : Mem} (h : C d m as M = some (v, M')) : (mK m = 1 → ∃ y, v = some (.int y)) ∧ (mK m = 3 → ∃ y, v = some (.long y)) := by
  obtain ⟨f, hf⟩ := C_iff.mp h
  cases d with
  | zero => simp [callF] at hf
  | succ d =>
    rw [callF] at hf
    split at hf
    · cases hf
    · exact loop_rk m f _ _ _ _ _ hf
theorem C_keep {v : Option Value} (h : C d m as (mk N I J) = some (v, mk N I1 J1)) : I1 0 = I 0 := by
  obtain ⟨f, hf⟩ := C_iff.mp h
  have k := (call_keep (n := N) (g := I 0) d f m as _ _ hf rfl (by show 0 < 94; omega)).1
  have k2 : (pI 9 N (I1 0) : PE) = pI 9 N (I 0) := k
  exact congrArg datI k2
theorem lz_sh0 : sh N 0 = .inl (9, N) := rfl
theorem lz_dat : datI (rd (mk N I J) 0) = I 0 := rfl
theorem cmp_self {w : Int64} : lg_cmp w w = 0 := by simp [lg_cmp]
theorem sc_in (hN : N ≤ 3072) (hi : i + 6 ≤ N) (hk : k < 6) : Int32.ofNat i + Int32.ofNat k = Int32.ofNat (i + k) ∧ inb (Int32.ofNat (i + k)) N = true ∧ (Int32.ofNat (i + k)).toNatClampNeg = i + k := ⟨by rw [add_oN], inb_ofNat (by omega) (by omega), nat_ofNat (by omega)⟩
def LC (N i : Nat) (I : IT) (J : JT) (pc : Nat) : Prop := ∃ I' J', R 20 iL_law pc [.ref 0, .ref 1, .ref 77, .int (Int32.ofNat i)] [] (mk N I J) = R 20 iL_law 1348 [.ref 0, .ref 1, .ref 77, .int (Int32.ofNat i)] [] (mk N I' J') ∧ Inv I' J' ∧ I' 0 = I 0
theorem lz_row (hI : Inv I J) (hN : N ≤ 3072) (hi : i + 6 ≤ N) : LC N i I J 212 := by
  obtain ⟨v, I1, J1, I2, J2, c1, c2, hI2, e0⟩ := (ag_row hI : Agr N I J iX9_row iX10_row [.int (I 0 (i + 1)), .int (I 0 (i + 2))])
  have e1 := C_keep c1
  obtain ⟨w, hw⟩ := (C_rk c1).1 (by decide +kernel)
  cases hw
  obtain ⟨a1, b1, d1⟩ := sc_in (k := 1) hN hi (by omega)
  rw [show Int32.ofNat 1 = 1 from rfl] at a1
  obtain ⟨a2, b2, d2⟩ := sc_in (k := 2) hN hi (by omega)
  rw [show Int32.ofNat 2 = 2 from rfl] at a2
  refine ⟨I2, J2, ?_, hI2, e0⟩
  simp only [K_some, K_void, K_none, wA_ref, wA_null, isNull_null, isNull_ref, c_int, c_long, c_ref, c_null, c_float, catS_nil, catS_cons, fit_int, fit_bool, fit_long, isO_mk, len_mk, fld_mk, gI_mk, gI0_mk, gZ_mk, gR_mk, isI_mk, isR_mk, tag_mk, lenE_mk, datR_mk, isOs, lenOs, fldS, lenS, gIs, gI0s, gZs, gRs, isIs, isRs, tagS, datRs, mkv, refV, fkS, isArr, tagOk, datI_mk, wrI_mk, wrA_mk, wrF_mk, wrJ_mk, List.length_cons, List.length_nil, List.getElem?_cons_zero, List.getElem?_cons_succ, List.getElem?_nil, ↓reduceIte, Nat.reduceAdd, Nat.reduceMul, Nat.reduceSub, Nat.reduceDiv, Nat.reduceMod, Nat.reduceLT, Nat.reduceLeDiff, Nat.reduceBEq, Nat.reduceEqDiff, Nat.zero_lt_succ, beq_self_eq_true, Bool.true_and, Bool.and_true, Bool.or_true, Bool.true_or, Bool.or_false, Bool.false_or, Bool.false_and, Bool.and_false, Bool.not_true, Bool.not_false, Bool.false_eq_true, Bool.true_eq_false, Bool.and_eq_true, Bool.or_eq_true, Bool.not_eq_true', decide_eq_true_eq, decide_eq_false_iff_not, decide_true, decide_false, and_self, true_and, and_true, or_true, true_or, or_false, false_or, and_false, false_and, or_self, reduceCtorEq, not_true_eq_false, not_false_eq_true, if_true, if_false, Int32.reduceAdd, Int32.reduceSub, Int32.reduceMul, Int32.reduceDiv, Int32.reduceMod, Int32.reduceLT, Int32.reduceLE, eqF1, eqF2, Int32.reduceOfNat, Int32.reduceOfInt, Int32.reduceToNatClampNeg, inb_lit, e_L_law_212, e_L_law_213, e_L_law_214, e_L_law_215, e_L_law_216, e_L_law_217, e_L_law_218, e_L_law_219, e_L_law_220, e_L_law_221, e_L_law_222, e_L_law_223, e_L_law_226, e_L_law_227, e_L_law_228, e_L_law_229, e_L_law_230, e_L_law_231, e_L_law_232, e_L_law_233, e_L_law_234, e_L_law_235, e_L_law_236, e_L_law_237, e_L_law_240, lz_sh0, lz_dat, sh_1, sh_77, sh_2, sh_3, sh_4, sh_7, sh_8, sh_9, sh_10, sh_11, sh_12, sh_13, sh_29, sh_35, sh_50, sh_53, sh_54, sh_55, sh_56, sh_78, sh_79, sh_80, sh_81, sh_82, sh_83, sh_84, sh_85, sh_86, sh_88, a1, b1, d1, a2, b2, d2, e1, c1, c2]
theorem lz_lay (hI : Inv I J) (hN : N ≤ 3072) (hi : i + 6 ≤ N) : LC N i I J 245 := by
  obtain ⟨v, I1, J1, I2, J2, c1, c2, hI2, e0⟩ := (ag_lay hI : Agr N I J iX9_lay iX10_lay [.int (I 0 (i + 1)), .int (I 0 (i + 2)), .int (I 0 (i + 3))])
  have e1 := C_keep c1
  obtain ⟨w, hw⟩ := (C_rk c1).1 (by decide +kernel)
  cases hw
  obtain ⟨a1, b1, d1⟩ := sc_in (k := 1) hN hi (by omega)
  rw [show Int32.ofNat 1 = 1 from rfl] at a1
  obtain ⟨a2, b2, d2⟩ := sc_in (k := 2) hN hi (by omega)
  rw [show Int32.ofNat 2 = 2 from rfl] at a2
  obtain ⟨a3, b3, d3⟩ := sc_in (k := 3) hN hi (by omega)
  rw [show Int32.ofNat 3 = 3 from rfl] at a3
  refine ⟨I2, J2, ?_, hI2, e0⟩
  simp only [K_some, K_void, K_none, wA_ref, wA_null, isNull_null, isNull_ref, c_int, c_long, c_ref, c_null, c_float, catS_nil, catS_cons, fit_int, fit_bool, fit_long, isO_mk, len_mk, fld_mk, gI_mk, gI0_mk, gZ_mk, gR_mk, isI_mk, isR_mk, tag_mk, lenE_mk, datR_mk, isOs, lenOs, fldS, lenS, gIs, gI0s, gZs, gRs, isIs, isRs, tagS, datRs, mkv, refV, fkS, isArr, tagOk, datI_mk, wrI_mk, wrA_mk, wrF_mk, wrJ_mk, List.length_cons, List.length_nil, List.getElem?_cons_zero, List.getElem?_cons_succ, List.getElem?_nil, ↓reduceIte, Nat.reduceAdd, Nat.reduceMul, Nat.reduceSub, Nat.reduceDiv, Nat.reduceMod, Nat.reduceLT, Nat.reduceLeDiff, Nat.reduceBEq, Nat.reduceEqDiff, Nat.zero_lt_succ, beq_self_eq_true, Bool.true_and, Bool.and_true, Bool.or_true, Bool.true_or, Bool.or_false, Bool.false_or, Bool.false_and, Bool.and_false, Bool.not_true, Bool.not_false, Bool.false_eq_true, Bool.true_eq_false, Bool.and_eq_true, Bool.or_eq_true, Bool.not_eq_true', decide_eq_true_eq, decide_eq_false_iff_not, decide_true, decide_false, and_self, true_and, and_true, or_true, true_or, or_false, false_or, and_false, false_and, or_self, reduceCtorEq, not_true_eq_false, not_false_eq_true, if_true, if_false, Int32.reduceAdd, Int32.reduceSub, Int32.reduceMul, Int32.reduceDiv, Int32.reduceMod, Int32.reduceLT, Int32.reduceLE, eqF1, eqF2, Int32.reduceOfNat, Int32.reduceOfInt, Int32.reduceToNatClampNeg, inb_lit, e_L_law_245, e_L_law_246, e_L_law_247, e_L_law_248, e_L_law_249, e_L_law_250, e_L_law_251, e_L_law_252, e_L_law_253, e_L_law_254, e_L_law_255, e_L_law_256, e_L_law_257, e_L_law_258, e_L_law_259, e_L_law_260, e_L_law_261, e_L_law_264, e_L_law_265, e_L_law_266, e_L_law_267, e_L_law_268, e_L_law_269, e_L_law_270, e_L_law_271, e_L_law_272, e_L_law_273, e_L_law_274, e_L_law_275, e_L_law_276, e_L_law_277, e_L_law_278, e_L_law_279, e_L_law_280, e_L_law_283, lz_sh0, lz_dat, sh_1, sh_77, sh_2, sh_3, sh_4, sh_7, sh_8, sh_9, sh_10, sh_11, sh_12, sh_13, sh_29, sh_35, sh_50, sh_53, sh_54, sh_55, sh_56, sh_78, sh_79, sh_80, sh_81, sh_82, sh_83, sh_84, sh_85, sh_86, sh_88, a1, b1, d1, a2, b2, d2, a3, b3, d3, e1, c1, c2]
theorem lz_at (hI : Inv I J) (hN : N ≤ 3072) (hi : i + 6 ≤ N) : LC N i I J 288 := by
  obtain ⟨v, I1, J1, I2, J2, c1, c2, hI2, e0⟩ := (ag_at hI : Agr N I J iX9_at iX10_at [.int (I 0 (i + 1)), .int (I 0 (i + 2))])
  have e1 := C_keep c1
  obtain ⟨w, hw⟩ := (C_rk c1).1 (by decide +kernel)
  cases hw
  obtain ⟨a1, b1, d1⟩ := sc_in (k := 1) hN hi (by omega)
  rw [show Int32.ofNat 1 = 1 from rfl] at a1
  obtain ⟨a2, b2, d2⟩ := sc_in (k := 2) hN hi (by omega)
  rw [show Int32.ofNat 2 = 2 from rfl] at a2
  refine ⟨I2, J2, ?_, hI2, e0⟩
  simp only [K_some, K_void, K_none, wA_ref, wA_null, isNull_null, isNull_ref, c_int, c_long, c_ref, c_null, c_float, catS_nil, catS_cons, fit_int, fit_bool, fit_long, isO_mk, len_mk, fld_mk, gI_mk, gI0_mk, gZ_mk, gR_mk, isI_mk, isR_mk, tag_mk, lenE_mk, datR_mk, isOs, lenOs, fldS, lenS, gIs, gI0s, gZs, gRs, isIs, isRs, tagS, datRs, mkv, refV, fkS, isArr, tagOk, datI_mk, wrI_mk, wrA_mk, wrF_mk, wrJ_mk, List.length_cons, List.length_nil, List.getElem?_cons_zero, List.getElem?_cons_succ, List.getElem?_nil, ↓reduceIte, Nat.reduceAdd, Nat.reduceMul, Nat.reduceSub, Nat.reduceDiv, Nat.reduceMod, Nat.reduceLT, Nat.reduceLeDiff, Nat.reduceBEq, Nat.reduceEqDiff, Nat.zero_lt_succ, beq_self_eq_true, Bool.true_and, Bool.and_true, Bool.or_true, Bool.true_or, Bool.or_false, Bool.false_or, Bool.false_and, Bool.and_false, Bool.not_true, Bool.not_false, Bool.false_eq_true, Bool.true_eq_false, Bool.and_eq_true, Bool.or_eq_true, Bool.not_eq_true', decide_eq_true_eq, decide_eq_false_iff_not, decide_true, decide_false, and_self, true_and, and_true, or_true, true_or, or_false, false_or, and_false, false_and, or_self, reduceCtorEq, not_true_eq_false, not_false_eq_true, if_true, if_false, Int32.reduceAdd, Int32.reduceSub, Int32.reduceMul, Int32.reduceDiv, Int32.reduceMod, Int32.reduceLT, Int32.reduceLE, eqF1, eqF2, Int32.reduceOfNat, Int32.reduceOfInt, Int32.reduceToNatClampNeg, inb_lit, e_L_law_288, e_L_law_289, e_L_law_290, e_L_law_291, e_L_law_292, e_L_law_293, e_L_law_294, e_L_law_295, e_L_law_296, e_L_law_297, e_L_law_298, e_L_law_299, e_L_law_302, e_L_law_303, e_L_law_304, e_L_law_305, e_L_law_306, e_L_law_307, e_L_law_308, e_L_law_309, e_L_law_310, e_L_law_311, e_L_law_312, e_L_law_313, e_L_law_316, lz_sh0, lz_dat, sh_1, sh_77, sh_2, sh_3, sh_4, sh_7, sh_8, sh_9, sh_10, sh_11, sh_12, sh_13, sh_29, sh_35, sh_50, sh_53, sh_54, sh_55, sh_56, sh_78, sh_79, sh_80, sh_81, sh_82, sh_83, sh_84, sh_85, sh_86, sh_88, a1, b1, d1, a2, b2, d2, e1, c1, c2]
theorem lz_tear (hI : Inv I J) (hN : N ≤ 3072) (hi : i + 6 ≤ N) : LC N i I J 321 := by
  obtain ⟨v, I1, J1, I2, J2, c1, c2, hI2, e0⟩ := (ag_tear hI : Agr N I J iX9_tear iX10_tear [.int (I 0 (i + 1))])
  have e1 := C_keep c1
  obtain ⟨w, hw⟩ := (C_rk c1).1 (by decide +kernel)
  cases hw
  obtain ⟨a1, b1, d1⟩ := sc_in (k := 1) hN hi (by omega)
  rw [show Int32.ofNat 1 = 1 from rfl] at a1
  refine ⟨I2, J2, ?_, hI2, e0⟩
  simp only [K_some, K_void, K_none, wA_ref, wA_null, isNull_null, isNull_ref, c_int, c_long, c_ref, c_null, c_float, catS_nil, catS_cons, fit_int, fit_bool, fit_long, isO_mk, len_mk, fld_mk, gI_mk, gI0_mk, gZ_mk, gR_mk, isI_mk, isR_mk, tag_mk, lenE_mk, datR_mk, isOs, lenOs, fldS, lenS, gIs, gI0s, gZs, gRs, isIs, isRs, tagS, datRs, mkv, refV, fkS, isArr, tagOk, datI_mk, wrI_mk, wrA_mk, wrF_mk, wrJ_mk, List.length_cons, List.length_nil, List.getElem?_cons_zero, List.getElem?_cons_succ, List.getElem?_nil, ↓reduceIte, Nat.reduceAdd, Nat.reduceMul, Nat.reduceSub, Nat.reduceDiv, Nat.reduceMod, Nat.reduceLT, Nat.reduceLeDiff, Nat.reduceBEq, Nat.reduceEqDiff, Nat.zero_lt_succ, beq_self_eq_true, Bool.true_and, Bool.and_true, Bool.or_true, Bool.true_or, Bool.or_false, Bool.false_or, Bool.false_and, Bool.and_false, Bool.not_true, Bool.not_false, Bool.false_eq_true, Bool.true_eq_false, Bool.and_eq_true, Bool.or_eq_true, Bool.not_eq_true', decide_eq_true_eq, decide_eq_false_iff_not, decide_true, decide_false, and_self, true_and, and_true, or_true, true_or, or_false, false_or, and_false, false_and, or_self, reduceCtorEq, not_true_eq_false, not_false_eq_true, if_true, if_false, Int32.reduceAdd, Int32.reduceSub, Int32.reduceMul, Int32.reduceDiv, Int32.reduceMod, Int32.reduceLT, Int32.reduceLE, eqF1, eqF2, Int32.reduceOfNat, Int32.reduceOfInt, Int32.reduceToNatClampNeg, inb_lit, e_L_law_321, e_L_law_322, e_L_law_323, e_L_law_324, e_L_law_325, e_L_law_326, e_L_law_327, e_L_law_330, e_L_law_331, e_L_law_332, e_L_law_333, e_L_law_334, e_L_law_335, e_L_law_336, e_L_law_339, lz_sh0, lz_dat, sh_1, sh_77, sh_2, sh_3, sh_4, sh_7, sh_8, sh_9, sh_10, sh_11, sh_12, sh_13, sh_29, sh_35, sh_50, sh_53, sh_54, sh_55, sh_56, sh_78, sh_79, sh_80, sh_81, sh_82, sh_83, sh_84, sh_85, sh_86, sh_88, a1, b1, d1, e1, c1, c2]
theorem lz_copy (hI : Inv I J) (hN : N ≤ 3072) (hi : i + 6 ≤ N) : LC N i I J 344 := by
  obtain ⟨v, I1, J1, I2, J2, c1, c2, hI2, e0⟩ := (ag_copy hI : Agr N I J iX9_copy iX10_copy [.int (I 0 (i + 1)), .int (I 0 (i + 2)), .int (I 0 (i + 3)), .int (I 0 (i + 4)), .int (I 0 (i + 5))])
  have e1 := C_keep c1
  obtain ⟨w, hw⟩ := (C_rk c1).1 (by decide +kernel)
  cases hw
  obtain ⟨a1, b1, d1⟩ := sc_in (k := 1) hN hi (by omega)
  rw [show Int32.ofNat 1 = 1 from rfl] at a1
  obtain ⟨a2, b2, d2⟩ := sc_in (k := 2) hN hi (by omega)
  rw [show Int32.ofNat 2 = 2 from rfl] at a2
  obtain ⟨a3, b3, d3⟩ := sc_in (k := 3) hN hi (by omega)
  rw [show Int32.ofNat 3 = 3 from rfl] at a3
  obtain ⟨a4, b4, d4⟩ := sc_in (k := 4) hN hi (by omega)
  rw [show Int32.ofNat 4 = 4 from rfl] at a4
  obtain ⟨a5, b5, d5⟩ := sc_in (k := 5) hN hi (by omega)
  rw [show Int32.ofNat 5 = 5 from rfl] at a5
  refine ⟨I2, J2, ?_, hI2, e0⟩
  simp only [K_some, K_void, K_none, wA_ref, wA_null, isNull_null, isNull_ref, c_int, c_long, c_ref, c_null, c_float, catS_nil, catS_cons, fit_int, fit_bool, fit_long, isO_mk, len_mk, fld_mk, gI_mk, gI0_mk, gZ_mk, gR_mk, isI_mk, isR_mk, tag_mk, lenE_mk, datR_mk, isOs, lenOs, fldS, lenS, gIs, gI0s, gZs, gRs, isIs, isRs, tagS, datRs, mkv, refV, fkS, isArr, tagOk, datI_mk, wrI_mk, wrA_mk, wrF_mk, wrJ_mk, List.length_cons, List.length_nil, List.getElem?_cons_zero, List.getElem?_cons_succ, List.getElem?_nil, ↓reduceIte, Nat.reduceAdd, Nat.reduceMul, Nat.reduceSub, Nat.reduceDiv, Nat.reduceMod, Nat.reduceLT, Nat.reduceLeDiff, Nat.reduceBEq, Nat.reduceEqDiff, Nat.zero_lt_succ, beq_self_eq_true, Bool.true_and, Bool.and_true, Bool.or_true, Bool.true_or, Bool.or_false, Bool.false_or, Bool.false_and, Bool.and_false, Bool.not_true, Bool.not_false, Bool.false_eq_true, Bool.true_eq_false, Bool.and_eq_true, Bool.or_eq_true, Bool.not_eq_true', decide_eq_true_eq, decide_eq_false_iff_not, decide_true, decide_false, and_self, true_and, and_true, or_true, true_or, or_false, false_or, and_false, false_and, or_self, reduceCtorEq, not_true_eq_false, not_false_eq_true, if_true, if_false, Int32.reduceAdd, Int32.reduceSub, Int32.reduceMul, Int32.reduceDiv, Int32.reduceMod, Int32.reduceLT, Int32.reduceLE, eqF1, eqF2, Int32.reduceOfNat, Int32.reduceOfInt, Int32.reduceToNatClampNeg, inb_lit, e_L_law_344, e_L_law_345, e_L_law_346, e_L_law_347, e_L_law_348, e_L_law_349, e_L_law_350, e_L_law_351, e_L_law_352, e_L_law_353, e_L_law_354, e_L_law_355, e_L_law_356, e_L_law_357, e_L_law_358, e_L_law_359, e_L_law_360, e_L_law_361, e_L_law_362, e_L_law_363, e_L_law_364, e_L_law_365, e_L_law_366, e_L_law_367, e_L_law_368, e_L_law_369, e_L_law_370, e_L_law_373, e_L_law_374, e_L_law_375, e_L_law_376, e_L_law_377, e_L_law_378, e_L_law_379, e_L_law_380, e_L_law_381, e_L_law_382, e_L_law_383, e_L_law_384, e_L_law_385, e_L_law_386, e_L_law_387, e_L_law_388, e_L_law_389, e_L_law_390, e_L_law_391, e_L_law_392, e_L_law_393, e_L_law_394, e_L_law_395, e_L_law_396, e_L_law_397, e_L_law_398, e_L_law_399, e_L_law_402, lz_sh0, lz_dat, sh_1, sh_77, sh_2, sh_3, sh_4, sh_7, sh_8, sh_9, sh_10, sh_11, sh_12, sh_13, sh_29, sh_35, sh_50, sh_53, sh_54, sh_55, sh_56, sh_78, sh_79, sh_80, sh_81, sh_82, sh_83, sh_84, sh_85, sh_86, sh_88, a1, b1, d1, a2, b2, d2, a3, b3, d3, a4, b4, d4, a5, b5, d5, e1, c1, c2]
theorem lz_mean (hI : Inv I J) (hN : N ≤ 3072) (hi : i + 6 ≤ N) : LC N i I J 407 := by
  obtain ⟨v, I1, J1, I2, J2, c1, c2, hI2, e0⟩ := (ag_mean hI : Agr N I J iX9_mean iX10_mean [.int (I 0 (i + 1))])
  have e1 := C_keep c1
  obtain ⟨w, hw⟩ := (C_rk c1).1 (by decide +kernel)
  cases hw
  obtain ⟨a1, b1, d1⟩ := sc_in (k := 1) hN hi (by omega)
  rw [show Int32.ofNat 1 = 1 from rfl] at a1
  refine ⟨I2, J2, ?_, hI2, e0⟩
  simp only [K_some, K_void, K_none, wA_ref, wA_null, isNull_null, isNull_ref, c_int, c_long, c_ref, c_null, c_float, catS_nil, catS_cons, fit_int, fit_bool, fit_long, isO_mk, len_mk, fld_mk, gI_mk, gI0_mk, gZ_mk, gR_mk, isI_mk, isR_mk, tag_mk, lenE_mk, datR_mk, isOs, lenOs, fldS, lenS, gIs, gI0s, gZs, gRs, isIs, isRs, tagS, datRs, mkv, refV, fkS, isArr, tagOk, datI_mk, wrI_mk, wrA_mk, wrF_mk, wrJ_mk, List.length_cons, List.length_nil, List.getElem?_cons_zero, List.getElem?_cons_succ, List.getElem?_nil, ↓reduceIte, Nat.reduceAdd, Nat.reduceMul, Nat.reduceSub, Nat.reduceDiv, Nat.reduceMod, Nat.reduceLT, Nat.reduceLeDiff, Nat.reduceBEq, Nat.reduceEqDiff, Nat.zero_lt_succ, beq_self_eq_true, Bool.true_and, Bool.and_true, Bool.or_true, Bool.true_or, Bool.or_false, Bool.false_or, Bool.false_and, Bool.and_false, Bool.not_true, Bool.not_false, Bool.false_eq_true, Bool.true_eq_false, Bool.and_eq_true, Bool.or_eq_true, Bool.not_eq_true', decide_eq_true_eq, decide_eq_false_iff_not, decide_true, decide_false, and_self, true_and, and_true, or_true, true_or, or_false, false_or, and_false, false_and, or_self, reduceCtorEq, not_true_eq_false, not_false_eq_true, if_true, if_false, Int32.reduceAdd, Int32.reduceSub, Int32.reduceMul, Int32.reduceDiv, Int32.reduceMod, Int32.reduceLT, Int32.reduceLE, eqF1, eqF2, Int32.reduceOfNat, Int32.reduceOfInt, Int32.reduceToNatClampNeg, inb_lit, e_L_law_407, e_L_law_408, e_L_law_409, e_L_law_410, e_L_law_411, e_L_law_412, e_L_law_413, e_L_law_416, e_L_law_417, e_L_law_418, e_L_law_419, e_L_law_420, e_L_law_421, e_L_law_422, e_L_law_425, lz_sh0, lz_dat, sh_1, sh_77, sh_2, sh_3, sh_4, sh_7, sh_8, sh_9, sh_10, sh_11, sh_12, sh_13, sh_29, sh_35, sh_50, sh_53, sh_54, sh_55, sh_56, sh_78, sh_79, sh_80, sh_81, sh_82, sh_83, sh_84, sh_85, sh_86, sh_88, a1, b1, d1, e1, c1, c2]
theorem lz_text (hI : Inv I J) (hN : N ≤ 3072) (hi : i + 6 ≤ N) : LC N i I J 430 := by
  obtain ⟨v, I1, J1, I2, J2, c1, c2, hI2, e0⟩ := (ag_text hI : Agr N I J iX9_text iX10_text [.int (I 0 (i + 1)), .int (I 0 (i + 2))])
  have e1 := C_keep c1
  obtain ⟨w, hw⟩ := (C_rk c1).1 (by decide +kernel)
  cases hw
  obtain ⟨a1, b1, d1⟩ := sc_in (k := 1) hN hi (by omega)
  rw [show Int32.ofNat 1 = 1 from rfl] at a1
  obtain ⟨a2, b2, d2⟩ := sc_in (k := 2) hN hi (by omega)
  rw [show Int32.ofNat 2 = 2 from rfl] at a2
  refine ⟨I2, J2, ?_, hI2, e0⟩
  simp only [K_some, K_void, K_none, wA_ref, wA_null, isNull_null, isNull_ref, c_int, c_long, c_ref, c_null, c_float, catS_nil, catS_cons, fit_int, fit_bool, fit_long, isO_mk, len_mk, fld_mk, gI_mk, gI0_mk, gZ_mk, gR_mk, isI_mk, isR_mk, tag_mk, lenE_mk, datR_mk, isOs, lenOs, fldS, lenS, gIs, gI0s, gZs, gRs, isIs, isRs, tagS, datRs, mkv, refV, fkS, isArr, tagOk, datI_mk, wrI_mk, wrA_mk, wrF_mk, wrJ_mk, List.length_cons, List.length_nil, List.getElem?_cons_zero, List.getElem?_cons_succ, List.getElem?_nil, ↓reduceIte, Nat.reduceAdd, Nat.reduceMul, Nat.reduceSub, Nat.reduceDiv, Nat.reduceMod, Nat.reduceLT, Nat.reduceLeDiff, Nat.reduceBEq, Nat.reduceEqDiff, Nat.zero_lt_succ, beq_self_eq_true, Bool.true_and, Bool.and_true, Bool.or_true, Bool.true_or, Bool.or_false, Bool.false_or, Bool.false_and, Bool.and_false, Bool.not_true, Bool.not_false, Bool.false_eq_true, Bool.true_eq_false, Bool.and_eq_true, Bool.or_eq_true, Bool.not_eq_true', decide_eq_true_eq, decide_eq_false_iff_not, decide_true, decide_false, and_self, true_and, and_true, or_true, true_or, or_false, false_or, and_false, false_and, or_self, reduceCtorEq, not_true_eq_false, not_false_eq_true, if_true, if_false, Int32.reduceAdd, Int32.reduceSub, Int32.reduceMul, Int32.reduceDiv, Int32.reduceMod, Int32.reduceLT, Int32.reduceLE, eqF1, eqF2, Int32.reduceOfNat, Int32.reduceOfInt, Int32.reduceToNatClampNeg, inb_lit, e_L_law_430, e_L_law_431, e_L_law_432, e_L_law_433, e_L_law_434, e_L_law_435, e_L_law_436, e_L_law_437, e_L_law_438, e_L_law_439, e_L_law_440, e_L_law_441, e_L_law_444, e_L_law_445, e_L_law_446, e_L_law_447, e_L_law_448, e_L_law_449, e_L_law_450, e_L_law_451, e_L_law_452, e_L_law_453, e_L_law_454, e_L_law_455, e_L_law_458, lz_sh0, lz_dat, sh_1, sh_77, sh_2, sh_3, sh_4, sh_7, sh_8, sh_9, sh_10, sh_11, sh_12, sh_13, sh_29, sh_35, sh_50, sh_53, sh_54, sh_55, sh_56, sh_78, sh_79, sh_80, sh_81, sh_82, sh_83, sh_84, sh_85, sh_86, sh_88, a1, b1, d1, a2, b2, d2, e1, c1, c2]
theorem lz_put (hI : Inv I J) (hN : N ≤ 3072) (hi : i + 6 ≤ N) : LC N i I J 463 := by
  obtain ⟨v, I1, J1, I2, J2, c1, c2, hI2, e0⟩ := (ag_put hI : Agr N I J iX9_put iX10_put [.int (I 0 (i + 1)), .int (I 0 (i + 2)), .int (I 0 (i + 3))])
  have e1 := C_keep c1
  obtain ⟨w, hw⟩ := (C_rk c1).1 (by decide +kernel)
  cases hw
  obtain ⟨a1, b1, d1⟩ := sc_in (k := 1) hN hi (by omega)
  rw [show Int32.ofNat 1 = 1 from rfl] at a1
  obtain ⟨a2, b2, d2⟩ := sc_in (k := 2) hN hi (by omega)
  rw [show Int32.ofNat 2 = 2 from rfl] at a2
  obtain ⟨a3, b3, d3⟩ := sc_in (k := 3) hN hi (by omega)
  rw [show Int32.ofNat 3 = 3 from rfl] at a3
  refine ⟨I2, J2, ?_, hI2, e0⟩
  simp only [K_some, K_void, K_none, wA_ref, wA_null, isNull_null, isNull_ref, c_int, c_long, c_ref, c_null, c_float, catS_nil, catS_cons, fit_int, fit_bool, fit_long, isO_mk, len_mk, fld_mk, gI_mk, gI0_mk, gZ_mk, gR_mk, isI_mk, isR_mk, tag_mk, lenE_mk, datR_mk, isOs, lenOs, fldS, lenS, gIs, gI0s, gZs, gRs, isIs, isRs, tagS, datRs, mkv, refV, fkS, isArr, tagOk, datI_mk, wrI_mk, wrA_mk, wrF_mk, wrJ_mk, List.length_cons, List.length_nil, List.getElem?_cons_zero, List.getElem?_cons_succ, List.getElem?_nil, ↓reduceIte, Nat.reduceAdd, Nat.reduceMul, Nat.reduceSub, Nat.reduceDiv, Nat.reduceMod, Nat.reduceLT, Nat.reduceLeDiff, Nat.reduceBEq, Nat.reduceEqDiff, Nat.zero_lt_succ, beq_self_eq_true, Bool.true_and, Bool.and_true, Bool.or_true, Bool.true_or, Bool.or_false, Bool.false_or, Bool.false_and, Bool.and_false, Bool.not_true, Bool.not_false, Bool.false_eq_true, Bool.true_eq_false, Bool.and_eq_true, Bool.or_eq_true, Bool.not_eq_true', decide_eq_true_eq, decide_eq_false_iff_not, decide_true, decide_false, and_self, true_and, and_true, or_true, true_or, or_false, false_or, and_false, false_and, or_self, reduceCtorEq, not_true_eq_false, not_false_eq_true, if_true, if_false, Int32.reduceAdd, Int32.reduceSub, Int32.reduceMul, Int32.reduceDiv, Int32.reduceMod, Int32.reduceLT, Int32.reduceLE, eqF1, eqF2, Int32.reduceOfNat, Int32.reduceOfInt, Int32.reduceToNatClampNeg, inb_lit, e_L_law_463, e_L_law_464, e_L_law_465, e_L_law_466, e_L_law_467, e_L_law_468, e_L_law_469, e_L_law_470, e_L_law_471, e_L_law_472, e_L_law_473, e_L_law_474, e_L_law_475, e_L_law_476, e_L_law_477, e_L_law_478, e_L_law_479, e_L_law_482, e_L_law_483, e_L_law_484, e_L_law_485, e_L_law_486, e_L_law_487, e_L_law_488, e_L_law_489, e_L_law_490, e_L_law_491, e_L_law_492, e_L_law_493, e_L_law_494, e_L_law_495, e_L_law_496, e_L_law_497, e_L_law_498, e_L_law_501, lz_sh0, lz_dat, sh_1, sh_77, sh_2, sh_3, sh_4, sh_7, sh_8, sh_9, sh_10, sh_11, sh_12, sh_13, sh_29, sh_35, sh_50, sh_53, sh_54, sh_55, sh_56, sh_78, sh_79, sh_80, sh_81, sh_82, sh_83, sh_84, sh_85, sh_86, sh_88, a1, b1, d1, a2, b2, d2, a3, b3, d3, e1, c1, c2]
theorem lz_fault (hI : Inv I J) (hN : N ≤ 3072) (hi : i + 6 ≤ N) : LC N i I J 506 := by
  obtain ⟨v, I1, J1, I2, J2, c1, c2, hI2, e0⟩ := (ag_fault hI : Agr N I J iX9_fault iX10_fault [.int (I 0 (i + 1))])
  have e1 := C_keep c1
  obtain ⟨w, hw⟩ := (C_rk c1).1 (by decide +kernel)
  cases hw
  obtain ⟨a1, b1, d1⟩ := sc_in (k := 1) hN hi (by omega)
  rw [show Int32.ofNat 1 = 1 from rfl] at a1
  refine ⟨I2, J2, ?_, hI2, e0⟩
  simp only [K_some, K_void, K_none, wA_ref, wA_null, isNull_null, isNull_ref, c_int, c_long, c_ref, c_null, c_float, catS_nil, catS_cons, fit_int, fit_bool, fit_long, isO_mk, len_mk, fld_mk, gI_mk, gI0_mk, gZ_mk, gR_mk, isI_mk, isR_mk, tag_mk, lenE_mk, datR_mk, isOs, lenOs, fldS, lenS, gIs, gI0s, gZs, gRs, isIs, isRs, tagS, datRs, mkv, refV, fkS, isArr, tagOk, datI_mk, wrI_mk, wrA_mk, wrF_mk, wrJ_mk, List.length_cons, List.length_nil, List.getElem?_cons_zero, List.getElem?_cons_succ, List.getElem?_nil, ↓reduceIte, Nat.reduceAdd, Nat.reduceMul, Nat.reduceSub, Nat.reduceDiv, Nat.reduceMod, Nat.reduceLT, Nat.reduceLeDiff, Nat.reduceBEq, Nat.reduceEqDiff, Nat.zero_lt_succ, beq_self_eq_true, Bool.true_and, Bool.and_true, Bool.or_true, Bool.true_or, Bool.or_false, Bool.false_or, Bool.false_and, Bool.and_false, Bool.not_true, Bool.not_false, Bool.false_eq_true, Bool.true_eq_false, Bool.and_eq_true, Bool.or_eq_true, Bool.not_eq_true', decide_eq_true_eq, decide_eq_false_iff_not, decide_true, decide_false, and_self, true_and, and_true, or_true, true_or, or_false, false_or, and_false, false_and, or_self, reduceCtorEq, not_true_eq_false, not_false_eq_true, if_true, if_false, Int32.reduceAdd, Int32.reduceSub, Int32.reduceMul, Int32.reduceDiv, Int32.reduceMod, Int32.reduceLT, Int32.reduceLE, eqF1, eqF2, Int32.reduceOfNat, Int32.reduceOfInt, Int32.reduceToNatClampNeg, inb_lit, e_L_law_506, e_L_law_507, e_L_law_508, e_L_law_509, e_L_law_510, e_L_law_511, e_L_law_512, e_L_law_515, e_L_law_516, e_L_law_517, e_L_law_518, e_L_law_519, e_L_law_520, e_L_law_521, e_L_law_524, lz_sh0, lz_dat, sh_1, sh_77, sh_2, sh_3, sh_4, sh_7, sh_8, sh_9, sh_10, sh_11, sh_12, sh_13, sh_29, sh_35, sh_50, sh_53, sh_54, sh_55, sh_56, sh_78, sh_79, sh_80, sh_81, sh_82, sh_83, sh_84, sh_85, sh_86, sh_88, a1, b1, d1, e1, c1, c2]
theorem lz_farm (hI : Inv I J) (hN : N ≤ 3072) (hi : i + 6 ≤ N) : LC N i I J 529 := by
  obtain ⟨v, I1, J1, I2, J2, c1, c2, hI2, e0⟩ := (ag_farm hI : Agr N I J iX9_farm iX10_farm [.int (I 0 (i + 1))])
  have e1 := C_keep c1
  obtain ⟨w, hw⟩ := (C_rk c1).1 (by decide +kernel)
  cases hw
  obtain ⟨a1, b1, d1⟩ := sc_in (k := 1) hN hi (by omega)
  rw [show Int32.ofNat 1 = 1 from rfl] at a1
  refine ⟨I2, J2, ?_, hI2, e0⟩
  simp only [K_some, K_void, K_none, wA_ref, wA_null, isNull_null, isNull_ref, c_int, c_long, c_ref, c_null, c_float, catS_nil, catS_cons, fit_int, fit_bool, fit_long, isO_mk, len_mk, fld_mk, gI_mk, gI0_mk, gZ_mk, gR_mk, isI_mk, isR_mk, tag_mk, lenE_mk, datR_mk, isOs, lenOs, fldS, lenS, gIs, gI0s, gZs, gRs, isIs, isRs, tagS, datRs, mkv, refV, fkS, isArr, tagOk, datI_mk, wrI_mk, wrA_mk, wrF_mk, wrJ_mk, List.length_cons, List.length_nil, List.getElem?_cons_zero, List.getElem?_cons_succ, List.getElem?_nil, ↓reduceIte, Nat.reduceAdd, Nat.reduceMul, Nat.reduceSub, Nat.reduceDiv, Nat.reduceMod, Nat.reduceLT, Nat.reduceLeDiff, Nat.reduceBEq, Nat.reduceEqDiff, Nat.zero_lt_succ, beq_self_eq_true, Bool.true_and, Bool.and_true, Bool.or_true, Bool.true_or, Bool.or_false, Bool.false_or, Bool.false_and, Bool.and_false, Bool.not_true, Bool.not_false, Bool.false_eq_true, Bool.true_eq_false, Bool.and_eq_true, Bool.or_eq_true, Bool.not_eq_true', decide_eq_true_eq, decide_eq_false_iff_not, decide_true, decide_false, and_self, true_and, and_true, or_true, true_or, or_false, false_or, and_false, false_and, or_self, reduceCtorEq, not_true_eq_false, not_false_eq_true, if_true, if_false, Int32.reduceAdd, Int32.reduceSub, Int32.reduceMul, Int32.reduceDiv, Int32.reduceMod, Int32.reduceLT, Int32.reduceLE, eqF1, eqF2, Int32.reduceOfNat, Int32.reduceOfInt, Int32.reduceToNatClampNeg, inb_lit, e_L_law_529, e_L_law_530, e_L_law_531, e_L_law_532, e_L_law_533, e_L_law_534, e_L_law_535, e_L_law_538, e_L_law_539, e_L_law_540, e_L_law_541, e_L_law_542, e_L_law_543, e_L_law_544, e_L_law_547, lz_sh0, lz_dat, sh_1, sh_77, sh_2, sh_3, sh_4, sh_7, sh_8, sh_9, sh_10, sh_11, sh_12, sh_13, sh_29, sh_35, sh_50, sh_53, sh_54, sh_55, sh_56, sh_78, sh_79, sh_80, sh_81, sh_82, sh_83, sh_84, sh_85, sh_86, sh_88, a1, b1, d1, e1, c1, c2]
theorem lz_wheel (hI : Inv I J) (hN : N ≤ 3072) (hi : i + 6 ≤ N) : LC N i I J 552 := by
  obtain ⟨v, I1, J1, I2, J2, c1, c2, hI2, e0⟩ := (ag_wheel hI : Agr N I J iX9_wheel iX10_wheel [.int (I 0 (i + 1)), .int (I 0 (i + 2))])
  have e1 := C_keep c1
  obtain ⟨w, hw⟩ := (C_rk c1).1 (by decide +kernel)
  cases hw
  obtain ⟨a1, b1, d1⟩ := sc_in (k := 1) hN hi (by omega)
  rw [show Int32.ofNat 1 = 1 from rfl] at a1
  obtain ⟨a2, b2, d2⟩ := sc_in (k := 2) hN hi (by omega)
  rw [show Int32.ofNat 2 = 2 from rfl] at a2
  refine ⟨I2, J2, ?_, hI2, e0⟩
  simp only [K_some, K_void, K_none, wA_ref, wA_null, isNull_null, isNull_ref, c_int, c_long, c_ref, c_null, c_float, catS_nil, catS_cons, fit_int, fit_bool, fit_long, isO_mk, len_mk, fld_mk, gI_mk, gI0_mk, gZ_mk, gR_mk, isI_mk, isR_mk, tag_mk, lenE_mk, datR_mk, isOs, lenOs, fldS, lenS, gIs, gI0s, gZs, gRs, isIs, isRs, tagS, datRs, mkv, refV, fkS, isArr, tagOk, datI_mk, wrI_mk, wrA_mk, wrF_mk, wrJ_mk, List.length_cons, List.length_nil, List.getElem?_cons_zero, List.getElem?_cons_succ, List.getElem?_nil, ↓reduceIte, Nat.reduceAdd, Nat.reduceMul, Nat.reduceSub, Nat.reduceDiv, Nat.reduceMod, Nat.reduceLT, Nat.reduceLeDiff, Nat.reduceBEq, Nat.reduceEqDiff, Nat.zero_lt_succ, beq_self_eq_true, Bool.true_and, Bool.and_true, Bool.or_true, Bool.true_or, Bool.or_false, Bool.false_or, Bool.false_and, Bool.and_false, Bool.not_true, Bool.not_false, Bool.false_eq_true, Bool.true_eq_false, Bool.and_eq_true, Bool.or_eq_true, Bool.not_eq_true', decide_eq_true_eq, decide_eq_false_iff_not, decide_true, decide_false, and_self, true_and, and_true, or_true, true_or, or_false, false_or, and_false, false_and, or_self, reduceCtorEq, not_true_eq_false, not_false_eq_true, if_true, if_false, Int32.reduceAdd, Int32.reduceSub, Int32.reduceMul, Int32.reduceDiv, Int32.reduceMod, Int32.reduceLT, Int32.reduceLE, eqF1, eqF2, Int32.reduceOfNat, Int32.reduceOfInt, Int32.reduceToNatClampNeg, inb_lit, e_L_law_552, e_L_law_553, e_L_law_554, e_L_law_555, e_L_law_556, e_L_law_557, e_L_law_558, e_L_law_559, e_L_law_560, e_L_law_561, e_L_law_562, e_L_law_563, e_L_law_566, e_L_law_567, e_L_law_568, e_L_law_569, e_L_law_570, e_L_law_571, e_L_law_572, e_L_law_573, e_L_law_574, e_L_law_575, e_L_law_576, e_L_law_577, e_L_law_580, lz_sh0, lz_dat, sh_1, sh_77, sh_2, sh_3, sh_4, sh_7, sh_8, sh_9, sh_10, sh_11, sh_12, sh_13, sh_29, sh_35, sh_50, sh_53, sh_54, sh_55, sh_56, sh_78, sh_79, sh_80, sh_81, sh_82, sh_83, sh_84, sh_85, sh_86, sh_88, a1, b1, d1, a2, b2, d2, e1, c1, c2]
theorem lz_mark (hI : Inv I J) (hN : N ≤ 3072) (hi : i + 6 ≤ N) : LC N i I J 585 := by
  obtain ⟨v, I1, J1, I2, J2, c1, c2, hI2, e0⟩ := (ag_mark hI : Agr N I J iX9_mark iX10_mark [.int (I 0 (i + 1)), .int (I 0 (i + 2))])
  have e1 := C_keep c1
  obtain ⟨w, hw⟩ := (C_rk c1).1 (by decide +kernel)
  cases hw
  obtain ⟨a1, b1, d1⟩ := sc_in (k := 1) hN hi (by omega)
  rw [show Int32.ofNat 1 = 1 from rfl] at a1
  obtain ⟨a2, b2, d2⟩ := sc_in (k := 2) hN hi (by omega)
  rw [show Int32.ofNat 2 = 2 from rfl] at a2
  refine ⟨I2, J2, ?_, hI2, e0⟩
  simp only [K_some, K_void, K_none, wA_ref, wA_null, isNull_null, isNull_ref, c_int, c_long, c_ref, c_null, c_float, catS_nil, catS_cons, fit_int, fit_bool, fit_long, isO_mk, len_mk, fld_mk, gI_mk, gI0_mk, gZ_mk, gR_mk, isI_mk, isR_mk, tag_mk, lenE_mk, datR_mk, isOs, lenOs, fldS, lenS, gIs, gI0s, gZs, gRs, isIs, isRs, tagS, datRs, mkv, refV, fkS, isArr, tagOk, datI_mk, wrI_mk, wrA_mk, wrF_mk, wrJ_mk, List.length_cons, List.length_nil, List.getElem?_cons_zero, List.getElem?_cons_succ, List.getElem?_nil, ↓reduceIte, Nat.reduceAdd, Nat.reduceMul, Nat.reduceSub, Nat.reduceDiv, Nat.reduceMod, Nat.reduceLT, Nat.reduceLeDiff, Nat.reduceBEq, Nat.reduceEqDiff, Nat.zero_lt_succ, beq_self_eq_true, Bool.true_and, Bool.and_true, Bool.or_true, Bool.true_or, Bool.or_false, Bool.false_or, Bool.false_and, Bool.and_false, Bool.not_true, Bool.not_false, Bool.false_eq_true, Bool.true_eq_false, Bool.and_eq_true, Bool.or_eq_true, Bool.not_eq_true', decide_eq_true_eq, decide_eq_false_iff_not, decide_true, decide_false, and_self, true_and, and_true, or_true, true_or, or_false, false_or, and_false, false_and, or_self, reduceCtorEq, not_true_eq_false, not_false_eq_true, if_true, if_false, Int32.reduceAdd, Int32.reduceSub, Int32.reduceMul, Int32.reduceDiv, Int32.reduceMod, Int32.reduceLT, Int32.reduceLE, eqF1, eqF2, Int32.reduceOfNat, Int32.reduceOfInt, Int32.reduceToNatClampNeg, inb_lit, e_L_law_585, e_L_law_586, e_L_law_587, e_L_law_588, e_L_law_589, e_L_law_590, e_L_law_591, e_L_law_592, e_L_law_593, e_L_law_594, e_L_law_595, e_L_law_596, e_L_law_599, e_L_law_600, e_L_law_601, e_L_law_602, e_L_law_603, e_L_law_604, e_L_law_605, e_L_law_606, e_L_law_607, e_L_law_608, e_L_law_609, e_L_law_610, e_L_law_613, lz_sh0, lz_dat, sh_1, sh_77, sh_2, sh_3, sh_4, sh_7, sh_8, sh_9, sh_10, sh_11, sh_12, sh_13, sh_29, sh_35, sh_50, sh_53, sh_54, sh_55, sh_56, sh_78, sh_79, sh_80, sh_81, sh_82, sh_83, sh_84, sh_85, sh_86, sh_88, a1, b1, d1, a2, b2, d2, e1, c1, c2]
theorem lz_holds (hI : Inv I J) (hN : N ≤ 3072) (hi : i + 6 ≤ N) : LC N i I J 618 := by
  obtain ⟨v, I1, J1, I2, J2, c1, c2, hI2, e0⟩ := (ag_holds hI : Agr N I J iX9_holds iX10_holds [.int (I 0 (i + 1)), .int (I 0 (i + 2))])
  have e1 := C_keep c1
  obtain ⟨w, hw⟩ := (C_rk c1).1 (by decide +kernel)
  cases hw
  obtain ⟨a1, b1, d1⟩ := sc_in (k := 1) hN hi (by omega)
  rw [show Int32.ofNat 1 = 1 from rfl] at a1
  obtain ⟨a2, b2, d2⟩ := sc_in (k := 2) hN hi (by omega)
  rw [show Int32.ofNat 2 = 2 from rfl] at a2
  refine ⟨I2, J2, ?_, hI2, e0⟩
  simp only [K_some, K_void, K_none, wA_ref, wA_null, isNull_null, isNull_ref, c_int, c_long, c_ref, c_null, c_float, catS_nil, catS_cons, fit_int, fit_bool, fit_long, isO_mk, len_mk, fld_mk, gI_mk, gI0_mk, gZ_mk, gR_mk, isI_mk, isR_mk, tag_mk, lenE_mk, datR_mk, isOs, lenOs, fldS, lenS, gIs, gI0s, gZs, gRs, isIs, isRs, tagS, datRs, mkv, refV, fkS, isArr, tagOk, datI_mk, wrI_mk, wrA_mk, wrF_mk, wrJ_mk, List.length_cons, List.length_nil, List.getElem?_cons_zero, List.getElem?_cons_succ, List.getElem?_nil, ↓reduceIte, Nat.reduceAdd, Nat.reduceMul, Nat.reduceSub, Nat.reduceDiv, Nat.reduceMod, Nat.reduceLT, Nat.reduceLeDiff, Nat.reduceBEq, Nat.reduceEqDiff, Nat.zero_lt_succ, beq_self_eq_true, Bool.true_and, Bool.and_true, Bool.or_true, Bool.true_or, Bool.or_false, Bool.false_or, Bool.false_and, Bool.and_false, Bool.not_true, Bool.not_false, Bool.false_eq_true, Bool.true_eq_false, Bool.and_eq_true, Bool.or_eq_true, Bool.not_eq_true', decide_eq_true_eq, decide_eq_false_iff_not, decide_true, decide_false, and_self, true_and, and_true, or_true, true_or, or_false, false_or, and_false, false_and, or_self, reduceCtorEq, not_true_eq_false, not_false_eq_true, if_true, if_false, Int32.reduceAdd, Int32.reduceSub, Int32.reduceMul, Int32.reduceDiv, Int32.reduceMod, Int32.reduceLT, Int32.reduceLE, eqF1, eqF2, Int32.reduceOfNat, Int32.reduceOfInt, Int32.reduceToNatClampNeg, inb_lit, e_L_law_618, e_L_law_619, e_L_law_620, e_L_law_621, e_L_law_622, e_L_law_623, e_L_law_624, e_L_law_625, e_L_law_626, e_L_law_627, e_L_law_628, e_L_law_629, e_L_law_632, e_L_law_633, e_L_law_634, e_L_law_635, e_L_law_636, e_L_law_637, e_L_law_638, e_L_law_639, e_L_law_640, e_L_law_641, e_L_law_642, e_L_law_643, e_L_law_646, lz_sh0, lz_dat, sh_1, sh_77, sh_2, sh_3, sh_4, sh_7, sh_8, sh_9, sh_10, sh_11, sh_12, sh_13, sh_29, sh_35, sh_50, sh_53, sh_54, sh_55, sh_56, sh_78, sh_79, sh_80, sh_81, sh_82, sh_83, sh_84, sh_85, sh_86, sh_88, a1, b1, d1, a2, b2, d2, e1, c1, c2]
theorem lz_anger (hI : Inv I J) (hN : N ≤ 3072) (hi : i + 6 ≤ N) : LC N i I J 651 := by
  obtain ⟨v, I1, J1, I2, J2, c1, c2, hI2, e0⟩ := (ag_anger hI : Agr N I J iX9_anger iX10_anger [.int (I 0 (i + 1))])
  have e1 := C_keep c1
  obtain ⟨w, hw⟩ := (C_rk c1).1 (by decide +kernel)
  cases hw
  obtain ⟨a1, b1, d1⟩ := sc_in (k := 1) hN hi (by omega)
  rw [show Int32.ofNat 1 = 1 from rfl] at a1
  refine ⟨I2, J2, ?_, hI2, e0⟩
  simp only [K_some, K_void, K_none, wA_ref, wA_null, isNull_null, isNull_ref, c_int, c_long, c_ref, c_null, c_float, catS_nil, catS_cons, fit_int, fit_bool, fit_long, isO_mk, len_mk, fld_mk, gI_mk, gI0_mk, gZ_mk, gR_mk, isI_mk, isR_mk, tag_mk, lenE_mk, datR_mk, isOs, lenOs, fldS, lenS, gIs, gI0s, gZs, gRs, isIs, isRs, tagS, datRs, mkv, refV, fkS, isArr, tagOk, datI_mk, wrI_mk, wrA_mk, wrF_mk, wrJ_mk, List.length_cons, List.length_nil, List.getElem?_cons_zero, List.getElem?_cons_succ, List.getElem?_nil, ↓reduceIte, Nat.reduceAdd, Nat.reduceMul, Nat.reduceSub, Nat.reduceDiv, Nat.reduceMod, Nat.reduceLT, Nat.reduceLeDiff, Nat.reduceBEq, Nat.reduceEqDiff, Nat.zero_lt_succ, beq_self_eq_true, Bool.true_and, Bool.and_true, Bool.or_true, Bool.true_or, Bool.or_false, Bool.false_or, Bool.false_and, Bool.and_false, Bool.not_true, Bool.not_false, Bool.false_eq_true, Bool.true_eq_false, Bool.and_eq_true, Bool.or_eq_true, Bool.not_eq_true', decide_eq_true_eq, decide_eq_false_iff_not, decide_true, decide_false, and_self, true_and, and_true, or_true, true_or, or_false, false_or, and_false, false_and, or_self, reduceCtorEq, not_true_eq_false, not_false_eq_true, if_true, if_false, Int32.reduceAdd, Int32.reduceSub, Int32.reduceMul, Int32.reduceDiv, Int32.reduceMod, Int32.reduceLT, Int32.reduceLE, eqF1, eqF2, Int32.reduceOfNat, Int32.reduceOfInt, Int32.reduceToNatClampNeg, inb_lit, e_L_law_651, e_L_law_652, e_L_law_653, e_L_law_654, e_L_law_655, e_L_law_656, e_L_law_657, e_L_law_660, e_L_law_661, e_L_law_662, e_L_law_663, e_L_law_664, e_L_law_665, e_L_law_666, e_L_law_669, lz_sh0, lz_dat, sh_1, sh_77, sh_2, sh_3, sh_4, sh_7, sh_8, sh_9, sh_10, sh_11, sh_12, sh_13, sh_29, sh_35, sh_50, sh_53, sh_54, sh_55, sh_56, sh_78, sh_79, sh_80, sh_81, sh_82, sh_83, sh_84, sh_85, sh_86, sh_88, a1, b1, d1, e1, c1, c2]
theorem lz_day (hI : Inv I J) (hN : N ≤ 3072) (hi : i + 6 ≤ N) : LC N i I J 674 := by
  obtain ⟨v, I1, J1, I2, J2, c1, c2, hI2, e0⟩ := (ag_day hI : Agr N I J iX9_day iX10_day [])
  have e1 := C_keep c1
  obtain ⟨w, hw⟩ := (C_rk c1).1 (by decide +kernel)
  cases hw
  refine ⟨I2, J2, ?_, hI2, e0⟩
  simp only [K_some, K_void, K_none, wA_ref, wA_null, isNull_null, isNull_ref, c_int, c_long, c_ref, c_null, c_float, catS_nil, catS_cons, fit_int, fit_bool, fit_long, isO_mk, len_mk, fld_mk, gI_mk, gI0_mk, gZ_mk, gR_mk, isI_mk, isR_mk, tag_mk, lenE_mk, datR_mk, isOs, lenOs, fldS, lenS, gIs, gI0s, gZs, gRs, isIs, isRs, tagS, datRs, mkv, refV, fkS, isArr, tagOk, datI_mk, wrI_mk, wrA_mk, wrF_mk, wrJ_mk, List.length_cons, List.length_nil, List.getElem?_cons_zero, List.getElem?_cons_succ, List.getElem?_nil, ↓reduceIte, Nat.reduceAdd, Nat.reduceMul, Nat.reduceSub, Nat.reduceDiv, Nat.reduceMod, Nat.reduceLT, Nat.reduceLeDiff, Nat.reduceBEq, Nat.reduceEqDiff, Nat.zero_lt_succ, beq_self_eq_true, Bool.true_and, Bool.and_true, Bool.or_true, Bool.true_or, Bool.or_false, Bool.false_or, Bool.false_and, Bool.and_false, Bool.not_true, Bool.not_false, Bool.false_eq_true, Bool.true_eq_false, Bool.and_eq_true, Bool.or_eq_true, Bool.not_eq_true', decide_eq_true_eq, decide_eq_false_iff_not, decide_true, decide_false, and_self, true_and, and_true, or_true, true_or, or_false, false_or, and_false, false_and, or_self, reduceCtorEq, not_true_eq_false, not_false_eq_true, if_true, if_false, Int32.reduceAdd, Int32.reduceSub, Int32.reduceMul, Int32.reduceDiv, Int32.reduceMod, Int32.reduceLT, Int32.reduceLE, eqF1, eqF2, Int32.reduceOfNat, Int32.reduceOfInt, Int32.reduceToNatClampNeg, inb_lit, e_L_law_674, e_L_law_675, e_L_law_678, e_L_law_679, e_L_law_682, lz_sh0, lz_dat, sh_1, sh_77, sh_2, sh_3, sh_4, sh_7, sh_8, sh_9, sh_10, sh_11, sh_12, sh_13, sh_29, sh_35, sh_50, sh_53, sh_54, sh_55, sh_56, sh_78, sh_79, sh_80, sh_81, sh_82, sh_83, sh_84, sh_85, sh_86, sh_88, e1, c1, c2]
theorem lz_say (hI : Inv I J) (hN : N ≤ 3072) (hi : i + 6 ≤ N) : LC N i I J 687 := by
  obtain ⟨v, I1, J1, I2, J2, c1, c2, hI2, e0⟩ := (ag_say hI : Agr N I J iX9_say iX10_say [.int (I 0 (i + 1))])
  have e1 := C_keep c1
  obtain ⟨w, hw⟩ := (C_rk c1).1 (by decide +kernel)
  cases hw
  obtain ⟨a1, b1, d1⟩ := sc_in (k := 1) hN hi (by omega)
  rw [show Int32.ofNat 1 = 1 from rfl] at a1
  refine ⟨I2, J2, ?_, hI2, e0⟩
  simp only [K_some, K_void, K_none, wA_ref, wA_null, isNull_null, isNull_ref, c_int, c_long, c_ref, c_null, c_float, catS_nil, catS_cons, fit_int, fit_bool, fit_long, isO_mk, len_mk, fld_mk, gI_mk, gI0_mk, gZ_mk, gR_mk, isI_mk, isR_mk, tag_mk, lenE_mk, datR_mk, isOs, lenOs, fldS, lenS, gIs, gI0s, gZs, gRs, isIs, isRs, tagS, datRs, mkv, refV, fkS, isArr, tagOk, datI_mk, wrI_mk, wrA_mk, wrF_mk, wrJ_mk, List.length_cons, List.length_nil, List.getElem?_cons_zero, List.getElem?_cons_succ, List.getElem?_nil, ↓reduceIte, Nat.reduceAdd, Nat.reduceMul, Nat.reduceSub, Nat.reduceDiv, Nat.reduceMod, Nat.reduceLT, Nat.reduceLeDiff, Nat.reduceBEq, Nat.reduceEqDiff, Nat.zero_lt_succ, beq_self_eq_true, Bool.true_and, Bool.and_true, Bool.or_true, Bool.true_or, Bool.or_false, Bool.false_or, Bool.false_and, Bool.and_false, Bool.not_true, Bool.not_false, Bool.false_eq_true, Bool.true_eq_false, Bool.and_eq_true, Bool.or_eq_true, Bool.not_eq_true', decide_eq_true_eq, decide_eq_false_iff_not, decide_true, decide_false, and_self, true_and, and_true, or_true, true_or, or_false, false_or, and_false, false_and, or_self, reduceCtorEq, not_true_eq_false, not_false_eq_true, if_true, if_false, Int32.reduceAdd, Int32.reduceSub, Int32.reduceMul, Int32.reduceDiv, Int32.reduceMod, Int32.reduceLT, Int32.reduceLE, eqF1, eqF2, Int32.reduceOfNat, Int32.reduceOfInt, Int32.reduceToNatClampNeg, inb_lit, e_L_law_687, e_L_law_688, e_L_law_689, e_L_law_690, e_L_law_691, e_L_law_692, e_L_law_693, e_L_law_696, e_L_law_697, e_L_law_698, e_L_law_699, e_L_law_700, e_L_law_701, e_L_law_702, e_L_law_705, lz_sh0, lz_dat, sh_1, sh_77, sh_2, sh_3, sh_4, sh_7, sh_8, sh_9, sh_10, sh_11, sh_12, sh_13, sh_29, sh_35, sh_50, sh_53, sh_54, sh_55, sh_56, sh_78, sh_79, sh_80, sh_81, sh_82, sh_83, sh_84, sh_85, sh_86, sh_88, a1, b1, d1, e1, c1, c2]
theorem lz_make (hI : Inv I J) (hN : N ≤ 3072) (hi : i + 6 ≤ N) : LC N i I J 710 := by
  obtain ⟨v, I1, J1, I2, J2, c1, c2, hI2, e0⟩ := (ag_make hI : Agr N I J iX9_make iX10_make [.int (I 0 (i + 1))])
  have e1 := C_keep c1
  obtain ⟨w, hw⟩ := (C_rk c1).1 (by decide +kernel)
  cases hw
  obtain ⟨a1, b1, d1⟩ := sc_in (k := 1) hN hi (by omega)
  rw [show Int32.ofNat 1 = 1 from rfl] at a1
  refine ⟨I2, J2, ?_, hI2, e0⟩
  simp only [K_some, K_void, K_none, wA_ref, wA_null, isNull_null, isNull_ref, c_int, c_long, c_ref, c_null, c_float, catS_nil, catS_cons, fit_int, fit_bool, fit_long, isO_mk, len_mk, fld_mk, gI_mk, gI0_mk, gZ_mk, gR_mk, isI_mk, isR_mk, tag_mk, lenE_mk, datR_mk, isOs, lenOs, fldS, lenS, gIs, gI0s, gZs, gRs, isIs, isRs, tagS, datRs, mkv, refV, fkS, isArr, tagOk, datI_mk, wrI_mk, wrA_mk, wrF_mk, wrJ_mk, List.length_cons, List.length_nil, List.getElem?_cons_zero, List.getElem?_cons_succ, List.getElem?_nil, ↓reduceIte, Nat.reduceAdd, Nat.reduceMul, Nat.reduceSub, Nat.reduceDiv, Nat.reduceMod, Nat.reduceLT, Nat.reduceLeDiff, Nat.reduceBEq, Nat.reduceEqDiff, Nat.zero_lt_succ, beq_self_eq_true, Bool.true_and, Bool.and_true, Bool.or_true, Bool.true_or, Bool.or_false, Bool.false_or, Bool.false_and, Bool.and_false, Bool.not_true, Bool.not_false, Bool.false_eq_true, Bool.true_eq_false, Bool.and_eq_true, Bool.or_eq_true, Bool.not_eq_true', decide_eq_true_eq, decide_eq_false_iff_not, decide_true, decide_false, and_self, true_and, and_true, or_true, true_or, or_false, false_or, and_false, false_and, or_self, reduceCtorEq, not_true_eq_false, not_false_eq_true, if_true, if_false, Int32.reduceAdd, Int32.reduceSub, Int32.reduceMul, Int32.reduceDiv, Int32.reduceMod, Int32.reduceLT, Int32.reduceLE, eqF1, eqF2, Int32.reduceOfNat, Int32.reduceOfInt, Int32.reduceToNatClampNeg, inb_lit, e_L_law_710, e_L_law_711, e_L_law_712, e_L_law_713, e_L_law_714, e_L_law_715, e_L_law_716, e_L_law_719, e_L_law_720, e_L_law_721, e_L_law_722, e_L_law_723, e_L_law_724, e_L_law_725, e_L_law_728, lz_sh0, lz_dat, sh_1, sh_77, sh_2, sh_3, sh_4, sh_7, sh_8, sh_9, sh_10, sh_11, sh_12, sh_13, sh_29, sh_35, sh_50, sh_53, sh_54, sh_55, sh_56, sh_78, sh_79, sh_80, sh_81, sh_82, sh_83, sh_84, sh_85, sh_86, sh_88, a1, b1, d1, e1, c1, c2]
theorem lz_sell (hI : Inv I J) (hN : N ≤ 3072) (hi : i + 6 ≤ N) : LC N i I J 733 := by
  obtain ⟨v, I1, J1, I2, J2, c1, c2, hI2, e0⟩ := (ag_sell hI : Agr N I J iX9_sell iX10_sell [.int (I 0 (i + 1))])
  have e1 := C_keep c1
  obtain ⟨w, hw⟩ := (C_rk c1).1 (by decide +kernel)
  cases hw
  obtain ⟨a1, b1, d1⟩ := sc_in (k := 1) hN hi (by omega)
  rw [show Int32.ofNat 1 = 1 from rfl] at a1
  refine ⟨I2, J2, ?_, hI2, e0⟩
  simp only [K_some, K_void, K_none, wA_ref, wA_null, isNull_null, isNull_ref, c_int, c_long, c_ref, c_null, c_float, catS_nil, catS_cons, fit_int, fit_bool, fit_long, isO_mk, len_mk, fld_mk, gI_mk, gI0_mk, gZ_mk, gR_mk, isI_mk, isR_mk, tag_mk, lenE_mk, datR_mk, isOs, lenOs, fldS, lenS, gIs, gI0s, gZs, gRs, isIs, isRs, tagS, datRs, mkv, refV, fkS, isArr, tagOk, datI_mk, wrI_mk, wrA_mk, wrF_mk, wrJ_mk, List.length_cons, List.length_nil, List.getElem?_cons_zero, List.getElem?_cons_succ, List.getElem?_nil, ↓reduceIte, Nat.reduceAdd, Nat.reduceMul, Nat.reduceSub, Nat.reduceDiv, Nat.reduceMod, Nat.reduceLT, Nat.reduceLeDiff, Nat.reduceBEq, Nat.reduceEqDiff, Nat.zero_lt_succ, beq_self_eq_true, Bool.true_and, Bool.and_true, Bool.or_true, Bool.true_or, Bool.or_false, Bool.false_or, Bool.false_and, Bool.and_false, Bool.not_true, Bool.not_false, Bool.false_eq_true, Bool.true_eq_false, Bool.and_eq_true, Bool.or_eq_true, Bool.not_eq_true', decide_eq_true_eq, decide_eq_false_iff_not, decide_true, decide_false, and_self, true_and, and_true, or_true, true_or, or_false, false_or, and_false, false_and, or_self, reduceCtorEq, not_true_eq_false, not_false_eq_true, if_true, if_false, Int32.reduceAdd, Int32.reduceSub, Int32.reduceMul, Int32.reduceDiv, Int32.reduceMod, Int32.reduceLT, Int32.reduceLE, eqF1, eqF2, Int32.reduceOfNat, Int32.reduceOfInt, Int32.reduceToNatClampNeg, inb_lit, e_L_law_733, e_L_law_734, e_L_law_735, e_L_law_736, e_L_law_737, e_L_law_738, e_L_law_739, e_L_law_742, e_L_law_743, e_L_law_744, e_L_law_745, e_L_law_746, e_L_law_747, e_L_law_748, e_L_law_751, lz_sh0, lz_dat, sh_1, sh_77, sh_2, sh_3, sh_4, sh_7, sh_8, sh_9, sh_10, sh_11, sh_12, sh_13, sh_29, sh_35, sh_50, sh_53, sh_54, sh_55, sh_56, sh_78, sh_79, sh_80, sh_81, sh_82, sh_83, sh_84, sh_85, sh_86, sh_88, a1, b1, d1, e1, c1, c2]
theorem lz_undo (hI : Inv I J) (hN : N ≤ 3072) (hi : i + 6 ≤ N) : LC N i I J 756 := by
  obtain ⟨v, I1, J1, I2, J2, c1, c2, hI2, e0⟩ := (ag_undo hI : Agr N I J iX9_undo iX10_undo [.int (I 0 (i + 1))])
  have e1 := C_keep c1
  obtain ⟨w, hw⟩ := (C_rk c1).1 (by decide +kernel)
  cases hw
  obtain ⟨a1, b1, d1⟩ := sc_in (k := 1) hN hi (by omega)
  rw [show Int32.ofNat 1 = 1 from rfl] at a1
  refine ⟨I2, J2, ?_, hI2, e0⟩
  simp only [K_some, K_void, K_none, wA_ref, wA_null, isNull_null, isNull_ref, c_int, c_long, c_ref, c_null, c_float, catS_nil, catS_cons, fit_int, fit_bool, fit_long, isO_mk, len_mk, fld_mk, gI_mk, gI0_mk, gZ_mk, gR_mk, isI_mk, isR_mk, tag_mk, lenE_mk, datR_mk, isOs, lenOs, fldS, lenS, gIs, gI0s, gZs, gRs, isIs, isRs, tagS, datRs, mkv, refV, fkS, isArr, tagOk, datI_mk, wrI_mk, wrA_mk, wrF_mk, wrJ_mk, List.length_cons, List.length_nil, List.getElem?_cons_zero, List.getElem?_cons_succ, List.getElem?_nil, ↓reduceIte, Nat.reduceAdd, Nat.reduceMul, Nat.reduceSub, Nat.reduceDiv, Nat.reduceMod, Nat.reduceLT, Nat.reduceLeDiff, Nat.reduceBEq, Nat.reduceEqDiff, Nat.zero_lt_succ, beq_self_eq_true, Bool.true_and, Bool.and_true, Bool.or_true, Bool.true_or, Bool.or_false, Bool.false_or, Bool.false_and, Bool.and_false, Bool.not_true, Bool.not_false, Bool.false_eq_true, Bool.true_eq_false, Bool.and_eq_true, Bool.or_eq_true, Bool.not_eq_true', decide_eq_true_eq, decide_eq_false_iff_not, decide_true, decide_false, and_self, true_and, and_true, or_true, true_or, or_false, false_or, and_false, false_and, or_self, reduceCtorEq, not_true_eq_false, not_false_eq_true, if_true, if_false, Int32.reduceAdd, Int32.reduceSub, Int32.reduceMul, Int32.reduceDiv, Int32.reduceMod, Int32.reduceLT, Int32.reduceLE, eqF1, eqF2, Int32.reduceOfNat, Int32.reduceOfInt, Int32.reduceToNatClampNeg, inb_lit, e_L_law_756, e_L_law_757, e_L_law_758, e_L_law_759, e_L_law_760, e_L_law_761, e_L_law_762, e_L_law_765, e_L_law_766, e_L_law_767, e_L_law_768, e_L_law_769, e_L_law_770, e_L_law_771, e_L_law_774, lz_sh0, lz_dat, sh_1, sh_77, sh_2, sh_3, sh_4, sh_7, sh_8, sh_9, sh_10, sh_11, sh_12, sh_13, sh_29, sh_35, sh_50, sh_53, sh_54, sh_55, sh_56, sh_78, sh_79, sh_80, sh_81, sh_82, sh_83, sh_84, sh_85, sh_86, sh_88, a1, b1, d1, e1, c1, c2]
theorem lz_keep (hI : Inv I J) (hN : N ≤ 3072) (hi : i + 6 ≤ N) : LC N i I J 779 := by
  obtain ⟨v, I1, J1, I2, J2, c1, c2, hI2, e0⟩ := (ag_keep hI : Agr N I J iX9_keep iX10_keep [.int (I 0 (i + 1))])
  have e1 := C_keep c1
  obtain ⟨w, hw⟩ := (C_rk c1).1 (by decide +kernel)
  cases hw
  obtain ⟨a1, b1, d1⟩ := sc_in (k := 1) hN hi (by omega)
  rw [show Int32.ofNat 1 = 1 from rfl] at a1
  refine ⟨I2, J2, ?_, hI2, e0⟩
  simp only [K_some, K_void, K_none, wA_ref, wA_null, isNull_null, isNull_ref, c_int, c_long, c_ref, c_null, c_float, catS_nil, catS_cons, fit_int, fit_bool, fit_long, isO_mk, len_mk, fld_mk, gI_mk, gI0_mk, gZ_mk, gR_mk, isI_mk, isR_mk, tag_mk, lenE_mk, datR_mk, isOs, lenOs, fldS, lenS, gIs, gI0s, gZs, gRs, isIs, isRs, tagS, datRs, mkv, refV, fkS, isArr, tagOk, datI_mk, wrI_mk, wrA_mk, wrF_mk, wrJ_mk, List.length_cons, List.length_nil, List.getElem?_cons_zero, List.getElem?_cons_succ, List.getElem?_nil, ↓reduceIte, Nat.reduceAdd, Nat.reduceMul, Nat.reduceSub, Nat.reduceDiv, Nat.reduceMod, Nat.reduceLT, Nat.reduceLeDiff, Nat.reduceBEq, Nat.reduceEqDiff, Nat.zero_lt_succ, beq_self_eq_true, Bool.true_and, Bool.and_true, Bool.or_true, Bool.true_or, Bool.or_false, Bool.false_or, Bool.false_and, Bool.and_false, Bool.not_true, Bool.not_false, Bool.false_eq_true, Bool.true_eq_false, Bool.and_eq_true, Bool.or_eq_true, Bool.not_eq_true', decide_eq_true_eq, decide_eq_false_iff_not, decide_true, decide_false, and_self, true_and, and_true, or_true, true_or, or_false, false_or, and_false, false_and, or_self, reduceCtorEq, not_true_eq_false, not_false_eq_true, if_true, if_false, Int32.reduceAdd, Int32.reduceSub, Int32.reduceMul, Int32.reduceDiv, Int32.reduceMod, Int32.reduceLT, Int32.reduceLE, eqF1, eqF2, Int32.reduceOfNat, Int32.reduceOfInt, Int32.reduceToNatClampNeg, inb_lit, e_L_law_779, e_L_law_780, e_L_law_781, e_L_law_782, e_L_law_783, e_L_law_784, e_L_law_785, e_L_law_788, e_L_law_789, e_L_law_790, e_L_law_791, e_L_law_792, e_L_law_793, e_L_law_794, e_L_law_797, lz_sh0, lz_dat, sh_1, sh_77, sh_2, sh_3, sh_4, sh_7, sh_8, sh_9, sh_10, sh_11, sh_12, sh_13, sh_29, sh_35, sh_50, sh_53, sh_54, sh_55, sh_56, sh_78, sh_79, sh_80, sh_81, sh_82, sh_83, sh_84, sh_85, sh_86, sh_88, a1, b1, d1, e1, c1, c2]
theorem lz_on (hI : Inv I J) (hN : N ≤ 3072) (hi : i + 6 ≤ N) : LC N i I J 802 := by
  obtain ⟨v, I1, J1, I2, J2, c1, c2, hI2, e0⟩ := (ag_on hI : Agr N I J iX9_on iX10_on [.int (I 0 (i + 1))])
  have e1 := C_keep c1
  obtain ⟨w, hw⟩ := (C_rk c1).1 (by decide +kernel)
  cases hw
  obtain ⟨a1, b1, d1⟩ := sc_in (k := 1) hN hi (by omega)
  rw [show Int32.ofNat 1 = 1 from rfl] at a1
  refine ⟨I2, J2, ?_, hI2, e0⟩
  simp only [K_some, K_void, K_none, wA_ref, wA_null, isNull_null, isNull_ref, c_int, c_long, c_ref, c_null, c_float, catS_nil, catS_cons, fit_int, fit_bool, fit_long, isO_mk, len_mk, fld_mk, gI_mk, gI0_mk, gZ_mk, gR_mk, isI_mk, isR_mk, tag_mk, lenE_mk, datR_mk, isOs, lenOs, fldS, lenS, gIs, gI0s, gZs, gRs, isIs, isRs, tagS, datRs, mkv, refV, fkS, isArr, tagOk, datI_mk, wrI_mk, wrA_mk, wrF_mk, wrJ_mk, List.length_cons, List.length_nil, List.getElem?_cons_zero, List.getElem?_cons_succ, List.getElem?_nil, ↓reduceIte, Nat.reduceAdd, Nat.reduceMul, Nat.reduceSub, Nat.reduceDiv, Nat.reduceMod, Nat.reduceLT, Nat.reduceLeDiff, Nat.reduceBEq, Nat.reduceEqDiff, Nat.zero_lt_succ, beq_self_eq_true, Bool.true_and, Bool.and_true, Bool.or_true, Bool.true_or, Bool.or_false, Bool.false_or, Bool.false_and, Bool.and_false, Bool.not_true, Bool.not_false, Bool.false_eq_true, Bool.true_eq_false, Bool.and_eq_true, Bool.or_eq_true, Bool.not_eq_true', decide_eq_true_eq, decide_eq_false_iff_not, decide_true, decide_false, and_self, true_and, and_true, or_true, true_or, or_false, false_or, and_false, false_and, or_self, reduceCtorEq, not_true_eq_false, not_false_eq_true, if_true, if_false, Int32.reduceAdd, Int32.reduceSub, Int32.reduceMul, Int32.reduceDiv, Int32.reduceMod, Int32.reduceLT, Int32.reduceLE, eqF1, eqF2, Int32.reduceOfNat, Int32.reduceOfInt, Int32.reduceToNatClampNeg, inb_lit, e_L_law_802, e_L_law_803, e_L_law_804, e_L_law_805, e_L_law_806, e_L_law_807, e_L_law_808, e_L_law_811, e_L_law_812, e_L_law_813, e_L_law_814, e_L_law_815, e_L_law_816, e_L_law_817, e_L_law_820, lz_sh0, lz_dat, sh_1, sh_77, sh_2, sh_3, sh_4, sh_7, sh_8, sh_9, sh_10, sh_11, sh_12, sh_13, sh_29, sh_35, sh_50, sh_53, sh_54, sh_55, sh_56, sh_78, sh_79, sh_80, sh_81, sh_82, sh_83, sh_84, sh_85, sh_86, sh_88, a1, b1, d1, e1, c1, c2]
theorem lz_peace (hI : Inv I J) (hN : N ≤ 3072) (hi : i + 6 ≤ N) : LC N i I J 825 := by
  obtain ⟨v, I1, J1, I2, J2, c1, c2, hI2, e0⟩ := (ag_peace hI : Agr N I J iX9_peace iX10_peace [])
  have e1 := C_keep c1
  obtain ⟨w, hw⟩ := (C_rk c1).1 (by decide +kernel)
  cases hw
  refine ⟨I2, J2, ?_, hI2, e0⟩
  simp only [K_some, K_void, K_none, wA_ref, wA_null, isNull_null, isNull_ref, c_int, c_long, c_ref, c_null, c_float, catS_nil, catS_cons, fit_int, fit_bool, fit_long, isO_mk, len_mk, fld_mk, gI_mk, gI0_mk, gZ_mk, gR_mk, isI_mk, isR_mk, tag_mk, lenE_mk, datR_mk, isOs, lenOs, fldS, lenS, gIs, gI0s, gZs, gRs, isIs, isRs, tagS, datRs, mkv, refV, fkS, isArr, tagOk, datI_mk, wrI_mk, wrA_mk, wrF_mk, wrJ_mk, List.length_cons, List.length_nil, List.getElem?_cons_zero, List.getElem?_cons_succ, List.getElem?_nil, ↓reduceIte, Nat.reduceAdd, Nat.reduceMul, Nat.reduceSub, Nat.reduceDiv, Nat.reduceMod, Nat.reduceLT, Nat.reduceLeDiff, Nat.reduceBEq, Nat.reduceEqDiff, Nat.zero_lt_succ, beq_self_eq_true, Bool.true_and, Bool.and_true, Bool.or_true, Bool.true_or, Bool.or_false, Bool.false_or, Bool.false_and, Bool.and_false, Bool.not_true, Bool.not_false, Bool.false_eq_true, Bool.true_eq_false, Bool.and_eq_true, Bool.or_eq_true, Bool.not_eq_true', decide_eq_true_eq, decide_eq_false_iff_not, decide_true, decide_false, and_self, true_and, and_true, or_true, true_or, or_false, false_or, and_false, false_and, or_self, reduceCtorEq, not_true_eq_false, not_false_eq_true, if_true, if_false, Int32.reduceAdd, Int32.reduceSub, Int32.reduceMul, Int32.reduceDiv, Int32.reduceMod, Int32.reduceLT, Int32.reduceLE, eqF1, eqF2, Int32.reduceOfNat, Int32.reduceOfInt, Int32.reduceToNatClampNeg, inb_lit, e_L_law_825, e_L_law_826, e_L_law_829, e_L_law_830, e_L_law_833, lz_sh0, lz_dat, sh_1, sh_77, sh_2, sh_3, sh_4, sh_7, sh_8, sh_9, sh_10, sh_11, sh_12, sh_13, sh_29, sh_35, sh_50, sh_53, sh_54, sh_55, sh_56, sh_78, sh_79, sh_80, sh_81, sh_82, sh_83, sh_84, sh_85, sh_86, sh_88, e1, c1, c2]
theorem lz_plan (hI : Inv I J) (hN : N ≤ 3072) (hi : i + 6 ≤ N) : LC N i I J 838 := by
  obtain ⟨v, I1, J1, I2, J2, c1, c2, hI2, e0⟩ := (ag_plan hI : Agr N I J iX9_plan iX10_plan [.int (I 0 (i + 1)), .int (I 0 (i + 2)), .int (I 0 (i + 3)), .int (I 0 (i + 4))])
  have e1 := C_keep c1
  obtain ⟨w, hw⟩ := (C_rk c1).1 (by decide +kernel)
  cases hw
  obtain ⟨a1, b1, d1⟩ := sc_in (k := 1) hN hi (by omega)
  rw [show Int32.ofNat 1 = 1 from rfl] at a1
  obtain ⟨a2, b2, d2⟩ := sc_in (k := 2) hN hi (by omega)
  rw [show Int32.ofNat 2 = 2 from rfl] at a2
  obtain ⟨a3, b3, d3⟩ := sc_in (k := 3) hN hi (by omega)
  rw [show Int32.ofNat 3 = 3 from rfl] at a3
  obtain ⟨a4, b4, d4⟩ := sc_in (k := 4) hN hi (by omega)
  rw [show Int32.ofNat 4 = 4 from rfl] at a4
  refine ⟨I2, J2, ?_, hI2, e0⟩
  simp only [K_some, K_void, K_none, wA_ref, wA_null, isNull_null, isNull_ref, c_int, c_long, c_ref, c_null, c_float, catS_nil, catS_cons, fit_int, fit_bool, fit_long, isO_mk, len_mk, fld_mk, gI_mk, gI0_mk, gZ_mk, gR_mk, isI_mk, isR_mk, tag_mk, lenE_mk, datR_mk, isOs, lenOs, fldS, lenS, gIs, gI0s, gZs, gRs, isIs, isRs, tagS, datRs, mkv, refV, fkS, isArr, tagOk, datI_mk, wrI_mk, wrA_mk, wrF_mk, wrJ_mk, List.length_cons, List.length_nil, List.getElem?_cons_zero, List.getElem?_cons_succ, List.getElem?_nil, ↓reduceIte, Nat.reduceAdd, Nat.reduceMul, Nat.reduceSub, Nat.reduceDiv, Nat.reduceMod, Nat.reduceLT, Nat.reduceLeDiff, Nat.reduceBEq, Nat.reduceEqDiff, Nat.zero_lt_succ, beq_self_eq_true, Bool.true_and, Bool.and_true, Bool.or_true, Bool.true_or, Bool.or_false, Bool.false_or, Bool.false_and, Bool.and_false, Bool.not_true, Bool.not_false, Bool.false_eq_true, Bool.true_eq_false, Bool.and_eq_true, Bool.or_eq_true, Bool.not_eq_true', decide_eq_true_eq, decide_eq_false_iff_not, decide_true, decide_false, and_self, true_and, and_true, or_true, true_or, or_false, false_or, and_false, false_and, or_self, reduceCtorEq, not_true_eq_false, not_false_eq_true, if_true, if_false, Int32.reduceAdd, Int32.reduceSub, Int32.reduceMul, Int32.reduceDiv, Int32.reduceMod, Int32.reduceLT, Int32.reduceLE, eqF1, eqF2, Int32.reduceOfNat, Int32.reduceOfInt, Int32.reduceToNatClampNeg, inb_lit, e_L_law_838, e_L_law_839, e_L_law_840, e_L_law_841, e_L_law_842, e_L_law_843, e_L_law_844, e_L_law_845, e_L_law_846, e_L_law_847, e_L_law_848, e_L_law_849, e_L_law_850, e_L_law_851, e_L_law_852, e_L_law_853, e_L_law_854, e_L_law_855, e_L_law_856, e_L_law_857, e_L_law_858, e_L_law_859, e_L_law_862, e_L_law_863, e_L_law_864, e_L_law_865, e_L_law_866, e_L_law_867, e_L_law_868, e_L_law_869, e_L_law_870, e_L_law_871, e_L_law_872, e_L_law_873, e_L_law_874, e_L_law_875, e_L_law_876, e_L_law_877, e_L_law_878, e_L_law_879, e_L_law_880, e_L_law_881, e_L_law_882, e_L_law_883, e_L_law_886, lz_sh0, lz_dat, sh_1, sh_77, sh_2, sh_3, sh_4, sh_7, sh_8, sh_9, sh_10, sh_11, sh_12, sh_13, sh_29, sh_35, sh_50, sh_53, sh_54, sh_55, sh_56, sh_78, sh_79, sh_80, sh_81, sh_82, sh_83, sh_84, sh_85, sh_86, sh_88, a1, b1, d1, a2, b2, d2, a3, b3, d3, a4, b4, d4, e1, c1, c2]
theorem lz_through (hI : Inv I J) (hN : N ≤ 3072) (hi : i + 6 ≤ N) : LC N i I J 891 := by
  obtain ⟨v, I1, J1, I2, J2, c1, c2, hI2, e0⟩ := (ag_through hI : Agr N I J iX9_through iX10_through [.int (I 0 (i + 1))])
  have e1 := C_keep c1
  obtain ⟨w, hw⟩ := (C_rk c1).1 (by decide +kernel)
  cases hw
  obtain ⟨a1, b1, d1⟩ := sc_in (k := 1) hN hi (by omega)
  rw [show Int32.ofNat 1 = 1 from rfl] at a1
  refine ⟨I2, J2, ?_, hI2, e0⟩
  simp only [K_some, K_void, K_none, wA_ref, wA_null, isNull_null, isNull_ref, c_int, c_long, c_ref, c_null, c_float, catS_nil, catS_cons, fit_int, fit_bool, fit_long, isO_mk, len_mk, fld_mk, gI_mk, gI0_mk, gZ_mk, gR_mk, isI_mk, isR_mk, tag_mk, lenE_mk, datR_mk, isOs, lenOs, fldS, lenS, gIs, gI0s, gZs, gRs, isIs, isRs, tagS, datRs, mkv, refV, fkS, isArr, tagOk, datI_mk, wrI_mk, wrA_mk, wrF_mk, wrJ_mk, List.length_cons, List.length_nil, List.getElem?_cons_zero, List.getElem?_cons_succ, List.getElem?_nil, ↓reduceIte, Nat.reduceAdd, Nat.reduceMul, Nat.reduceSub, Nat.reduceDiv, Nat.reduceMod, Nat.reduceLT, Nat.reduceLeDiff, Nat.reduceBEq, Nat.reduceEqDiff, Nat.zero_lt_succ, beq_self_eq_true, Bool.true_and, Bool.and_true, Bool.or_true, Bool.true_or, Bool.or_false, Bool.false_or, Bool.false_and, Bool.and_false, Bool.not_true, Bool.not_false, Bool.false_eq_true, Bool.true_eq_false, Bool.and_eq_true, Bool.or_eq_true, Bool.not_eq_true', decide_eq_true_eq, decide_eq_false_iff_not, decide_true, decide_false, and_self, true_and, and_true, or_true, true_or, or_false, false_or, and_false, false_and, or_self, reduceCtorEq, not_true_eq_false, not_false_eq_true, if_true, if_false, Int32.reduceAdd, Int32.reduceSub, Int32.reduceMul, Int32.reduceDiv, Int32.reduceMod, Int32.reduceLT, Int32.reduceLE, eqF1, eqF2, Int32.reduceOfNat, Int32.reduceOfInt, Int32.reduceToNatClampNeg, inb_lit, e_L_law_891, e_L_law_892, e_L_law_893, e_L_law_894, e_L_law_895, e_L_law_896, e_L_law_897, e_L_law_900, e_L_law_901, e_L_law_902, e_L_law_903, e_L_law_904, e_L_law_905, e_L_law_906, e_L_law_909, lz_sh0, lz_dat, sh_1, sh_77, sh_2, sh_3, sh_4, sh_7, sh_8, sh_9, sh_10, sh_11, sh_12, sh_13, sh_29, sh_35, sh_50, sh_53, sh_54, sh_55, sh_56, sh_78, sh_79, sh_80, sh_81, sh_82, sh_83, sh_84, sh_85, sh_86, sh_88, a1, b1, d1, e1, c1, c2]
theorem lz_about (hI : Inv I J) (hN : N ≤ 3072) (hi : i + 6 ≤ N) : LC N i I J 914 := by
  obtain ⟨v, I1, J1, I2, J2, c1, c2, hI2, e0⟩ := (ag_about hI : Agr N I J iX9_about iX10_about [.int (I 0 (i + 1))])
  have e1 := C_keep c1
  obtain ⟨w, hw⟩ := (C_rk c1).1 (by decide +kernel)
  cases hw
  obtain ⟨a1, b1, d1⟩ := sc_in (k := 1) hN hi (by omega)
  rw [show Int32.ofNat 1 = 1 from rfl] at a1
  refine ⟨I2, J2, ?_, hI2, e0⟩
  simp only [K_some, K_void, K_none, wA_ref, wA_null, isNull_null, isNull_ref, c_int, c_long, c_ref, c_null, c_float, catS_nil, catS_cons, fit_int, fit_bool, fit_long, isO_mk, len_mk, fld_mk, gI_mk, gI0_mk, gZ_mk, gR_mk, isI_mk, isR_mk, tag_mk, lenE_mk, datR_mk, isOs, lenOs, fldS, lenS, gIs, gI0s, gZs, gRs, isIs, isRs, tagS, datRs, mkv, refV, fkS, isArr, tagOk, datI_mk, wrI_mk, wrA_mk, wrF_mk, wrJ_mk, List.length_cons, List.length_nil, List.getElem?_cons_zero, List.getElem?_cons_succ, List.getElem?_nil, ↓reduceIte, Nat.reduceAdd, Nat.reduceMul, Nat.reduceSub, Nat.reduceDiv, Nat.reduceMod, Nat.reduceLT, Nat.reduceLeDiff, Nat.reduceBEq, Nat.reduceEqDiff, Nat.zero_lt_succ, beq_self_eq_true, Bool.true_and, Bool.and_true, Bool.or_true, Bool.true_or, Bool.or_false, Bool.false_or, Bool.false_and, Bool.and_false, Bool.not_true, Bool.not_false, Bool.false_eq_true, Bool.true_eq_false, Bool.and_eq_true, Bool.or_eq_true, Bool.not_eq_true', decide_eq_true_eq, decide_eq_false_iff_not, decide_true, decide_false, and_self, true_and, and_true, or_true, true_or, or_false, false_or, and_false, false_and, or_self, reduceCtorEq, not_true_eq_false, not_false_eq_true, if_true, if_false, Int32.reduceAdd, Int32.reduceSub, Int32.reduceMul, Int32.reduceDiv, Int32.reduceMod, Int32.reduceLT, Int32.reduceLE, eqF1, eqF2, Int32.reduceOfNat, Int32.reduceOfInt, Int32.reduceToNatClampNeg, inb_lit, e_L_law_914, e_L_law_915, e_L_law_916, e_L_law_917, e_L_law_918, e_L_law_919, e_L_law_920, e_L_law_923, e_L_law_924, e_L_law_925, e_L_law_926, e_L_law_927, e_L_law_928, e_L_law_929, e_L_law_932, lz_sh0, lz_dat, sh_1, sh_77, sh_2, sh_3, sh_4, sh_7, sh_8, sh_9, sh_10, sh_11, sh_12, sh_13, sh_29, sh_35, sh_50, sh_53, sh_54, sh_55, sh_56, sh_78, sh_79, sh_80, sh_81, sh_82, sh_83, sh_84, sh_85, sh_86, sh_88, a1, b1, d1, e1, c1, c2]
theorem lz_sure (hI : Inv I J) (hN : N ≤ 3072) (hi : i + 6 ≤ N) : LC N i I J 937 := by
  obtain ⟨v, I1, J1, I2, J2, c1, c2, hI2, e0⟩ := (ag_sure hI : Agr N I J iX9_sure iX10_sure [.int (I 0 (i + 1))])
  have e1 := C_keep c1
  obtain ⟨w, hw⟩ := (C_rk c1).1 (by decide +kernel)
  cases hw
  obtain ⟨a1, b1, d1⟩ := sc_in (k := 1) hN hi (by omega)
  rw [show Int32.ofNat 1 = 1 from rfl] at a1
  refine ⟨I2, J2, ?_, hI2, e0⟩
  simp only [K_some, K_void, K_none, wA_ref, wA_null, isNull_null, isNull_ref, c_int, c_long, c_ref, c_null, c_float, catS_nil, catS_cons, fit_int, fit_bool, fit_long, isO_mk, len_mk, fld_mk, gI_mk, gI0_mk, gZ_mk, gR_mk, isI_mk, isR_mk, tag_mk, lenE_mk, datR_mk, isOs, lenOs, fldS, lenS, gIs, gI0s, gZs, gRs, isIs, isRs, tagS, datRs, mkv, refV, fkS, isArr, tagOk, datI_mk, wrI_mk, wrA_mk, wrF_mk, wrJ_mk, List.length_cons, List.length_nil, List.getElem?_cons_zero, List.getElem?_cons_succ, List.getElem?_nil, ↓reduceIte, Nat.reduceAdd, Nat.reduceMul, Nat.reduceSub, Nat.reduceDiv, Nat.reduceMod, Nat.reduceLT, Nat.reduceLeDiff, Nat.reduceBEq, Nat.reduceEqDiff, Nat.zero_lt_succ, beq_self_eq_true, Bool.true_and, Bool.and_true, Bool.or_true, Bool.true_or, Bool.or_false, Bool.false_or, Bool.false_and, Bool.and_false, Bool.not_true, Bool.not_false, Bool.false_eq_true, Bool.true_eq_false, Bool.and_eq_true, Bool.or_eq_true, Bool.not_eq_true', decide_eq_true_eq, decide_eq_false_iff_not, decide_true, decide_false, and_self, true_and, and_true, or_true, true_or, or_false, false_or, and_false, false_and, or_self, reduceCtorEq, not_true_eq_false, not_false_eq_true, if_true, if_false, Int32.reduceAdd, Int32.reduceSub, Int32.reduceMul, Int32.reduceDiv, Int32.reduceMod, Int32.reduceLT, Int32.reduceLE, eqF1, eqF2, Int32.reduceOfNat, Int32.reduceOfInt, Int32.reduceToNatClampNeg, inb_lit, e_L_law_937, e_L_law_938, e_L_law_939, e_L_law_940, e_L_law_941, e_L_law_942, e_L_law_943, e_L_law_946, e_L_law_947, e_L_law_948, e_L_law_949, e_L_law_950, e_L_law_951, e_L_law_952, e_L_law_955, lz_sh0, lz_dat, sh_1, sh_77, sh_2, sh_3, sh_4, sh_7, sh_8, sh_9, sh_10, sh_11, sh_12, sh_13, sh_29, sh_35, sh_50, sh_53, sh_54, sh_55, sh_56, sh_78, sh_79, sh_80, sh_81, sh_82, sh_83, sh_84, sh_85, sh_86, sh_88, a1, b1, d1, e1, c1, c2]
theorem lz_salts (hI : Inv I J) (hN : N ≤ 3072) (hi : i + 6 ≤ N) : LC N i I J 960 := by
  obtain ⟨v, I1, J1, I2, J2, c1, c2, hI2, e0⟩ := (ag_salts hI : Agr N I J iX9_salts iX10_salts [.int (I 0 (i + 1)), .int (I 0 (i + 2))])
  have e1 := C_keep c1
  obtain ⟨w, hw⟩ := (C_rk c1).1 (by decide +kernel)
  cases hw
  obtain ⟨a1, b1, d1⟩ := sc_in (k := 1) hN hi (by omega)
  rw [show Int32.ofNat 1 = 1 from rfl] at a1
  obtain ⟨a2, b2, d2⟩ := sc_in (k := 2) hN hi (by omega)
  rw [show Int32.ofNat 2 = 2 from rfl] at a2
  refine ⟨I2, J2, ?_, hI2, e0⟩
  simp only [K_some, K_void, K_none, wA_ref, wA_null, isNull_null, isNull_ref, c_int, c_long, c_ref, c_null, c_float, catS_nil, catS_cons, fit_int, fit_bool, fit_long, isO_mk, len_mk, fld_mk, gI_mk, gI0_mk, gZ_mk, gR_mk, isI_mk, isR_mk, tag_mk, lenE_mk, datR_mk, isOs, lenOs, fldS, lenS, gIs, gI0s, gZs, gRs, isIs, isRs, tagS, datRs, mkv, refV, fkS, isArr, tagOk, datI_mk, wrI_mk, wrA_mk, wrF_mk, wrJ_mk, List.length_cons, List.length_nil, List.getElem?_cons_zero, List.getElem?_cons_succ, List.getElem?_nil, ↓reduceIte, Nat.reduceAdd, Nat.reduceMul, Nat.reduceSub, Nat.reduceDiv, Nat.reduceMod, Nat.reduceLT, Nat.reduceLeDiff, Nat.reduceBEq, Nat.reduceEqDiff, Nat.zero_lt_succ, beq_self_eq_true, Bool.true_and, Bool.and_true, Bool.or_true, Bool.true_or, Bool.or_false, Bool.false_or, Bool.false_and, Bool.and_false, Bool.not_true, Bool.not_false, Bool.false_eq_true, Bool.true_eq_false, Bool.and_eq_true, Bool.or_eq_true, Bool.not_eq_true', decide_eq_true_eq, decide_eq_false_iff_not, decide_true, decide_false, and_self, true_and, and_true, or_true, true_or, or_false, false_or, and_false, false_and, or_self, reduceCtorEq, not_true_eq_false, not_false_eq_true, if_true, if_false, Int32.reduceAdd, Int32.reduceSub, Int32.reduceMul, Int32.reduceDiv, Int32.reduceMod, Int32.reduceLT, Int32.reduceLE, eqF1, eqF2, Int32.reduceOfNat, Int32.reduceOfInt, Int32.reduceToNatClampNeg, inb_lit, e_L_law_960, e_L_law_961, e_L_law_962, e_L_law_963, e_L_law_964, e_L_law_965, e_L_law_966, e_L_law_967, e_L_law_968, e_L_law_969, e_L_law_970, e_L_law_971, e_L_law_974, e_L_law_975, e_L_law_976, e_L_law_977, e_L_law_978, e_L_law_979, e_L_law_980, e_L_law_981, e_L_law_982, e_L_law_983, e_L_law_984, e_L_law_985, e_L_law_988, lz_sh0, lz_dat, sh_1, sh_77, sh_2, sh_3, sh_4, sh_7, sh_8, sh_9, sh_10, sh_11, sh_12, sh_13, sh_29, sh_35, sh_50, sh_53, sh_54, sh_55, sh_56, sh_78, sh_79, sh_80, sh_81, sh_82, sh_83, sh_84, sh_85, sh_86, sh_88, a1, b1, d1, a2, b2, d2, e1, c1, c2]
theorem lz_kinds (hI : Inv I J) (hN : N ≤ 3072) (hi : i + 6 ≤ N) : LC N i I J 993 := by
  obtain ⟨v, I1, J1, I2, J2, c1, c2, hI2, e0⟩ := (ag_kinds hI : Agr N I J iX9_kinds iX10_kinds [.int (I 0 (i + 1)), .int (I 0 (i + 2))])
  have e1 := C_keep c1
  obtain ⟨w, hw⟩ := (C_rk c1).1 (by decide +kernel)
  cases hw
  obtain ⟨a1, b1, d1⟩ := sc_in (k := 1) hN hi (by omega)
  rw [show Int32.ofNat 1 = 1 from rfl] at a1
  obtain ⟨a2, b2, d2⟩ := sc_in (k := 2) hN hi (by omega)
  rw [show Int32.ofNat 2 = 2 from rfl] at a2
  refine ⟨I2, J2, ?_, hI2, e0⟩
  simp only [K_some, K_void, K_none, wA_ref, wA_null, isNull_null, isNull_ref, c_int, c_long, c_ref, c_null, c_float, catS_nil, catS_cons, fit_int, fit_bool, fit_long, isO_mk, len_mk, fld_mk, gI_mk, gI0_mk, gZ_mk, gR_mk, isI_mk, isR_mk, tag_mk, lenE_mk, datR_mk, isOs, lenOs, fldS, lenS, gIs, gI0s, gZs, gRs, isIs, isRs, tagS, datRs, mkv, refV, fkS, isArr, tagOk, datI_mk, wrI_mk, wrA_mk, wrF_mk, wrJ_mk, List.length_cons, List.length_nil, List.getElem?_cons_zero, List.getElem?_cons_succ, List.getElem?_nil, ↓reduceIte, Nat.reduceAdd, Nat.reduceMul, Nat.reduceSub, Nat.reduceDiv, Nat.reduceMod, Nat.reduceLT, Nat.reduceLeDiff, Nat.reduceBEq, Nat.reduceEqDiff, Nat.zero_lt_succ, beq_self_eq_true, Bool.true_and, Bool.and_true, Bool.or_true, Bool.true_or, Bool.or_false, Bool.false_or, Bool.false_and, Bool.and_false, Bool.not_true, Bool.not_false, Bool.false_eq_true, Bool.true_eq_false, Bool.and_eq_true, Bool.or_eq_true, Bool.not_eq_true', decide_eq_true_eq, decide_eq_false_iff_not, decide_true, decide_false, and_self, true_and, and_true, or_true, true_or, or_false, false_or, and_false, false_and, or_self, reduceCtorEq, not_true_eq_false, not_false_eq_true, if_true, if_false, Int32.reduceAdd, Int32.reduceSub, Int32.reduceMul, Int32.reduceDiv, Int32.reduceMod, Int32.reduceLT, Int32.reduceLE, eqF1, eqF2, Int32.reduceOfNat, Int32.reduceOfInt, Int32.reduceToNatClampNeg, inb_lit, e_L_law_993, e_L_law_994, e_L_law_995, e_L_law_996, e_L_law_997, e_L_law_998, e_L_law_999, e_L_law_1000, e_L_law_1001, e_L_law_1002, e_L_law_1003, e_L_law_1004, e_L_law_1007, e_L_law_1008, e_L_law_1009, e_L_law_1010, e_L_law_1011, e_L_law_1012, e_L_law_1013, e_L_law_1014, e_L_law_1015, e_L_law_1016, e_L_law_1017, e_L_law_1018, e_L_law_1021, lz_sh0, lz_dat, sh_1, sh_77, sh_2, sh_3, sh_4, sh_7, sh_8, sh_9, sh_10, sh_11, sh_12, sh_13, sh_29, sh_35, sh_50, sh_53, sh_54, sh_55, sh_56, sh_78, sh_79, sh_80, sh_81, sh_82, sh_83, sh_84, sh_85, sh_86, sh_88, a1, b1, d1, a2, b2, d2, e1, c1, c2]
theorem lz_test (hI : Inv I J) (hN : N ≤ 3072) (hi : i + 6 ≤ N) : LC N i I J 1026 := by
  obtain ⟨v, I1, J1, I2, J2, c1, c2, hI2, e0⟩ := (ag_test hI : Agr N I J iX9_test iX10_test [.int (I 0 (i + 1)), .int (I 0 (i + 2))])
  have e1 := C_keep c1
  obtain ⟨w, hw⟩ := (C_rk c1).1 (by decide +kernel)
  cases hw
  obtain ⟨a1, b1, d1⟩ := sc_in (k := 1) hN hi (by omega)
  rw [show Int32.ofNat 1 = 1 from rfl] at a1
  obtain ⟨a2, b2, d2⟩ := sc_in (k := 2) hN hi (by omega)
  rw [show Int32.ofNat 2 = 2 from rfl] at a2
  refine ⟨I2, J2, ?_, hI2, e0⟩
  simp only [K_some, K_void, K_none, wA_ref, wA_null, isNull_null, isNull_ref, c_int, c_long, c_ref, c_null, c_float, catS_nil, catS_cons, fit_int, fit_bool, fit_long, isO_mk, len_mk, fld_mk, gI_mk, gI0_mk, gZ_mk, gR_mk, isI_mk, isR_mk, tag_mk, lenE_mk, datR_mk, isOs, lenOs, fldS, lenS, gIs, gI0s, gZs, gRs, isIs, isRs, tagS, datRs, mkv, refV, fkS, isArr, tagOk, datI_mk, wrI_mk, wrA_mk, wrF_mk, wrJ_mk, List.length_cons, List.length_nil, List.getElem?_cons_zero, List.getElem?_cons_succ, List.getElem?_nil, ↓reduceIte, Nat.reduceAdd, Nat.reduceMul, Nat.reduceSub, Nat.reduceDiv, Nat.reduceMod, Nat.reduceLT, Nat.reduceLeDiff, Nat.reduceBEq, Nat.reduceEqDiff, Nat.zero_lt_succ, beq_self_eq_true, Bool.true_and, Bool.and_true, Bool.or_true, Bool.true_or, Bool.or_false, Bool.false_or, Bool.false_and, Bool.and_false, Bool.not_true, Bool.not_false, Bool.false_eq_true, Bool.true_eq_false, Bool.and_eq_true, Bool.or_eq_true, Bool.not_eq_true', decide_eq_true_eq, decide_eq_false_iff_not, decide_true, decide_false, and_self, true_and, and_true, or_true, true_or, or_false, false_or, and_false, false_and, or_self, reduceCtorEq, not_true_eq_false, not_false_eq_true, if_true, if_false, Int32.reduceAdd, Int32.reduceSub, Int32.reduceMul, Int32.reduceDiv, Int32.reduceMod, Int32.reduceLT, Int32.reduceLE, eqF1, eqF2, Int32.reduceOfNat, Int32.reduceOfInt, Int32.reduceToNatClampNeg, inb_lit, e_L_law_1026, e_L_law_1027, e_L_law_1028, e_L_law_1029, e_L_law_1030, e_L_law_1031, e_L_law_1032, e_L_law_1033, e_L_law_1034, e_L_law_1035, e_L_law_1036, e_L_law_1037, e_L_law_1040, e_L_law_1041, e_L_law_1042, e_L_law_1043, e_L_law_1044, e_L_law_1045, e_L_law_1046, e_L_law_1047, e_L_law_1048, e_L_law_1049, e_L_law_1050, e_L_law_1051, e_L_law_1054, lz_sh0, lz_dat, sh_1, sh_77, sh_2, sh_3, sh_4, sh_7, sh_8, sh_9, sh_10, sh_11, sh_12, sh_13, sh_29, sh_35, sh_50, sh_53, sh_54, sh_55, sh_56, sh_78, sh_79, sh_80, sh_81, sh_82, sh_83, sh_84, sh_85, sh_86, sh_88, a1, b1, d1, a2, b2, d2, e1, c1, c2]
theorem lz_shows (hI : Inv I J) (hN : N ≤ 3072) (hi : i + 6 ≤ N) : LC N i I J 1059 := by
  obtain ⟨v, I1, J1, I2, J2, c1, c2, hI2, e0⟩ := (ag_shows hI : Agr N I J iX9_shows iX10_shows [.int (I 0 (i + 1)), .int (I 0 (i + 2))])
  have e1 := C_keep c1
  obtain ⟨w, hw⟩ := (C_rk c1).1 (by decide +kernel)
  cases hw
  obtain ⟨a1, b1, d1⟩ := sc_in (k := 1) hN hi (by omega)
  rw [show Int32.ofNat 1 = 1 from rfl] at a1
  obtain ⟨a2, b2, d2⟩ := sc_in (k := 2) hN hi (by omega)
  rw [show Int32.ofNat 2 = 2 from rfl] at a2
  refine ⟨I2, J2, ?_, hI2, e0⟩
  simp only [K_some, K_void, K_none, wA_ref, wA_null, isNull_null, isNull_ref, c_int, c_long, c_ref, c_null, c_float, catS_nil, catS_cons, fit_int, fit_bool, fit_long, isO_mk, len_mk, fld_mk, gI_mk, gI0_mk, gZ_mk, gR_mk, isI_mk, isR_mk, tag_mk, lenE_mk, datR_mk, isOs, lenOs, fldS, lenS, gIs, gI0s, gZs, gRs, isIs, isRs, tagS, datRs, mkv, refV, fkS, isArr, tagOk, datI_mk, wrI_mk, wrA_mk, wrF_mk, wrJ_mk, List.length_cons, List.length_nil, List.getElem?_cons_zero, List.getElem?_cons_succ, List.getElem?_nil, ↓reduceIte, Nat.reduceAdd, Nat.reduceMul, Nat.reduceSub, Nat.reduceDiv, Nat.reduceMod, Nat.reduceLT, Nat.reduceLeDiff, Nat.reduceBEq, Nat.reduceEqDiff, Nat.zero_lt_succ, beq_self_eq_true, Bool.true_and, Bool.and_true, Bool.or_true, Bool.true_or, Bool.or_false, Bool.false_or, Bool.false_and, Bool.and_false, Bool.not_true, Bool.not_false, Bool.false_eq_true, Bool.true_eq_false, Bool.and_eq_true, Bool.or_eq_true, Bool.not_eq_true', decide_eq_true_eq, decide_eq_false_iff_not, decide_true, decide_false, and_self, true_and, and_true, or_true, true_or, or_false, false_or, and_false, false_and, or_self, reduceCtorEq, not_true_eq_false, not_false_eq_true, if_true, if_false, Int32.reduceAdd, Int32.reduceSub, Int32.reduceMul, Int32.reduceDiv, Int32.reduceMod, Int32.reduceLT, Int32.reduceLE, eqF1, eqF2, Int32.reduceOfNat, Int32.reduceOfInt, Int32.reduceToNatClampNeg, inb_lit, e_L_law_1059, e_L_law_1060, e_L_law_1061, e_L_law_1062, e_L_law_1063, e_L_law_1064, e_L_law_1065, e_L_law_1066, e_L_law_1067, e_L_law_1068, e_L_law_1069, e_L_law_1070, e_L_law_1073, e_L_law_1074, e_L_law_1075, e_L_law_1076, e_L_law_1077, e_L_law_1078, e_L_law_1079, e_L_law_1080, e_L_law_1081, e_L_law_1082, e_L_law_1083, e_L_law_1084, e_L_law_1087, lz_sh0, lz_dat, sh_1, sh_77, sh_2, sh_3, sh_4, sh_7, sh_8, sh_9, sh_10, sh_11, sh_12, sh_13, sh_29, sh_35, sh_50, sh_53, sh_54, sh_55, sh_56, sh_78, sh_79, sh_80, sh_81, sh_82, sh_83, sh_84, sh_85, sh_86, sh_88, a1, b1, d1, a2, b2, d2, e1, c1, c2]
theorem lz_duel (hI : Inv I J) (hN : N ≤ 3072) (hi : i + 6 ≤ N) : LC N i I J 1092 := by
  obtain ⟨v, I1, J1, I2, J2, c1, c2, hI2, e0⟩ := (ag_duel hI : Agr N I J iX9_duel iX10_duel [.int (I 0 (i + 1))])
  have e1 := C_keep c1
  obtain ⟨w, hw⟩ := (C_rk c1).1 (by decide +kernel)
  cases hw
  obtain ⟨a1, b1, d1⟩ := sc_in (k := 1) hN hi (by omega)
  rw [show Int32.ofNat 1 = 1 from rfl] at a1
  refine ⟨I2, J2, ?_, hI2, e0⟩
  simp only [K_some, K_void, K_none, wA_ref, wA_null, isNull_null, isNull_ref, c_int, c_long, c_ref, c_null, c_float, catS_nil, catS_cons, fit_int, fit_bool, fit_long, isO_mk, len_mk, fld_mk, gI_mk, gI0_mk, gZ_mk, gR_mk, isI_mk, isR_mk, tag_mk, lenE_mk, datR_mk, isOs, lenOs, fldS, lenS, gIs, gI0s, gZs, gRs, isIs, isRs, tagS, datRs, mkv, refV, fkS, isArr, tagOk, datI_mk, wrI_mk, wrA_mk, wrF_mk, wrJ_mk, List.length_cons, List.length_nil, List.getElem?_cons_zero, List.getElem?_cons_succ, List.getElem?_nil, ↓reduceIte, Nat.reduceAdd, Nat.reduceMul, Nat.reduceSub, Nat.reduceDiv, Nat.reduceMod, Nat.reduceLT, Nat.reduceLeDiff, Nat.reduceBEq, Nat.reduceEqDiff, Nat.zero_lt_succ, beq_self_eq_true, Bool.true_and, Bool.and_true, Bool.or_true, Bool.true_or, Bool.or_false, Bool.false_or, Bool.false_and, Bool.and_false, Bool.not_true, Bool.not_false, Bool.false_eq_true, Bool.true_eq_false, Bool.and_eq_true, Bool.or_eq_true, Bool.not_eq_true', decide_eq_true_eq, decide_eq_false_iff_not, decide_true, decide_false, and_self, true_and, and_true, or_true, true_or, or_false, false_or, and_false, false_and, or_self, reduceCtorEq, not_true_eq_false, not_false_eq_true, if_true, if_false, Int32.reduceAdd, Int32.reduceSub, Int32.reduceMul, Int32.reduceDiv, Int32.reduceMod, Int32.reduceLT, Int32.reduceLE, eqF1, eqF2, Int32.reduceOfNat, Int32.reduceOfInt, Int32.reduceToNatClampNeg, inb_lit, e_L_law_1092, e_L_law_1093, e_L_law_1094, e_L_law_1095, e_L_law_1096, e_L_law_1097, e_L_law_1098, e_L_law_1101, e_L_law_1102, e_L_law_1103, e_L_law_1104, e_L_law_1105, e_L_law_1106, e_L_law_1107, e_L_law_1110, lz_sh0, lz_dat, sh_1, sh_77, sh_2, sh_3, sh_4, sh_7, sh_8, sh_9, sh_10, sh_11, sh_12, sh_13, sh_29, sh_35, sh_50, sh_53, sh_54, sh_55, sh_56, sh_78, sh_79, sh_80, sh_81, sh_82, sh_83, sh_84, sh_85, sh_86, sh_88, a1, b1, d1, e1, c1, c2]
theorem lz_odds (hI : Inv I J) (hN : N ≤ 3072) (hi : i + 6 ≤ N) : LC N i I J 1115 := by
  obtain ⟨v, I1, J1, I2, J2, c1, c2, hI2, e0⟩ := (ag_odds hI : Agr N I J iX9_odds iX10_odds [.int (I 0 (i + 1)), .int (I 0 (i + 2)), .int (I 0 (i + 3))])
  have e1 := C_keep c1
  obtain ⟨w, hw⟩ := (C_rk c1).1 (by decide +kernel)
  cases hw
  obtain ⟨a1, b1, d1⟩ := sc_in (k := 1) hN hi (by omega)
  rw [show Int32.ofNat 1 = 1 from rfl] at a1
  obtain ⟨a2, b2, d2⟩ := sc_in (k := 2) hN hi (by omega)
  rw [show Int32.ofNat 2 = 2 from rfl] at a2
  obtain ⟨a3, b3, d3⟩ := sc_in (k := 3) hN hi (by omega)
  rw [show Int32.ofNat 3 = 3 from rfl] at a3
  refine ⟨I2, J2, ?_, hI2, e0⟩
  simp only [K_some, K_void, K_none, wA_ref, wA_null, isNull_null, isNull_ref, c_int, c_long, c_ref, c_null, c_float, catS_nil, catS_cons, fit_int, fit_bool, fit_long, isO_mk, len_mk, fld_mk, gI_mk, gI0_mk, gZ_mk, gR_mk, isI_mk, isR_mk, tag_mk, lenE_mk, datR_mk, isOs, lenOs, fldS, lenS, gIs, gI0s, gZs, gRs, isIs, isRs, tagS, datRs, mkv, refV, fkS, isArr, tagOk, datI_mk, wrI_mk, wrA_mk, wrF_mk, wrJ_mk, List.length_cons, List.length_nil, List.getElem?_cons_zero, List.getElem?_cons_succ, List.getElem?_nil, ↓reduceIte, Nat.reduceAdd, Nat.reduceMul, Nat.reduceSub, Nat.reduceDiv, Nat.reduceMod, Nat.reduceLT, Nat.reduceLeDiff, Nat.reduceBEq, Nat.reduceEqDiff, Nat.zero_lt_succ, beq_self_eq_true, Bool.true_and, Bool.and_true, Bool.or_true, Bool.true_or, Bool.or_false, Bool.false_or, Bool.false_and, Bool.and_false, Bool.not_true, Bool.not_false, Bool.false_eq_true, Bool.true_eq_false, Bool.and_eq_true, Bool.or_eq_true, Bool.not_eq_true', decide_eq_true_eq, decide_eq_false_iff_not, decide_true, decide_false, and_self, true_and, and_true, or_true, true_or, or_false, false_or, and_false, false_and, or_self, reduceCtorEq, not_true_eq_false, not_false_eq_true, if_true, if_false, Int32.reduceAdd, Int32.reduceSub, Int32.reduceMul, Int32.reduceDiv, Int32.reduceMod, Int32.reduceLT, Int32.reduceLE, eqF1, eqF2, Int32.reduceOfNat, Int32.reduceOfInt, Int32.reduceToNatClampNeg, inb_lit, e_L_law_1115, e_L_law_1116, e_L_law_1117, e_L_law_1118, e_L_law_1119, e_L_law_1120, e_L_law_1121, e_L_law_1122, e_L_law_1123, e_L_law_1124, e_L_law_1125, e_L_law_1126, e_L_law_1127, e_L_law_1128, e_L_law_1129, e_L_law_1130, e_L_law_1131, e_L_law_1134, e_L_law_1135, e_L_law_1136, e_L_law_1137, e_L_law_1138, e_L_law_1139, e_L_law_1140, e_L_law_1141, e_L_law_1142, e_L_law_1143, e_L_law_1144, e_L_law_1145, e_L_law_1146, e_L_law_1147, e_L_law_1148, e_L_law_1149, e_L_law_1150, e_L_law_1153, lz_sh0, lz_dat, sh_1, sh_77, sh_2, sh_3, sh_4, sh_7, sh_8, sh_9, sh_10, sh_11, sh_12, sh_13, sh_29, sh_35, sh_50, sh_53, sh_54, sh_55, sh_56, sh_78, sh_79, sh_80, sh_81, sh_82, sh_83, sh_84, sh_85, sh_86, sh_88, a1, b1, d1, a2, b2, d2, a3, b3, d3, e1, c1, c2]
theorem lz_mid (hI : Inv I J) (hN : N ≤ 3072) (hi : i + 6 ≤ N) : LC N i I J 1158 := by
  obtain ⟨v, I1, J1, I2, J2, c1, c2, hI2, e0⟩ := (ag_mid hI : Agr N I J iX9_mid iX10_mid [.int (I 0 (i + 1)), .int (I 0 (i + 2)), .int (I 0 (i + 3))])
  have e1 := C_keep c1
  obtain ⟨w, hw⟩ := (C_rk c1).1 (by decide +kernel)
  cases hw
  obtain ⟨a1, b1, d1⟩ := sc_in (k := 1) hN hi (by omega)
  rw [show Int32.ofNat 1 = 1 from rfl] at a1
  obtain ⟨a2, b2, d2⟩ := sc_in (k := 2) hN hi (by omega)
  rw [show Int32.ofNat 2 = 2 from rfl] at a2
  obtain ⟨a3, b3, d3⟩ := sc_in (k := 3) hN hi (by omega)
  rw [show Int32.ofNat 3 = 3 from rfl] at a3
  refine ⟨I2, J2, ?_, hI2, e0⟩
  simp only [K_some, K_void, K_none, wA_ref, wA_null, isNull_null, isNull_ref, c_int, c_long, c_ref, c_null, c_float, catS_nil, catS_cons, fit_int, fit_bool, fit_long, isO_mk, len_mk, fld_mk, gI_mk, gI0_mk, gZ_mk, gR_mk, isI_mk, isR_mk, tag_mk, lenE_mk, datR_mk, isOs, lenOs, fldS, lenS, gIs, gI0s, gZs, gRs, isIs, isRs, tagS, datRs, mkv, refV, fkS, isArr, tagOk, datI_mk, wrI_mk, wrA_mk, wrF_mk, wrJ_mk, List.length_cons, List.length_nil, List.getElem?_cons_zero, List.getElem?_cons_succ, List.getElem?_nil, ↓reduceIte, Nat.reduceAdd, Nat.reduceMul, Nat.reduceSub, Nat.reduceDiv, Nat.reduceMod, Nat.reduceLT, Nat.reduceLeDiff, Nat.reduceBEq, Nat.reduceEqDiff, Nat.zero_lt_succ, beq_self_eq_true, Bool.true_and, Bool.and_true, Bool.or_true, Bool.true_or, Bool.or_false, Bool.false_or, Bool.false_and, Bool.and_false, Bool.not_true, Bool.not_false, Bool.false_eq_true, Bool.true_eq_false, Bool.and_eq_true, Bool.or_eq_true, Bool.not_eq_true', decide_eq_true_eq, decide_eq_false_iff_not, decide_true, decide_false, and_self, true_and, and_true, or_true, true_or, or_false, false_or, and_false, false_and, or_self, reduceCtorEq, not_true_eq_false, not_false_eq_true, if_true, if_false, Int32.reduceAdd, Int32.reduceSub, Int32.reduceMul, Int32.reduceDiv, Int32.reduceMod, Int32.reduceLT, Int32.reduceLE, eqF1, eqF2, Int32.reduceOfNat, Int32.reduceOfInt, Int32.reduceToNatClampNeg, inb_lit, e_L_law_1158, e_L_law_1159, e_L_law_1160, e_L_law_1161, e_L_law_1162, e_L_law_1163, e_L_law_1164, e_L_law_1165, e_L_law_1166, e_L_law_1167, e_L_law_1168, e_L_law_1169, e_L_law_1170, e_L_law_1171, e_L_law_1172, e_L_law_1173, e_L_law_1174, e_L_law_1177, e_L_law_1178, e_L_law_1179, e_L_law_1180, e_L_law_1181, e_L_law_1182, e_L_law_1183, e_L_law_1184, e_L_law_1185, e_L_law_1186, e_L_law_1187, e_L_law_1188, e_L_law_1189, e_L_law_1190, e_L_law_1191, e_L_law_1192, e_L_law_1193, e_L_law_1196, lz_sh0, lz_dat, sh_1, sh_77, sh_2, sh_3, sh_4, sh_7, sh_8, sh_9, sh_10, sh_11, sh_12, sh_13, sh_29, sh_35, sh_50, sh_53, sh_54, sh_55, sh_56, sh_78, sh_79, sh_80, sh_81, sh_82, sh_83, sh_84, sh_85, sh_86, sh_88, a1, b1, d1, a2, b2, d2, a3, b3, d3, e1, c1, c2]
theorem lz_lots (hI : Inv I J) (hN : N ≤ 3072) (hi : i + 6 ≤ N) : LC N i I J 1201 := by
  obtain ⟨v, I1, J1, I2, J2, c1, c2, hI2, e0⟩ := (ag_lots hI : Agr N I J iX9_lots iX10_lots [.int (I 0 (i + 1)), .int (I 0 (i + 2))])
  have e1 := C_keep c1
  obtain ⟨w, hw⟩ := (C_rk c1).1 (by decide +kernel)
  cases hw
  obtain ⟨a1, b1, d1⟩ := sc_in (k := 1) hN hi (by omega)
  rw [show Int32.ofNat 1 = 1 from rfl] at a1
  obtain ⟨a2, b2, d2⟩ := sc_in (k := 2) hN hi (by omega)
  rw [show Int32.ofNat 2 = 2 from rfl] at a2
  refine ⟨I2, J2, ?_, hI2, e0⟩
  simp only [K_some, K_void, K_none, wA_ref, wA_null, isNull_null, isNull_ref, c_int, c_long, c_ref, c_null, c_float, catS_nil, catS_cons, fit_int, fit_bool, fit_long, isO_mk, len_mk, fld_mk, gI_mk, gI0_mk, gZ_mk, gR_mk, isI_mk, isR_mk, tag_mk, lenE_mk, datR_mk, isOs, lenOs, fldS, lenS, gIs, gI0s, gZs, gRs, isIs, isRs, tagS, datRs, mkv, refV, fkS, isArr, tagOk, datI_mk, wrI_mk, wrA_mk, wrF_mk, wrJ_mk, List.length_cons, List.length_nil, List.getElem?_cons_zero, List.getElem?_cons_succ, List.getElem?_nil, ↓reduceIte, Nat.reduceAdd, Nat.reduceMul, Nat.reduceSub, Nat.reduceDiv, Nat.reduceMod, Nat.reduceLT, Nat.reduceLeDiff, Nat.reduceBEq, Nat.reduceEqDiff, Nat.zero_lt_succ, beq_self_eq_true, Bool.true_and, Bool.and_true, Bool.or_true, Bool.true_or, Bool.or_false, Bool.false_or, Bool.false_and, Bool.and_false, Bool.not_true, Bool.not_false, Bool.false_eq_true, Bool.true_eq_false, Bool.and_eq_true, Bool.or_eq_true, Bool.not_eq_true', decide_eq_true_eq, decide_eq_false_iff_not, decide_true, decide_false, and_self, true_and, and_true, or_true, true_or, or_false, false_or, and_false, false_and, or_self, reduceCtorEq, not_true_eq_false, not_false_eq_true, if_true, if_false, Int32.reduceAdd, Int32.reduceSub, Int32.reduceMul, Int32.reduceDiv, Int32.reduceMod, Int32.reduceLT, Int32.reduceLE, eqF1, eqF2, Int32.reduceOfNat, Int32.reduceOfInt, Int32.reduceToNatClampNeg, inb_lit, e_L_law_1201, e_L_law_1202, e_L_law_1203, e_L_law_1204, e_L_law_1205, e_L_law_1206, e_L_law_1207, e_L_law_1208, e_L_law_1209, e_L_law_1210, e_L_law_1211, e_L_law_1212, e_L_law_1215, e_L_law_1216, e_L_law_1217, e_L_law_1218, e_L_law_1219, e_L_law_1220, e_L_law_1221, e_L_law_1222, e_L_law_1223, e_L_law_1224, e_L_law_1225, e_L_law_1226, e_L_law_1229, lz_sh0, lz_dat, sh_1, sh_77, sh_2, sh_3, sh_4, sh_7, sh_8, sh_9, sh_10, sh_11, sh_12, sh_13, sh_29, sh_35, sh_50, sh_53, sh_54, sh_55, sh_56, sh_78, sh_79, sh_80, sh_81, sh_82, sh_83, sh_84, sh_85, sh_86, sh_88, a1, b1, d1, a2, b2, d2, e1, c1, c2]
theorem lz_asked (hI : Inv I J) (hN : N ≤ 3072) (hi : i + 6 ≤ N) : LC N i I J 1234 := by
  obtain ⟨v, I1, J1, I2, J2, c1, c2, hI2, e0⟩ := (ag_asked hI : Agr N I J iX9_asked iX10_asked [])
  have e1 := C_keep c1
  obtain ⟨w, hw⟩ := (C_rk c1).1 (by decide +kernel)
  cases hw
  refine ⟨I2, J2, ?_, hI2, e0⟩
  simp only [K_some, K_void, K_none, wA_ref, wA_null, isNull_null, isNull_ref, c_int, c_long, c_ref, c_null, c_float, catS_nil, catS_cons, fit_int, fit_bool, fit_long, isO_mk, len_mk, fld_mk, gI_mk, gI0_mk, gZ_mk, gR_mk, isI_mk, isR_mk, tag_mk, lenE_mk, datR_mk, isOs, lenOs, fldS, lenS, gIs, gI0s, gZs, gRs, isIs, isRs, tagS, datRs, mkv, refV, fkS, isArr, tagOk, datI_mk, wrI_mk, wrA_mk, wrF_mk, wrJ_mk, List.length_cons, List.length_nil, List.getElem?_cons_zero, List.getElem?_cons_succ, List.getElem?_nil, ↓reduceIte, Nat.reduceAdd, Nat.reduceMul, Nat.reduceSub, Nat.reduceDiv, Nat.reduceMod, Nat.reduceLT, Nat.reduceLeDiff, Nat.reduceBEq, Nat.reduceEqDiff, Nat.zero_lt_succ, beq_self_eq_true, Bool.true_and, Bool.and_true, Bool.or_true, Bool.true_or, Bool.or_false, Bool.false_or, Bool.false_and, Bool.and_false, Bool.not_true, Bool.not_false, Bool.false_eq_true, Bool.true_eq_false, Bool.and_eq_true, Bool.or_eq_true, Bool.not_eq_true', decide_eq_true_eq, decide_eq_false_iff_not, decide_true, decide_false, and_self, true_and, and_true, or_true, true_or, or_false, false_or, and_false, false_and, or_self, reduceCtorEq, not_true_eq_false, not_false_eq_true, if_true, if_false, Int32.reduceAdd, Int32.reduceSub, Int32.reduceMul, Int32.reduceDiv, Int32.reduceMod, Int32.reduceLT, Int32.reduceLE, eqF1, eqF2, Int32.reduceOfNat, Int32.reduceOfInt, Int32.reduceToNatClampNeg, inb_lit, e_L_law_1234, e_L_law_1235, e_L_law_1238, e_L_law_1239, e_L_law_1242, lz_sh0, lz_dat, sh_1, sh_77, sh_2, sh_3, sh_4, sh_7, sh_8, sh_9, sh_10, sh_11, sh_12, sh_13, sh_29, sh_35, sh_50, sh_53, sh_54, sh_55, sh_56, sh_78, sh_79, sh_80, sh_81, sh_82, sh_83, sh_84, sh_85, sh_86, sh_88, e1, c1, c2]
theorem lz_upper (hI : Inv I J) (hN : N ≤ 3072) (hi : i + 6 ≤ N) : LC N i I J 1247 := by
  obtain ⟨v, I1, J1, I2, J2, c1, c2, hI2, e0⟩ := (ag_upper hI : Agr N I J iX9_upper iX10_upper [])
  have e1 := C_keep c1
  obtain ⟨w, hw⟩ := (C_rk c1).2 (by decide +kernel)
  cases hw
  refine ⟨I2, J2, ?_, hI2, e0⟩
  simp only [K_some, K_void, K_none, wA_ref, wA_null, isNull_null, isNull_ref, c_int, c_long, c_ref, c_null, c_float, catS_nil, catS_cons, fit_int, fit_bool, fit_long, isO_mk, len_mk, fld_mk, gI_mk, gI0_mk, gZ_mk, gR_mk, isI_mk, isR_mk, tag_mk, lenE_mk, datR_mk, isOs, lenOs, fldS, lenS, gIs, gI0s, gZs, gRs, isIs, isRs, tagS, datRs, mkv, refV, fkS, isArr, tagOk, datI_mk, wrI_mk, wrA_mk, wrF_mk, wrJ_mk, List.length_cons, List.length_nil, List.getElem?_cons_zero, List.getElem?_cons_succ, List.getElem?_nil, ↓reduceIte, Nat.reduceAdd, Nat.reduceMul, Nat.reduceSub, Nat.reduceDiv, Nat.reduceMod, Nat.reduceLT, Nat.reduceLeDiff, Nat.reduceBEq, Nat.reduceEqDiff, Nat.zero_lt_succ, beq_self_eq_true, Bool.true_and, Bool.and_true, Bool.or_true, Bool.true_or, Bool.or_false, Bool.false_or, Bool.false_and, Bool.and_false, Bool.not_true, Bool.not_false, Bool.false_eq_true, Bool.true_eq_false, Bool.and_eq_true, Bool.or_eq_true, Bool.not_eq_true', decide_eq_true_eq, decide_eq_false_iff_not, decide_true, decide_false, and_self, true_and, and_true, or_true, true_or, or_false, false_or, and_false, false_and, or_self, reduceCtorEq, not_true_eq_false, not_false_eq_true, if_true, if_false, Int32.reduceAdd, Int32.reduceSub, Int32.reduceMul, Int32.reduceDiv, Int32.reduceMod, Int32.reduceLT, Int32.reduceLE, eqF1, eqF2, Int32.reduceOfNat, Int32.reduceOfInt, Int32.reduceToNatClampNeg, inb_lit, e_L_law_1247, e_L_law_1248, e_L_law_1251, e_L_law_1252, e_L_law_1255, e_L_law_1256, lz_sh0, lz_dat, sh_1, sh_77, sh_2, sh_3, sh_4, sh_7, sh_8, sh_9, sh_10, sh_11, sh_12, sh_13, sh_29, sh_35, sh_50, sh_53, sh_54, sh_55, sh_56, sh_78, sh_79, sh_80, sh_81, sh_82, sh_83, sh_84, sh_85, sh_86, sh_88, e1, c1, c2, cmp_self]
theorem lz_lower (hI : Inv I J) (hN : N ≤ 3072) (hi : i + 6 ≤ N) : LC N i I J 1261 := by
  obtain ⟨v, I1, J1, I2, J2, c1, c2, hI2, e0⟩ := (ag_lower hI : Agr N I J iX9_lower iX10_lower [])
  have e1 := C_keep c1
  obtain ⟨w, hw⟩ := (C_rk c1).2 (by decide +kernel)
  cases hw
  refine ⟨I2, J2, ?_, hI2, e0⟩
  simp only [K_some, K_void, K_none, wA_ref, wA_null, isNull_null, isNull_ref, c_int, c_long, c_ref, c_null, c_float, catS_nil, catS_cons, fit_int, fit_bool, fit_long, isO_mk, len_mk, fld_mk, gI_mk, gI0_mk, gZ_mk, gR_mk, isI_mk, isR_mk, tag_mk, lenE_mk, datR_mk, isOs, lenOs, fldS, lenS, gIs, gI0s, gZs, gRs, isIs, isRs, tagS, datRs, mkv, refV, fkS, isArr, tagOk, datI_mk, wrI_mk, wrA_mk, wrF_mk, wrJ_mk, List.length_cons, List.length_nil, List.getElem?_cons_zero, List.getElem?_cons_succ, List.getElem?_nil, ↓reduceIte, Nat.reduceAdd, Nat.reduceMul, Nat.reduceSub, Nat.reduceDiv, Nat.reduceMod, Nat.reduceLT, Nat.reduceLeDiff, Nat.reduceBEq, Nat.reduceEqDiff, Nat.zero_lt_succ, beq_self_eq_true, Bool.true_and, Bool.and_true, Bool.or_true, Bool.true_or, Bool.or_false, Bool.false_or, Bool.false_and, Bool.and_false, Bool.not_true, Bool.not_false, Bool.false_eq_true, Bool.true_eq_false, Bool.and_eq_true, Bool.or_eq_true, Bool.not_eq_true', decide_eq_true_eq, decide_eq_false_iff_not, decide_true, decide_false, and_self, true_and, and_true, or_true, true_or, or_false, false_or, and_false, false_and, or_self, reduceCtorEq, not_true_eq_false, not_false_eq_true, if_true, if_false, Int32.reduceAdd, Int32.reduceSub, Int32.reduceMul, Int32.reduceDiv, Int32.reduceMod, Int32.reduceLT, Int32.reduceLE, eqF1, eqF2, Int32.reduceOfNat, Int32.reduceOfInt, Int32.reduceToNatClampNeg, inb_lit, e_L_law_1261, e_L_law_1262, e_L_law_1265, e_L_law_1266, e_L_law_1269, e_L_law_1270, lz_sh0, lz_dat, sh_1, sh_77, sh_2, sh_3, sh_4, sh_7, sh_8, sh_9, sh_10, sh_11, sh_12, sh_13, sh_29, sh_35, sh_50, sh_53, sh_54, sh_55, sh_56, sh_78, sh_79, sh_80, sh_81, sh_82, sh_83, sh_84, sh_85, sh_86, sh_88, e1, c1, c2, cmp_self]
theorem lz_count (hI : Inv I J) (hN : N ≤ 3072) (hi : i + 6 ≤ N) : LC N i I J 1275 := by
  obtain ⟨v, I1, J1, I2, J2, c1, c2, hI2, e0⟩ := (ag_count hI : Agr N I J iX9_count iX10_count [.int (I 0 (i + 1))])
  have e1 := C_keep c1
  obtain ⟨w, hw⟩ := (C_rk c1).1 (by decide +kernel)
  cases hw
  obtain ⟨a1, b1, d1⟩ := sc_in (k := 1) hN hi (by omega)
  rw [show Int32.ofNat 1 = 1 from rfl] at a1
  refine ⟨I2, J2, ?_, hI2, e0⟩
  simp only [K_some, K_void, K_none, wA_ref, wA_null, isNull_null, isNull_ref, c_int, c_long, c_ref, c_null, c_float, catS_nil, catS_cons, fit_int, fit_bool, fit_long, isO_mk, len_mk, fld_mk, gI_mk, gI0_mk, gZ_mk, gR_mk, isI_mk, isR_mk, tag_mk, lenE_mk, datR_mk, isOs, lenOs, fldS, lenS, gIs, gI0s, gZs, gRs, isIs, isRs, tagS, datRs, mkv, refV, fkS, isArr, tagOk, datI_mk, wrI_mk, wrA_mk, wrF_mk, wrJ_mk, List.length_cons, List.length_nil, List.getElem?_cons_zero, List.getElem?_cons_succ, List.getElem?_nil, ↓reduceIte, Nat.reduceAdd, Nat.reduceMul, Nat.reduceSub, Nat.reduceDiv, Nat.reduceMod, Nat.reduceLT, Nat.reduceLeDiff, Nat.reduceBEq, Nat.reduceEqDiff, Nat.zero_lt_succ, beq_self_eq_true, Bool.true_and, Bool.and_true, Bool.or_true, Bool.true_or, Bool.or_false, Bool.false_or, Bool.false_and, Bool.and_false, Bool.not_true, Bool.not_false, Bool.false_eq_true, Bool.true_eq_false, Bool.and_eq_true, Bool.or_eq_true, Bool.not_eq_true', decide_eq_true_eq, decide_eq_false_iff_not, decide_true, decide_false, and_self, true_and, and_true, or_true, true_or, or_false, false_or, and_false, false_and, or_self, reduceCtorEq, not_true_eq_false, not_false_eq_true, if_true, if_false, Int32.reduceAdd, Int32.reduceSub, Int32.reduceMul, Int32.reduceDiv, Int32.reduceMod, Int32.reduceLT, Int32.reduceLE, eqF1, eqF2, Int32.reduceOfNat, Int32.reduceOfInt, Int32.reduceToNatClampNeg, inb_lit, e_L_law_1275, e_L_law_1276, e_L_law_1277, e_L_law_1278, e_L_law_1279, e_L_law_1280, e_L_law_1281, e_L_law_1284, e_L_law_1285, e_L_law_1286, e_L_law_1287, e_L_law_1288, e_L_law_1289, e_L_law_1290, e_L_law_1293, lz_sh0, lz_dat, sh_1, sh_77, sh_2, sh_3, sh_4, sh_7, sh_8, sh_9, sh_10, sh_11, sh_12, sh_13, sh_29, sh_35, sh_50, sh_53, sh_54, sh_55, sh_56, sh_78, sh_79, sh_80, sh_81, sh_82, sh_83, sh_84, sh_85, sh_86, sh_88, a1, b1, d1, e1, c1, c2]
theorem lz_finding (hI : Inv I J) (hN : N ≤ 3072) (hi : i + 6 ≤ N) : LC N i I J 1298 := by
  obtain ⟨v, I1, J1, I2, J2, c1, c2, hI2, e0⟩ := (ag_finding hI : Agr N I J iX9_finding iX10_finding [])
  have e1 := C_keep c1
  obtain ⟨w, hw⟩ := (C_rk c1).1 (by decide +kernel)
  cases hw
  refine ⟨I2, J2, ?_, hI2, e0⟩
  simp only [K_some, K_void, K_none, wA_ref, wA_null, isNull_null, isNull_ref, c_int, c_long, c_ref, c_null, c_float, catS_nil, catS_cons, fit_int, fit_bool, fit_long, isO_mk, len_mk, fld_mk, gI_mk, gI0_mk, gZ_mk, gR_mk, isI_mk, isR_mk, tag_mk, lenE_mk, datR_mk, isOs, lenOs, fldS, lenS, gIs, gI0s, gZs, gRs, isIs, isRs, tagS, datRs, mkv, refV, fkS, isArr, tagOk, datI_mk, wrI_mk, wrA_mk, wrF_mk, wrJ_mk, List.length_cons, List.length_nil, List.getElem?_cons_zero, List.getElem?_cons_succ, List.getElem?_nil, ↓reduceIte, Nat.reduceAdd, Nat.reduceMul, Nat.reduceSub, Nat.reduceDiv, Nat.reduceMod, Nat.reduceLT, Nat.reduceLeDiff, Nat.reduceBEq, Nat.reduceEqDiff, Nat.zero_lt_succ, beq_self_eq_true, Bool.true_and, Bool.and_true, Bool.or_true, Bool.true_or, Bool.or_false, Bool.false_or, Bool.false_and, Bool.and_false, Bool.not_true, Bool.not_false, Bool.false_eq_true, Bool.true_eq_false, Bool.and_eq_true, Bool.or_eq_true, Bool.not_eq_true', decide_eq_true_eq, decide_eq_false_iff_not, decide_true, decide_false, and_self, true_and, and_true, or_true, true_or, or_false, false_or, and_false, false_and, or_self, reduceCtorEq, not_true_eq_false, not_false_eq_true, if_true, if_false, Int32.reduceAdd, Int32.reduceSub, Int32.reduceMul, Int32.reduceDiv, Int32.reduceMod, Int32.reduceLT, Int32.reduceLE, eqF1, eqF2, Int32.reduceOfNat, Int32.reduceOfInt, Int32.reduceToNatClampNeg, inb_lit, e_L_law_1298, e_L_law_1299, e_L_law_1302, e_L_law_1303, e_L_law_1306, lz_sh0, lz_dat, sh_1, sh_77, sh_2, sh_3, sh_4, sh_7, sh_8, sh_9, sh_10, sh_11, sh_12, sh_13, sh_29, sh_35, sh_50, sh_53, sh_54, sh_55, sh_56, sh_78, sh_79, sh_80, sh_81, sh_82, sh_83, sh_84, sh_85, sh_86, sh_88, e1, c1, c2]
theorem lz_findings (hI : Inv I J) (hN : N ≤ 3072) (hi : i + 6 ≤ N) : LC N i I J 1311 := by
  obtain ⟨v, I1, J1, I2, J2, c1, c2, hI2, e0⟩ := (ag_findings hI : Agr N I J iX9_findings iX10_findings [.int (I 0 (i + 1))])
  have e1 := C_keep c1
  obtain ⟨w, hw⟩ := (C_rk c1).1 (by decide +kernel)
  cases hw
  obtain ⟨a1, b1, d1⟩ := sc_in (k := 1) hN hi (by omega)
  rw [show Int32.ofNat 1 = 1 from rfl] at a1
  refine ⟨I2, J2, ?_, hI2, e0⟩
  simp only [K_some, K_void, K_none, wA_ref, wA_null, isNull_null, isNull_ref, c_int, c_long, c_ref, c_null, c_float, catS_nil, catS_cons, fit_int, fit_bool, fit_long, isO_mk, len_mk, fld_mk, gI_mk, gI0_mk, gZ_mk, gR_mk, isI_mk, isR_mk, tag_mk, lenE_mk, datR_mk, isOs, lenOs, fldS, lenS, gIs, gI0s, gZs, gRs, isIs, isRs, tagS, datRs, mkv, refV, fkS, isArr, tagOk, datI_mk, wrI_mk, wrA_mk, wrF_mk, wrJ_mk, List.length_cons, List.length_nil, List.getElem?_cons_zero, List.getElem?_cons_succ, List.getElem?_nil, ↓reduceIte, Nat.reduceAdd, Nat.reduceMul, Nat.reduceSub, Nat.reduceDiv, Nat.reduceMod, Nat.reduceLT, Nat.reduceLeDiff, Nat.reduceBEq, Nat.reduceEqDiff, Nat.zero_lt_succ, beq_self_eq_true, Bool.true_and, Bool.and_true, Bool.or_true, Bool.true_or, Bool.or_false, Bool.false_or, Bool.false_and, Bool.and_false, Bool.not_true, Bool.not_false, Bool.false_eq_true, Bool.true_eq_false, Bool.and_eq_true, Bool.or_eq_true, Bool.not_eq_true', decide_eq_true_eq, decide_eq_false_iff_not, decide_true, decide_false, and_self, true_and, and_true, or_true, true_or, or_false, false_or, and_false, false_and, or_self, reduceCtorEq, not_true_eq_false, not_false_eq_true, if_true, if_false, Int32.reduceAdd, Int32.reduceSub, Int32.reduceMul, Int32.reduceDiv, Int32.reduceMod, Int32.reduceLT, Int32.reduceLE, eqF1, eqF2, Int32.reduceOfNat, Int32.reduceOfInt, Int32.reduceToNatClampNeg, inb_lit, e_L_law_1311, e_L_law_1312, e_L_law_1313, e_L_law_1314, e_L_law_1315, e_L_law_1316, e_L_law_1317, e_L_law_1320, e_L_law_1321, e_L_law_1322, e_L_law_1323, e_L_law_1324, e_L_law_1325, e_L_law_1326, e_L_law_1329, lz_sh0, lz_dat, sh_1, sh_77, sh_2, sh_3, sh_4, sh_7, sh_8, sh_9, sh_10, sh_11, sh_12, sh_13, sh_29, sh_35, sh_50, sh_53, sh_54, sh_55, sh_56, sh_78, sh_79, sh_80, sh_81, sh_82, sh_83, sh_84, sh_85, sh_86, sh_88, a1, b1, d1, e1, c1, c2]
theorem lz_digest (hI : Inv I J) (hN : N ≤ 3072) (hi : i + 6 ≤ N) : LC N i I J 1334 := by
  obtain ⟨v, I1, J1, I2, J2, c1, c2, hI2, e0⟩ := (ag_digest hI : Agr N I J iX9_digest iX10_digest [])
  have e1 := C_keep c1
  obtain ⟨w, hw⟩ := (C_rk c1).2 (by decide +kernel)
  cases hw
  refine ⟨I2, J2, ?_, hI2, e0⟩
  simp only [K_some, K_void, K_none, wA_ref, wA_null, isNull_null, isNull_ref, c_int, c_long, c_ref, c_null, c_float, catS_nil, catS_cons, fit_int, fit_bool, fit_long, isO_mk, len_mk, fld_mk, gI_mk, gI0_mk, gZ_mk, gR_mk, isI_mk, isR_mk, tag_mk, lenE_mk, datR_mk, isOs, lenOs, fldS, lenS, gIs, gI0s, gZs, gRs, isIs, isRs, tagS, datRs, mkv, refV, fkS, isArr, tagOk, datI_mk, wrI_mk, wrA_mk, wrF_mk, wrJ_mk, List.length_cons, List.length_nil, List.getElem?_cons_zero, List.getElem?_cons_succ, List.getElem?_nil, ↓reduceIte, Nat.reduceAdd, Nat.reduceMul, Nat.reduceSub, Nat.reduceDiv, Nat.reduceMod, Nat.reduceLT, Nat.reduceLeDiff, Nat.reduceBEq, Nat.reduceEqDiff, Nat.zero_lt_succ, beq_self_eq_true, Bool.true_and, Bool.and_true, Bool.or_true, Bool.true_or, Bool.or_false, Bool.false_or, Bool.false_and, Bool.and_false, Bool.not_true, Bool.not_false, Bool.false_eq_true, Bool.true_eq_false, Bool.and_eq_true, Bool.or_eq_true, Bool.not_eq_true', decide_eq_true_eq, decide_eq_false_iff_not, decide_true, decide_false, and_self, true_and, and_true, or_true, true_or, or_false, false_or, and_false, false_and, or_self, reduceCtorEq, not_true_eq_false, not_false_eq_true, if_true, if_false, Int32.reduceAdd, Int32.reduceSub, Int32.reduceMul, Int32.reduceDiv, Int32.reduceMod, Int32.reduceLT, Int32.reduceLE, eqF1, eqF2, Int32.reduceOfNat, Int32.reduceOfInt, Int32.reduceToNatClampNeg, inb_lit, e_L_law_1334, e_L_law_1335, e_L_law_1338, e_L_law_1339, e_L_law_1342, e_L_law_1343, lz_sh0, lz_dat, sh_1, sh_77, sh_2, sh_3, sh_4, sh_7, sh_8, sh_9, sh_10, sh_11, sh_12, sh_13, sh_29, sh_35, sh_50, sh_53, sh_54, sh_55, sh_56, sh_78, sh_79, sh_80, sh_81, sh_82, sh_83, sh_84, sh_85, sh_86, sh_88, e1, c1, c2, cmp_self]
theorem lz_case (hI : Inv I J) (hN : N ≤ 3072) (hi : i + 6 ≤ N) : LC N i I J (swx κ 1348 sw_L_law_33) := by
  by_cases h0 : κ = 0
  · rw [h0, show swx 0 1348 sw_L_law_33 = 212 by decide +kernel]; exact lz_row hI hN hi
  by_cases h1 : κ = 1
  · rw [h1, show swx 1 1348 sw_L_law_33 = 245 by decide +kernel]; exact lz_lay hI hN hi
  by_cases h2 : κ = 2
  · rw [h2, show swx 2 1348 sw_L_law_33 = 288 by decide +kernel]; exact lz_at hI hN hi
  by_cases h3 : κ = 3
  · rw [h3, show swx 3 1348 sw_L_law_33 = 321 by decide +kernel]; exact lz_tear hI hN hi
  by_cases h4 : κ = 4
  · rw [h4, show swx 4 1348 sw_L_law_33 = 344 by decide +kernel]; exact lz_copy hI hN hi
  by_cases h5 : κ = 5
  · rw [h5, show swx 5 1348 sw_L_law_33 = 407 by decide +kernel]; exact lz_mean hI hN hi
  by_cases h6 : κ = 6
  · rw [h6, show swx 6 1348 sw_L_law_33 = 430 by decide +kernel]; exact lz_text hI hN hi
  by_cases h7 : κ = 7
  · rw [h7, show swx 7 1348 sw_L_law_33 = 463 by decide +kernel]; exact lz_put hI hN hi
  by_cases h8 : κ = 8
  · rw [h8, show swx 8 1348 sw_L_law_33 = 506 by decide +kernel]; exact lz_fault hI hN hi
  by_cases h9 : κ = 9
  · rw [h9, show swx 9 1348 sw_L_law_33 = 529 by decide +kernel]; exact lz_farm hI hN hi
  by_cases h10 : κ = 10
  · rw [h10, show swx 10 1348 sw_L_law_33 = 552 by decide +kernel]; exact lz_wheel hI hN hi
  by_cases h11 : κ = 11
  · rw [h11, show swx 11 1348 sw_L_law_33 = 585 by decide +kernel]; exact lz_mark hI hN hi
  by_cases h12 : κ = 12
  · rw [h12, show swx 12 1348 sw_L_law_33 = 618 by decide +kernel]; exact lz_holds hI hN hi
  by_cases h13 : κ = 13
  · rw [h13, show swx 13 1348 sw_L_law_33 = 651 by decide +kernel]; exact lz_anger hI hN hi
  by_cases h14 : κ = 14
  · rw [h14, show swx 14 1348 sw_L_law_33 = 674 by decide +kernel]; exact lz_day hI hN hi
  by_cases h15 : κ = 15
  · rw [h15, show swx 15 1348 sw_L_law_33 = 687 by decide +kernel]; exact lz_say hI hN hi
  by_cases h16 : κ = 16
  · rw [h16, show swx 16 1348 sw_L_law_33 = 710 by decide +kernel]; exact lz_make hI hN hi
  by_cases h17 : κ = 17
  · rw [h17, show swx 17 1348 sw_L_law_33 = 733 by decide +kernel]; exact lz_sell hI hN hi
  by_cases h18 : κ = 18
  · rw [h18, show swx 18 1348 sw_L_law_33 = 756 by decide +kernel]; exact lz_undo hI hN hi
  by_cases h19 : κ = 19
  · rw [h19, show swx 19 1348 sw_L_law_33 = 779 by decide +kernel]; exact lz_keep hI hN hi
  by_cases h20 : κ = 20
  · rw [h20, show swx 20 1348 sw_L_law_33 = 802 by decide +kernel]; exact lz_on hI hN hi
  by_cases h21 : κ = 21
  · rw [h21, show swx 21 1348 sw_L_law_33 = 825 by decide +kernel]; exact lz_peace hI hN hi
  by_cases h22 : κ = 22
  · rw [h22, show swx 22 1348 sw_L_law_33 = 838 by decide +kernel]; exact lz_plan hI hN hi
  by_cases h23 : κ = 23
  · rw [h23, show swx 23 1348 sw_L_law_33 = 891 by decide +kernel]; exact lz_through hI hN hi
  by_cases h24 : κ = 24
  · rw [h24, show swx 24 1348 sw_L_law_33 = 914 by decide +kernel]; exact lz_about hI hN hi
  by_cases h25 : κ = 25
  · rw [h25, show swx 25 1348 sw_L_law_33 = 937 by decide +kernel]; exact lz_sure hI hN hi
  by_cases h26 : κ = 26
  · rw [h26, show swx 26 1348 sw_L_law_33 = 960 by decide +kernel]; exact lz_salts hI hN hi
  by_cases h27 : κ = 27
  · rw [h27, show swx 27 1348 sw_L_law_33 = 993 by decide +kernel]; exact lz_kinds hI hN hi
  by_cases h28 : κ = 28
  · rw [h28, show swx 28 1348 sw_L_law_33 = 1026 by decide +kernel]; exact lz_test hI hN hi
  by_cases h29 : κ = 29
  · rw [h29, show swx 29 1348 sw_L_law_33 = 1059 by decide +kernel]; exact lz_shows hI hN hi
  by_cases h30 : κ = 30
  · rw [h30, show swx 30 1348 sw_L_law_33 = 1092 by decide +kernel]; exact lz_duel hI hN hi
  by_cases h31 : κ = 31
  · rw [h31, show swx 31 1348 sw_L_law_33 = 1115 by decide +kernel]; exact lz_odds hI hN hi
  by_cases h32 : κ = 32
  · rw [h32, show swx 32 1348 sw_L_law_33 = 1158 by decide +kernel]; exact lz_mid hI hN hi
  by_cases h33 : κ = 33
  · rw [h33, show swx 33 1348 sw_L_law_33 = 1201 by decide +kernel]; exact lz_lots hI hN hi
  by_cases h34 : κ = 34
  · rw [h34, show swx 34 1348 sw_L_law_33 = 1234 by decide +kernel]; exact lz_asked hI hN hi
  by_cases h35 : κ = 35
  · rw [h35, show swx 35 1348 sw_L_law_33 = 1247 by decide +kernel]; exact lz_upper hI hN hi
  by_cases h36 : κ = 36
  · rw [h36, show swx 36 1348 sw_L_law_33 = 1261 by decide +kernel]; exact lz_lower hI hN hi
  by_cases h37 : κ = 37
  · rw [h37, show swx 37 1348 sw_L_law_33 = 1275 by decide +kernel]; exact lz_count hI hN hi
  by_cases h38 : κ = 38
  · rw [h38, show swx 38 1348 sw_L_law_33 = 1298 by decide +kernel]; exact lz_finding hI hN hi
  by_cases h39 : κ = 39
  · rw [h39, show swx 39 1348 sw_L_law_33 = 1311 by decide +kernel]; exact lz_findings hI hN hi
  by_cases h40 : κ = 40
  · rw [h40, show swx 40 1348 sw_L_law_33 = 1334 by decide +kernel]; exact lz_digest hI hN hi
  rw [show swx κ 1348 sw_L_law_33 = 1348 by simp only [sw_L_law_33, swx, h0, h1, h2, h3, h4, h5, h6, h7, h8, h9, h10, h11, h12, h13, h14, h15, h16, h17, h18, h19, h20, h21, h22, h23, h24, h25, h26, h27, h28, h29, h30, h31, h32, h33, h34, h35, h36, h37, h38, h39, h40, if_false, ↓reduceIte]]
  exact ⟨I, J, rfl, hI, rfl⟩
theorem sub6 (hN : N ≤ 3072) (hi : i ≤ N) : (Int32.ofNat N - 6 < Int32.ofNat i) = ¬ i + 6 ≤ N := by
  by_cases h : 6 ≤ N
  · have e : Int32.ofNat N - 6 = Int32.ofNat (N - 6) := by
      rw [show (6 : Int32) = Int32.ofNat 6 from rfl]
      have e2 : Int32.ofNat (N - 6) + Int32.ofNat 6 = Int32.ofNat N := by rw [add_oN]; congr 1; omega
      rw [← e2]; exact Int32.add_sub_cancel _ _
    rw [e]
    exact propext ⟨fun z => by have := (oN_lt (by omega) (by omega)).mp z; omega, fun z => (oN_lt (by omega) (by omega)).mpr (by omega)⟩
  · have hz : (Int32.ofNat N - 6).toInt < 0 := by
      obtain rfl | rfl | rfl | rfl | rfl | rfl : N = 0 ∨ N = 1 ∨ N = 2 ∨ N = 3 ∨ N = 4 ∨ N = 5 := by omega
      all_goals decide
    refine propext ⟨fun _ => by omega, fun _ => ?_⟩
    rw [Int32.lt_iff_toInt_lt, oN_int (by omega)]
    omega
theorem lz_loop (hN : N ≤ 3072) : ∀ (j i : Nat) (I : IT) (J : JT), Inv I J → i ≤ N → N ≤ i + 6 * j → ∃ I' J', R 20 iL_law 18 [.ref 0, .ref 1, .ref 77, .int (Int32.ofNat i)] [] (mk N I J) = some (some (.int 1), mk N I' J') := by
  intro j
  induction j with
  | zero =>
    intro i I J hI hi hj
    have q := sub6 hN hi
    have q2 : ¬ i + 6 ≤ N := by omega
    refine ⟨I, J, ?_⟩
    simp only [K_some, K_void, K_none, wA_ref, wA_null, isNull_null, isNull_ref, c_int, c_long, c_ref, c_null, c_float, catS_nil, catS_cons, fit_int, fit_bool, fit_long, isO_mk, len_mk, fld_mk, gI_mk, gI0_mk, gZ_mk, gR_mk, isI_mk, isR_mk, tag_mk, lenE_mk, datR_mk, isOs, lenOs, fldS, lenS, gIs, gI0s, gZs, gRs, isIs, isRs, tagS, datRs, mkv, refV, fkS, isArr, tagOk, datI_mk, wrI_mk, wrA_mk, wrF_mk, wrJ_mk, List.length_cons, List.length_nil, List.getElem?_cons_zero, List.getElem?_cons_succ, List.getElem?_nil, ↓reduceIte, Nat.reduceAdd, Nat.reduceMul, Nat.reduceSub, Nat.reduceDiv, Nat.reduceMod, Nat.reduceLT, Nat.reduceLeDiff, Nat.reduceBEq, Nat.reduceEqDiff, Nat.zero_lt_succ, beq_self_eq_true, Bool.true_and, Bool.and_true, Bool.or_true, Bool.true_or, Bool.or_false, Bool.false_or, Bool.false_and, Bool.and_false, Bool.not_true, Bool.not_false, Bool.false_eq_true, Bool.true_eq_false, Bool.and_eq_true, Bool.or_eq_true, Bool.not_eq_true', decide_eq_true_eq, decide_eq_false_iff_not, decide_true, decide_false, and_self, true_and, and_true, or_true, true_or, or_false, false_or, and_false, false_and, or_self, reduceCtorEq, not_true_eq_false, not_false_eq_true, if_true, if_false, Int32.reduceAdd, Int32.reduceSub, Int32.reduceMul, Int32.reduceDiv, Int32.reduceMod, Int32.reduceLT, Int32.reduceLE, eqF1, eqF2, Int32.reduceOfNat, Int32.reduceOfInt, Int32.reduceToNatClampNeg, inb_lit, e_L_law_18, e_L_law_19, e_L_law_20, e_L_law_21, e_L_law_23, e_L_law_24, e_L_law_1354, e_L_law_1355, lz_sh0, lz_dat, sh_1, sh_77, sh_2, sh_3, sh_4, sh_7, sh_8, sh_9, sh_10, sh_11, sh_12, sh_13, sh_29, sh_35, sh_50, sh_53, sh_54, sh_55, sh_56, sh_78, sh_79, sh_80, sh_81, sh_82, sh_83, sh_84, sh_85, sh_86, sh_88, q, q2]
  | succ j ih =>
    intro i I J hI hi hj
    have q := sub6 hN hi
    by_cases c : i + 6 ≤ N
    · obtain ⟨b0, d0⟩ : inb (Int32.ofNat i) N = true ∧ (Int32.ofNat i).toNatClampNeg = i := ⟨inb_ofNat (by omega) (by omega), nat_ofNat (by omega)⟩
      obtain ⟨I1, J1, h1, h2, h3⟩ := lz_case (κ := I 0 i &&& 63) hI hN c
      obtain ⟨I', J', hM⟩ := ih (i + 6) I1 J1 h2 (by omega) (by omega)
      refine ⟨I', J', ?_⟩
      have a6 : Int32.ofNat i + 6 = Int32.ofNat (i + 6) := by rw [show (6 : Int32) = Int32.ofNat 6 from rfl, add_oN]
      have go : R 20 iL_law 18 [.ref 0, .ref 1, .ref 77, .int (Int32.ofNat i)] [] (mk N I J) = R 20 iL_law (swx (I 0 i &&& 63) 1348 sw_L_law_33) [.ref 0, .ref 1, .ref 77, .int (Int32.ofNat i)] [] (mk N I J) := by
        rw [e_L_law_18]
        simp only [K_some, K_void, K_none, wA_ref, wA_null, isNull_null, isNull_ref, c_int, c_long, c_ref, c_null, c_float, catS_nil, catS_cons, fit_int, fit_bool, fit_long, isO_mk, len_mk, fld_mk, gI_mk, gI0_mk, gZ_mk, gR_mk, isI_mk, isR_mk, tag_mk, lenE_mk, datR_mk, isOs, lenOs, fldS, lenS, gIs, gI0s, gZs, gRs, isIs, isRs, tagS, datRs, mkv, refV, fkS, isArr, tagOk, datI_mk, wrI_mk, wrA_mk, wrF_mk, wrJ_mk, List.length_cons, List.length_nil, List.getElem?_cons_zero, List.getElem?_cons_succ, List.getElem?_nil, ↓reduceIte, Nat.reduceAdd, Nat.reduceMul, Nat.reduceSub, Nat.reduceDiv, Nat.reduceMod, Nat.reduceLT, Nat.reduceLeDiff, Nat.reduceBEq, Nat.reduceEqDiff, Nat.zero_lt_succ, beq_self_eq_true, Bool.true_and, Bool.and_true, Bool.or_true, Bool.true_or, Bool.or_false, Bool.false_or, Bool.false_and, Bool.and_false, Bool.not_true, Bool.not_false, Bool.false_eq_true, Bool.true_eq_false, Bool.and_eq_true, Bool.or_eq_true, Bool.not_eq_true', decide_eq_true_eq, decide_eq_false_iff_not, decide_true, decide_false, and_self, true_and, and_true, or_true, true_or, or_false, false_or, and_false, false_and, or_self, reduceCtorEq, not_true_eq_false, not_false_eq_true, if_true, if_false, Int32.reduceAdd, Int32.reduceSub, Int32.reduceMul, Int32.reduceDiv, Int32.reduceMod, Int32.reduceLT, Int32.reduceLE, eqF1, eqF2, Int32.reduceOfNat, Int32.reduceOfInt, Int32.reduceToNatClampNeg, inb_lit, e_L_law_19, e_L_law_20, e_L_law_21, e_L_law_23, e_L_law_24, e_L_law_27, e_L_law_28, e_L_law_29, e_L_law_30, e_L_law_32, e_L_law_33, lz_sh0, lz_dat, sh_1, sh_77, sh_2, sh_3, sh_4, sh_7, sh_8, sh_9, sh_10, sh_11, sh_12, sh_13, sh_29, sh_35, sh_50, sh_53, sh_54, sh_55, sh_56, sh_78, sh_79, sh_80, sh_81, sh_82, sh_83, sh_84, sh_85, sh_86, sh_88, q, c, b0, d0]
      rw [go, h1]
      refine Eq.trans ?_ hM
      simp only [K_some, K_void, K_none, wA_ref, wA_null, isNull_null, isNull_ref, c_int, c_long, c_ref, c_null, c_float, catS_nil, catS_cons, fit_int, fit_bool, fit_long, isO_mk, len_mk, fld_mk, gI_mk, gI0_mk, gZ_mk, gR_mk, isI_mk, isR_mk, tag_mk, lenE_mk, datR_mk, isOs, lenOs, fldS, lenS, gIs, gI0s, gZs, gRs, isIs, isRs, tagS, datRs, mkv, refV, fkS, isArr, tagOk, datI_mk, wrI_mk, wrA_mk, wrF_mk, wrJ_mk, List.length_cons, List.length_nil, List.getElem?_cons_zero, List.getElem?_cons_succ, List.getElem?_nil, ↓reduceIte, Nat.reduceAdd, Nat.reduceMul, Nat.reduceSub, Nat.reduceDiv, Nat.reduceMod, Nat.reduceLT, Nat.reduceLeDiff, Nat.reduceBEq, Nat.reduceEqDiff, Nat.zero_lt_succ, beq_self_eq_true, Bool.true_and, Bool.and_true, Bool.or_true, Bool.true_or, Bool.or_false, Bool.false_or, Bool.false_and, Bool.and_false, Bool.not_true, Bool.not_false, Bool.false_eq_true, Bool.true_eq_false, Bool.and_eq_true, Bool.or_eq_true, Bool.not_eq_true', decide_eq_true_eq, decide_eq_false_iff_not, decide_true, decide_false, and_self, true_and, and_true, or_true, true_or, or_false, false_or, and_false, false_and, or_self, reduceCtorEq, not_true_eq_false, not_false_eq_true, if_true, if_false, Int32.reduceAdd, Int32.reduceSub, Int32.reduceMul, Int32.reduceDiv, Int32.reduceMod, Int32.reduceLT, Int32.reduceLE, eqF1, eqF2, Int32.reduceOfNat, Int32.reduceOfInt, Int32.reduceToNatClampNeg, inb_lit, e_L_law_1348, e_L_law_1351, a6]
    · refine ⟨I, J, ?_⟩
      simp only [K_some, K_void, K_none, wA_ref, wA_null, isNull_null, isNull_ref, c_int, c_long, c_ref, c_null, c_float, catS_nil, catS_cons, fit_int, fit_bool, fit_long, isO_mk, len_mk, fld_mk, gI_mk, gI0_mk, gZ_mk, gR_mk, isI_mk, isR_mk, tag_mk, lenE_mk, datR_mk, isOs, lenOs, fldS, lenS, gIs, gI0s, gZs, gRs, isIs, isRs, tagS, datRs, mkv, refV, fkS, isArr, tagOk, datI_mk, wrI_mk, wrA_mk, wrF_mk, wrJ_mk, List.length_cons, List.length_nil, List.getElem?_cons_zero, List.getElem?_cons_succ, List.getElem?_nil, ↓reduceIte, Nat.reduceAdd, Nat.reduceMul, Nat.reduceSub, Nat.reduceDiv, Nat.reduceMod, Nat.reduceLT, Nat.reduceLeDiff, Nat.reduceBEq, Nat.reduceEqDiff, Nat.zero_lt_succ, beq_self_eq_true, Bool.true_and, Bool.and_true, Bool.or_true, Bool.true_or, Bool.or_false, Bool.false_or, Bool.false_and, Bool.and_false, Bool.not_true, Bool.not_false, Bool.false_eq_true, Bool.true_eq_false, Bool.and_eq_true, Bool.or_eq_true, Bool.not_eq_true', decide_eq_true_eq, decide_eq_false_iff_not, decide_true, decide_false, and_self, true_and, and_true, or_true, true_or, or_false, false_or, and_false, false_and, or_self, reduceCtorEq, not_true_eq_false, not_false_eq_true, if_true, if_false, Int32.reduceAdd, Int32.reduceSub, Int32.reduceMul, Int32.reduceDiv, Int32.reduceMod, Int32.reduceLT, Int32.reduceLE, eqF1, eqF2, Int32.reduceOfNat, Int32.reduceOfInt, Int32.reduceToNatClampNeg, inb_lit, e_L_law_18, e_L_law_19, e_L_law_20, e_L_law_21, e_L_law_23, e_L_law_24, e_L_law_1354, e_L_law_1355, lz_sh0, lz_dat, sh_1, sh_77, sh_2, sh_3, sh_4, sh_7, sh_8, sh_9, sh_10, sh_11, sh_12, sh_13, sh_29, sh_35, sh_50, sh_53, sh_54, sh_55, sh_56, sh_78, sh_79, sh_80, sh_81, sh_82, sh_83, sh_84, sh_85, sh_86, sh_88, q, c]
end
