/-! LOTS -/
def lnx (ν : Nat) : Nat := ν * 48271 % 2147483647
def ldee (ν n : Nat) (g : FV) : Nat × Nat := if ν % 3 = 0 then (1, ν / 8 % 4) else if ν % 3 = 1 ∧ g (78 + ν / 8 % n) = -9 then (2, ν / 8 % n) else (0, 0)
def lotD (n : Nat) (f : FV) : Nat → Nat → List (Nat × Nat) → List (Nat × Nat)
  | 0, _, D => D
  | k + 1, ν, D => lotD n f k (lnx ν) (D ++ [ldee (lnx ν) n (runF D f)])
theorem lnx_lt (ν : Nat) : lnx ν < 2147483647 := Nat.mod_lt _ (by omega)
theorem ldee_wf {ν n : Nat} {g : FV} (hn : 0 < n) : wfD n (ldee ν n g) := by
  unfold ldee wfD
  have a := Nat.mod_lt (ν / 8) (show 0 < 4 by omega)
  have b := Nat.mod_lt (ν / 8) hn
  split
  · exact Or.inr (Or.inl ⟨rfl, a⟩)
  · split
    · exact Or.inr (Or.inr ⟨Or.inl rfl, b⟩)
    · exact Or.inl ⟨rfl, rfl⟩
theorem lot_len (n : Nat) (f : FV) : ∀ (k ν : Nat) (D : List (Nat × Nat)), (lotD n f k ν D).length = D.length + k
  | 0, _, _ => rfl
  | k + 1, ν, D => by
    show (lotD n f k _ _).length = _
    rw [lot_len n f k, List.length_append, List.length_singleton]; omega
theorem o64_int {k : Nat} (h : k < 9223372036854775808) : (Int64.ofNat k).toInt = (k : Int) := Int64.toInt_ofNat_of_lt h
theorem o64_mod {j k : Nat} (hj : j < 9223372036854775808) (hk : k < 9223372036854775808) : Int64.ofNat j % Int64.ofNat k = Int64.ofNat (j % k) := by
  apply Int64.toInt_inj.mp
  have : j % k ≤ j := Nat.mod_le _ _
  rw [Int64.toInt_mod, o64_int hj, o64_int hk, o64_int (by omega), Int.ofNat_tmod]
theorem o64_div {j k : Nat} (hj : j < 9223372036854775808) (hk : k < 9223372036854775808) : Int64.ofNat j / Int64.ofNat k = Int64.ofNat (j / k) := by
  apply Int64.toInt_inj.mp
  have : j / k ≤ j := Nat.div_le_self _ _
  rw [Int64.toInt_div_of_ne_right _ _ (by
    intro h; have := congrArg Int64.toInt h; rw [o64_int hk] at this; rw [show (-1 : Int64).toInt = -1 from rfl] at this; omega), o64_int hj, o64_int hk, o64_int (by omega), Int.ofNat_tdiv]
theorem o64_inj {j k : Nat} (hj : j < 9223372036854775808) (hk : k < 9223372036854775808) : (Int64.ofNat j = Int64.ofNat k) = (j = k) := by
  rw [← Int64.toInt_inj, o64_int hj, o64_int hk]
  simp only [eq_iff_iff]; omega
theorem o32_64 {k : Nat} (h : k < 2147483648) : (Int32.ofNat k).toInt64 = Int64.ofNat k := by
  apply Int64.toInt_inj.mp
  rw [Int32.toInt_toInt64, oN_int h, o64_int (by omega)]
theorem o64_32 {k : Nat} : (Int64.ofNat k).toInt32 = Int32.ofNat k := Int64.toInt32_ofNat
theorem lc_eq (x y : Int64) : (lg_cmp x y = 0) = (x = y) := by
  unfold lg_cmp
  by_cases h : x > y
  · rw [if_pos h]; simp only [eq_iff_iff]; constructor
    · intro h; exact absurd h (by decide)
    · intro h2; subst h2; rw [gt_iff_lt, Int64.lt_iff_toInt_lt] at h; omega
  · rw [if_neg h]
    by_cases h2 : x = y
    · rw [if_pos h2]; simp only [eq_iff_iff]; exact ⟨fun _ => h2, fun _ => by decide⟩
    · rw [if_neg h2]; simp only [eq_iff_iff]; exact ⟨fun h => absurd h (by decide), fun h => absurd h h2⟩
theorem l_mod0 : ((2147483647 : Int64) = 0) = False := by decide
theorem l_nx {ν : Nat} (h : ν < 2147483648) : Int64.ofNat ν * 48271 % 2147483647 = Int64.ofNat (lnx ν) := by
  rw [show (48271 : Int64) = Int64.ofNat 48271 from rfl, ← Int64.ofNat_mul, show (2147483647 : Int64) = Int64.ofNat 2147483647 from rfl, o64_mod (by omega) (by omega)]
  rfl
section
variable {d N a b k n m i μ l : Nat} {I : IT} {J : JT} {r s v x y z w : Int32} {M : Mem} {H : Nat → Fin 13} {g f : FV} {D D' : List (Nat × Nat)} {K : Nat → Option (List (Nat × Nat))} {p : Nat × Nat} {I' : IT} {T : IT} {H0 : Nat → Fin 13}
theorem wf_fr (hp : wfD n p) (hL : D.length < 40) (h : okD n D) : okD n (D ++ [p]) := ok_add h hp hL
theorem cl_lot {ν : Nat} (hν : ν < 2147483648) (hn : n ≤ 6) (h0 : 0 < n) (h9 : runF D f 9 = Int32.ofNat n) (hL : D.length < 40) (hC : FC I (runF D f) n) (hD : DC I 10 D) (hH : HH (runF D f) H) : ∃ I1, C (d + 6) iX9_enactLot [.ref 1, .int (Int32.ofNat ν)] (mk N I J) = some (none, mk N I1 J) ∧ FC I1 (runF (D ++ [ldee ν n (runF D f)]) f) n ∧ DC I1 10 (D ++ [ldee ν n (runF D f)]) ∧ ∀ b, fr b → I1 b = I b := by
  have hp := ldee_wf (ν := ν) (g := runF D f) h0
  obtain ⟨I1, c1, c2, c3, c4⟩ := cl_enact (d := d) (N := N) (J := J) hn h9 hp hL hC hD hH
  refine ⟨I1, ?_, c2, c3, c4⟩
  have q8 : Int32.ofNat ν / 8 = Int32.ofNat (ν / 8) := ofNat_div (k := 8) (by omega) (by omega)
  have q3 : Int32.ofNat ν % 3 = Int32.ofNat (ν % 3) := ofNat_mod (k := 3) (by omega) (by omega)
  have q4 : Int32.ofNat (ν / 8) % 4 = Int32.ofNat (ν / 8 % 4) := ofNat_mod (k := 4) (by omega) (by omega)
  have qn : Int32.ofNat (ν / 8) % Int32.ofNat n = Int32.ofNat (ν / 8 % n) := ofNat_mod (by omega) (by omega)
  have n0 : (Int32.ofNat n = 0) = False := oN_ne0 h0 (by omega)
  have np : 0 < Int32.ofNat n := (oN_lt (j := 0) (k := n) (by omega) (by omega)).mpr h0
  have s2 : I 4 6 = Int32.ofNat n := by rw [hC.2.1, h9]
  have m0 : (Int32.ofNat (ν % 3) = 0) = (ν % 3 = 0) := propext (oN_inj (j := ν % 3) (k := 0) (by omega) (by omega))
  have m1 : (Int32.ofNat (ν % 3) = 1) = (ν % 3 = 1) := propext (oN_inj (j := ν % 3) (k := 1) (by omega) (by omega))
  have hin : ν / 8 % n < n := Nat.mod_lt _ h0
  have hi : inb (Int32.ofNat (ν / 8 % n)) n = true := inb_ofNat hin (by omega)
  have e1 : (Int32.ofNat (ν / 8 % n)).toNatClampNeg = ν / 8 % n := nat_ofNat (by omega)
  have w6 : ν / 8 % n < 6 := by omega
  have w3 := (hC.2.2.2.2 _ hin).2.2.2.1
  unfold ldee at c1
  by_cases k0 : ν % 3 = 0
  · simp only [k0, if_true, show Int32.ofNat 1 = 1 from rfl] at c1
    simp only [K_some, K_void, K_none, wA_ref, wA_null, isNull_null, isNull_ref, c_int, c_long, c_ref, c_null, c_float, catS_nil, catS_cons, fit_int, fit_bool, fit_long, isO_mk, len_mk, fld_mk, gI_mk, gI0_mk, gZ_mk, gR_mk, isI_mk, isR_mk, tag_mk, lenE_mk, datR_mk, isOs, lenOs, fldS, lenS, gIs, gI0s, gZs, gRs, isIs, isRs, tagS, datRs, mkv, refV, fkS, isArr, tagOk, datI_mk, wrI_mk, wrA_mk, wrF_mk, wrJ_mk, List.length_cons, List.length_nil, List.getElem?_cons_zero, List.getElem?_cons_succ, List.getElem?_nil, ↓reduceIte, Nat.reduceAdd, Nat.reduceMul, Nat.reduceSub, Nat.reduceDiv, Nat.reduceMod, Nat.reduceLT, Nat.reduceLeDiff, Nat.reduceBEq, Nat.reduceEqDiff, Nat.zero_lt_succ, beq_self_eq_true, Bool.true_and, Bool.and_true, Bool.or_true, Bool.true_or, Bool.or_false, Bool.false_or, Bool.false_and, Bool.and_false, Bool.not_true, Bool.not_false, Bool.false_eq_true, Bool.true_eq_false, Bool.and_eq_true, Bool.or_eq_true, Bool.not_eq_true', decide_eq_true_eq, decide_eq_false_iff_not, decide_true, decide_false, and_self, true_and, and_true, or_true, true_or, or_false, false_or, and_false, false_and, or_self, reduceCtorEq, not_true_eq_false, not_false_eq_true, if_true, if_false, Int32.reduceAdd, Int32.reduceSub, Int32.reduceMul, Int32.reduceDiv, Int32.reduceMod, Int32.reduceLT, Int32.reduceLE, eqF1, eqF2, Int32.reduceOfNat, Int32.reduceOfInt, Int32.reduceToNatClampNeg, inb_lit, en_X9_enactLot, e_X9_enactLot_0, e_X9_enactLot_1, e_X9_enactLot_3, e_X9_enactLot_4, e_X9_enactLot_5, e_X9_enactLot_6, e_X9_enactLot_7, e_X9_enactLot_8, e_X9_enactLot_11, e_X9_enactLot_12, e_X9_enactLot_15, e_X9_enactLot_16, e_X9_enactLot_17, e_X9_enactLot_18, e_X9_enactLot_19, e_X9_enactLot_22, e_X9_enactLot_23, e_X9_enactLot_24, e_X9_enactLot_27, e_X9_enactLot_30, e_X9_enactLot_33, e_X9_enactLot_34, e_X9_enactLot_35, e_X9_enactLot_38, e_X9_enactLot_41, e_X9_enactLot_42, e_X9_enactLot_45, e_X9_enactLot_46, e_X9_enactLot_47, e_X9_enactLot_48, e_X9_enactLot_51, e_X9_enactLot_52, e_X9_enactLot_55, e_X9_enactLot_57, e_X9_enactLot_58, e_X9_enactLot_59, e_X9_enactLot_60, e_X9_enactLot_61, e_X9_enactLot_64, e_X9_enactLot_66, e_X9_enactLot_69, e_X9_enactLot_71, e_X9_enactLot_74, e_X9_enactLot_77, e_X9_enactLot_78, e_X9_enactLot_81, e_X9_enactLot_82, e_X9_enactLot_83, e_X9_enactLot_86, e_X9_enactLot_89, e_X9_enactLot_90, e_X9_enactLot_93, e_X9_enactLot_94, e_X9_enactLot_95, e_X9_enactLot_98, sh_1, sh_4, sh_2, sh_3, sh_7, sh_8, sh_9, sh_10, sh_11, sh_12, sh_13, sh_29, sh_35, sh_50, sh_53, sh_54, sh_55, sh_56, q8, q3, q4, m0, k0, c1]
  · by_cases k1 : ν % 3 = 1
    · by_cases k2 : runF D f (78 + ν / 8 % n) = -9
      · simp only [k1, k2, if_true, and_self, Nat.one_ne_zero, if_false, show Int32.ofNat 2 = 2 from rfl] at c1
        simp only [K_some, K_void, K_none, wA_ref, wA_null, isNull_null, isNull_ref, c_int, c_long, c_ref, c_null, c_float, catS_nil, catS_cons, fit_int, fit_bool, fit_long, isO_mk, len_mk, fld_mk, gI_mk, gI0_mk, gZ_mk, gR_mk, isI_mk, isR_mk, tag_mk, lenE_mk, datR_mk, isOs, lenOs, fldS, lenS, gIs, gI0s, gZs, gRs, isIs, isRs, tagS, datRs, mkv, refV, fkS, isArr, tagOk, datI_mk, wrI_mk, wrA_mk, wrF_mk, wrJ_mk, List.length_cons, List.length_nil, List.getElem?_cons_zero, List.getElem?_cons_succ, List.getElem?_nil, ↓reduceIte, Nat.reduceAdd, Nat.reduceMul, Nat.reduceSub, Nat.reduceDiv, Nat.reduceMod, Nat.reduceLT, Nat.reduceLeDiff, Nat.reduceBEq, Nat.reduceEqDiff, Nat.zero_lt_succ, beq_self_eq_true, Bool.true_and, Bool.and_true, Bool.or_true, Bool.true_or, Bool.or_false, Bool.false_or, Bool.false_and, Bool.and_false, Bool.not_true, Bool.not_false, Bool.false_eq_true, Bool.true_eq_false, Bool.and_eq_true, Bool.or_eq_true, Bool.not_eq_true', decide_eq_true_eq, decide_eq_false_iff_not, decide_true, decide_false, and_self, true_and, and_true, or_true, true_or, or_false, false_or, and_false, false_and, or_self, reduceCtorEq, not_true_eq_false, not_false_eq_true, if_true, if_false, Int32.reduceAdd, Int32.reduceSub, Int32.reduceMul, Int32.reduceDiv, Int32.reduceMod, Int32.reduceLT, Int32.reduceLE, eqF1, eqF2, Int32.reduceOfNat, Int32.reduceOfInt, Int32.reduceToNatClampNeg, inb_lit, en_X9_enactLot, e_X9_enactLot_0, e_X9_enactLot_1, e_X9_enactLot_3, e_X9_enactLot_4, e_X9_enactLot_5, e_X9_enactLot_6, e_X9_enactLot_7, e_X9_enactLot_8, e_X9_enactLot_11, e_X9_enactLot_12, e_X9_enactLot_15, e_X9_enactLot_16, e_X9_enactLot_17, e_X9_enactLot_18, e_X9_enactLot_19, e_X9_enactLot_22, e_X9_enactLot_23, e_X9_enactLot_24, e_X9_enactLot_27, e_X9_enactLot_30, e_X9_enactLot_33, e_X9_enactLot_34, e_X9_enactLot_35, e_X9_enactLot_38, e_X9_enactLot_41, e_X9_enactLot_42, e_X9_enactLot_45, e_X9_enactLot_46, e_X9_enactLot_47, e_X9_enactLot_48, e_X9_enactLot_51, e_X9_enactLot_52, e_X9_enactLot_55, e_X9_enactLot_57, e_X9_enactLot_58, e_X9_enactLot_59, e_X9_enactLot_60, e_X9_enactLot_61, e_X9_enactLot_64, e_X9_enactLot_66, e_X9_enactLot_69, e_X9_enactLot_71, e_X9_enactLot_74, e_X9_enactLot_77, e_X9_enactLot_78, e_X9_enactLot_81, e_X9_enactLot_82, e_X9_enactLot_83, e_X9_enactLot_86, e_X9_enactLot_89, e_X9_enactLot_90, e_X9_enactLot_93, e_X9_enactLot_94, e_X9_enactLot_95, e_X9_enactLot_98, sh_1, sh_4, sh_2, sh_3, sh_7, sh_8, sh_9, sh_10, sh_11, sh_12, sh_13, sh_29, sh_35, sh_50, sh_53, sh_54, sh_55, sh_56, q8, q3, qn, n0, np, s2, m0, m1, k0, k1, q1_wheelOf hn s2 hi, e1, sh_wheel w6, q8_isMade (sh_wheel w6), w3, k2, c1, Nat.one_ne_zero]
      · simp only [k1, k2, and_false, Nat.one_ne_zero, if_false, show Int32.ofNat 0 = 0 from rfl] at c1
        simp only [K_some, K_void, K_none, wA_ref, wA_null, isNull_null, isNull_ref, c_int, c_long, c_ref, c_null, c_float, catS_nil, catS_cons, fit_int, fit_bool, fit_long, isO_mk, len_mk, fld_mk, gI_mk, gI0_mk, gZ_mk, gR_mk, isI_mk, isR_mk, tag_mk, lenE_mk, datR_mk, isOs, lenOs, fldS, lenS, gIs, gI0s, gZs, gRs, isIs, isRs, tagS, datRs, mkv, refV, fkS, isArr, tagOk, datI_mk, wrI_mk, wrA_mk, wrF_mk, wrJ_mk, List.length_cons, List.length_nil, List.getElem?_cons_zero, List.getElem?_cons_succ, List.getElem?_nil, ↓reduceIte, Nat.reduceAdd, Nat.reduceMul, Nat.reduceSub, Nat.reduceDiv, Nat.reduceMod, Nat.reduceLT, Nat.reduceLeDiff, Nat.reduceBEq, Nat.reduceEqDiff, Nat.zero_lt_succ, beq_self_eq_true, Bool.true_and, Bool.and_true, Bool.or_true, Bool.true_or, Bool.or_false, Bool.false_or, Bool.false_and, Bool.and_false, Bool.not_true, Bool.not_false, Bool.false_eq_true, Bool.true_eq_false, Bool.and_eq_true, Bool.or_eq_true, Bool.not_eq_true', decide_eq_true_eq, decide_eq_false_iff_not, decide_true, decide_false, and_self, true_and, and_true, or_true, true_or, or_false, false_or, and_false, false_and, or_self, reduceCtorEq, not_true_eq_false, not_false_eq_true, if_true, if_false, Int32.reduceAdd, Int32.reduceSub, Int32.reduceMul, Int32.reduceDiv, Int32.reduceMod, Int32.reduceLT, Int32.reduceLE, eqF1, eqF2, Int32.reduceOfNat, Int32.reduceOfInt, Int32.reduceToNatClampNeg, inb_lit, en_X9_enactLot, e_X9_enactLot_0, e_X9_enactLot_1, e_X9_enactLot_3, e_X9_enactLot_4, e_X9_enactLot_5, e_X9_enactLot_6, e_X9_enactLot_7, e_X9_enactLot_8, e_X9_enactLot_11, e_X9_enactLot_12, e_X9_enactLot_15, e_X9_enactLot_16, e_X9_enactLot_17, e_X9_enactLot_18, e_X9_enactLot_19, e_X9_enactLot_22, e_X9_enactLot_23, e_X9_enactLot_24, e_X9_enactLot_27, e_X9_enactLot_30, e_X9_enactLot_33, e_X9_enactLot_34, e_X9_enactLot_35, e_X9_enactLot_38, e_X9_enactLot_41, e_X9_enactLot_42, e_X9_enactLot_45, e_X9_enactLot_46, e_X9_enactLot_47, e_X9_enactLot_48, e_X9_enactLot_51, e_X9_enactLot_52, e_X9_enactLot_55, e_X9_enactLot_57, e_X9_enactLot_58, e_X9_enactLot_59, e_X9_enactLot_60, e_X9_enactLot_61, e_X9_enactLot_64, e_X9_enactLot_66, e_X9_enactLot_69, e_X9_enactLot_71, e_X9_enactLot_74, e_X9_enactLot_77, e_X9_enactLot_78, e_X9_enactLot_81, e_X9_enactLot_82, e_X9_enactLot_83, e_X9_enactLot_86, e_X9_enactLot_89, e_X9_enactLot_90, e_X9_enactLot_93, e_X9_enactLot_94, e_X9_enactLot_95, e_X9_enactLot_98, sh_1, sh_4, sh_2, sh_3, sh_7, sh_8, sh_9, sh_10, sh_11, sh_12, sh_13, sh_29, sh_35, sh_50, sh_53, sh_54, sh_55, sh_56, q8, q3, qn, n0, np, s2, m0, m1, k0, k1, q1_wheelOf hn s2 hi, e1, sh_wheel w6, q8_isMade (sh_wheel w6), w3, k2, c1, Nat.one_ne_zero]
    · simp only [k0, k1, false_and, if_false, show Int32.ofNat 0 = 0 from rfl] at c1
      simp only [K_some, K_void, K_none, wA_ref, wA_null, isNull_null, isNull_ref, c_int, c_long, c_ref, c_null, c_float, catS_nil, catS_cons, fit_int, fit_bool, fit_long, isO_mk, len_mk, fld_mk, gI_mk, gI0_mk, gZ_mk, gR_mk, isI_mk, isR_mk, tag_mk, lenE_mk, datR_mk, isOs, lenOs, fldS, lenS, gIs, gI0s, gZs, gRs, isIs, isRs, tagS, datRs, mkv, refV, fkS, isArr, tagOk, datI_mk, wrI_mk, wrA_mk, wrF_mk, wrJ_mk, List.length_cons, List.length_nil, List.getElem?_cons_zero, List.getElem?_cons_succ, List.getElem?_nil, ↓reduceIte, Nat.reduceAdd, Nat.reduceMul, Nat.reduceSub, Nat.reduceDiv, Nat.reduceMod, Nat.reduceLT, Nat.reduceLeDiff, Nat.reduceBEq, Nat.reduceEqDiff, Nat.zero_lt_succ, beq_self_eq_true, Bool.true_and, Bool.and_true, Bool.or_true, Bool.true_or, Bool.or_false, Bool.false_or, Bool.false_and, Bool.and_false, Bool.not_true, Bool.not_false, Bool.false_eq_true, Bool.true_eq_false, Bool.and_eq_true, Bool.or_eq_true, Bool.not_eq_true', decide_eq_true_eq, decide_eq_false_iff_not, decide_true, decide_false, and_self, true_and, and_true, or_true, true_or, or_false, false_or, and_false, false_and, or_self, reduceCtorEq, not_true_eq_false, not_false_eq_true, if_true, if_false, Int32.reduceAdd, Int32.reduceSub, Int32.reduceMul, Int32.reduceDiv, Int32.reduceMod, Int32.reduceLT, Int32.reduceLE, eqF1, eqF2, Int32.reduceOfNat, Int32.reduceOfInt, Int32.reduceToNatClampNeg, inb_lit, en_X9_enactLot, e_X9_enactLot_0, e_X9_enactLot_1, e_X9_enactLot_3, e_X9_enactLot_4, e_X9_enactLot_5, e_X9_enactLot_6, e_X9_enactLot_7, e_X9_enactLot_8, e_X9_enactLot_11, e_X9_enactLot_12, e_X9_enactLot_15, e_X9_enactLot_16, e_X9_enactLot_17, e_X9_enactLot_18, e_X9_enactLot_19, e_X9_enactLot_22, e_X9_enactLot_23, e_X9_enactLot_24, e_X9_enactLot_27, e_X9_enactLot_30, e_X9_enactLot_33, e_X9_enactLot_34, e_X9_enactLot_35, e_X9_enactLot_38, e_X9_enactLot_41, e_X9_enactLot_42, e_X9_enactLot_45, e_X9_enactLot_46, e_X9_enactLot_47, e_X9_enactLot_48, e_X9_enactLot_51, e_X9_enactLot_52, e_X9_enactLot_55, e_X9_enactLot_57, e_X9_enactLot_58, e_X9_enactLot_59, e_X9_enactLot_60, e_X9_enactLot_61, e_X9_enactLot_64, e_X9_enactLot_66, e_X9_enactLot_69, e_X9_enactLot_71, e_X9_enactLot_74, e_X9_enactLot_77, e_X9_enactLot_78, e_X9_enactLot_81, e_X9_enactLot_82, e_X9_enactLot_83, e_X9_enactLot_86, e_X9_enactLot_89, e_X9_enactLot_90, e_X9_enactLot_93, e_X9_enactLot_94, e_X9_enactLot_95, e_X9_enactLot_98, sh_1, sh_4, sh_2, sh_3, sh_7, sh_8, sh_9, sh_10, sh_11, sh_12, sh_13, sh_29, sh_35, sh_50, sh_53, sh_54, sh_55, sh_56, q8, q3, qn, n0, np, s2, m0, m1, k0, k1, q1_wheelOf hn s2 hi, e1, sh_wheel w6, c1]
theorem cl_loop (hS : Sta n f) (h0 : 0 < n) (hm : m ≤ 20) : ∀ (j q ν : Nat) (D : List (Nat × Nat)) (I : IT), q + j = m → ν < 2147483648 → D.length + j ≤ 40 → okD n D → FC I (runF D f) n → DC I 10 D → ∃ I1 H, R (d + 7) iX9_lots 59 [.ref 1, .int (Int32.ofNat m), .int w, .long (Int64.ofNat ν), .float 0, .int (Int32.ofNat q)] [] (mk N I J) = some (some (.int (Int32.ofNat (totN H))), mk N I1 J) ∧ HH (runF (lotD n f j ν D) f) H ∧ okD n (lotD n f j ν D) ∧ FC I1 (runF (lotD n f j ν D) f) n ∧ DC I1 10 (lotD n f j ν D) ∧ ∀ b, fr b → I1 b = I b := by
  intro j
  induction j with
  | zero =>
    intro q ν D I hq hν hL hok hC hD
    obtain ⟨H, hH⟩ := run_H hS hok.2
    have h1 : ¬ Int32.ofNat q < Int32.ofNat m := fun h => by have := (oN_lt (by omega) (by omega)).mp h; omega
    have hH2 : ∀ k, k < 8 → I 8 k = vi (H k) := fun k hk => by rw [hC.2.2.2.1 k hk, hH k hk]
    refine ⟨I, H, ?_, hH, hok, hC, hD, fun b _ => rfl⟩
    rw [e_X9_lots_59]
    simp only [K_some, K_void, K_none, wA_ref, wA_null, isNull_null, isNull_ref, c_int, c_long, c_ref, c_null, c_float, catS_nil, catS_cons, fit_int, fit_bool, fit_long, isO_mk, len_mk, fld_mk, gI_mk, gI0_mk, gZ_mk, gR_mk, isI_mk, isR_mk, tag_mk, lenE_mk, datR_mk, isOs, lenOs, fldS, lenS, gIs, gI0s, gZs, gRs, isIs, isRs, tagS, datRs, mkv, refV, fkS, isArr, tagOk, datI_mk, wrI_mk, wrA_mk, wrF_mk, wrJ_mk, List.length_cons, List.length_nil, List.getElem?_cons_zero, List.getElem?_cons_succ, List.getElem?_nil, ↓reduceIte, Nat.reduceAdd, Nat.reduceMul, Nat.reduceSub, Nat.reduceDiv, Nat.reduceMod, Nat.reduceLT, Nat.reduceLeDiff, Nat.reduceBEq, Nat.reduceEqDiff, Nat.zero_lt_succ, beq_self_eq_true, Bool.true_and, Bool.and_true, Bool.or_true, Bool.true_or, Bool.or_false, Bool.false_or, Bool.false_and, Bool.and_false, Bool.not_true, Bool.not_false, Bool.false_eq_true, Bool.true_eq_false, Bool.and_eq_true, Bool.or_eq_true, Bool.not_eq_true', decide_eq_true_eq, decide_eq_false_iff_not, decide_true, decide_false, and_self, true_and, and_true, or_true, true_or, or_false, false_or, and_false, false_and, or_self, reduceCtorEq, not_true_eq_false, not_false_eq_true, if_true, if_false, Int32.reduceAdd, Int32.reduceSub, Int32.reduceMul, Int32.reduceDiv, Int32.reduceMod, Int32.reduceLT, Int32.reduceLE, eqF1, eqF2, Int32.reduceOfNat, Int32.reduceOfInt, Int32.reduceToNatClampNeg, inb_lit, e_X9_lots_0, e_X9_lots_1, e_X9_lots_2, e_X9_lots_4, e_X9_lots_7, e_X9_lots_10, e_X9_lots_11, e_X9_lots_12, e_X9_lots_15, e_X9_lots_18, e_X9_lots_21, e_X9_lots_22, e_X9_lots_23, e_X9_lots_24, e_X9_lots_27, e_X9_lots_30, e_X9_lots_33, e_X9_lots_35, e_X9_lots_36, e_X9_lots_37, e_X9_lots_40, e_X9_lots_43, e_X9_lots_44, e_X9_lots_47, e_X9_lots_50, e_X9_lots_52, e_X9_lots_53, e_X9_lots_54, e_X9_lots_55, e_X9_lots_56, e_X9_lots_57, e_X9_lots_61, e_X9_lots_62, e_X9_lots_65, e_X9_lots_66, e_X9_lots_69, e_X9_lots_70, e_X9_lots_73, e_X9_lots_74, e_X9_lots_75, e_X9_lots_76, e_X9_lots_77, e_X9_lots_78, e_X9_lots_81, e_X9_lots_84, e_X9_lots_87, e_X9_lots_88, e_X9_lots_91, e_X9_lots_94, e_X9_lots_97, sh_1, sh_4, sh_7, sh_2, sh_3, sh_8, sh_9, sh_10, sh_11, sh_12, sh_13, sh_29, sh_35, sh_50, sh_53, sh_54, sh_55, sh_56, h1, qG_total (a := 7) (b := 8) sh_7 sh_8 hH2]
  | succ j ih =>
    intro q ν D I hq hν hL hok hC hD
    obtain ⟨H, hH⟩ := run_H hS hok.2
    have h1 : Int32.ofNat q < Int32.ofNat m := (oN_lt (by omega) (by omega)).mpr (by omega)
    have h9 : runF D f 9 = Int32.ofNat n := by rw [run_st hok.2 (by omega)]; exact hS.2.1
    have hl := lnx_lt ν
    have hp := ldee_wf (ν := lnx ν) (g := runF D f) h0
    obtain ⟨I1, c1, c2, c3, c4⟩ := cl_lot (d := d + 1) (N := N) (J := J) (ν := lnx ν) (by omega) hS.1 h0 h9 (by omega) hC hD hH
    obtain ⟨I2, H2, d1, d2, d3, d4, d5, d6⟩ := ih (q + 1) (lnx ν) (D ++ [ldee (lnx ν) n (runF D f)]) I1 (by omega) (by omega) (by simp; omega) (ok_add hok hp (by omega)) c2 c3
    refine ⟨I2, H2, ?_, d2, d3, d4, d5, fun b hb => by rw [d6 b hb, c4 b hb]⟩
    rw [e_X9_lots_59]
    simp only [K_some, K_void, K_none, wA_ref, wA_null, isNull_null, isNull_ref, c_int, c_long, c_ref, c_null, c_float, catS_nil, catS_cons, fit_int, fit_bool, fit_long, isO_mk, len_mk, fld_mk, gI_mk, gI0_mk, gZ_mk, gR_mk, isI_mk, isR_mk, tag_mk, lenE_mk, datR_mk, isOs, lenOs, fldS, lenS, gIs, gI0s, gZs, gRs, isIs, isRs, tagS, datRs, mkv, refV, fkS, isArr, tagOk, datI_mk, wrI_mk, wrA_mk, wrF_mk, wrJ_mk, List.length_cons, List.length_nil, List.getElem?_cons_zero, List.getElem?_cons_succ, List.getElem?_nil, ↓reduceIte, Nat.reduceAdd, Nat.reduceMul, Nat.reduceSub, Nat.reduceDiv, Nat.reduceMod, Nat.reduceLT, Nat.reduceLeDiff, Nat.reduceBEq, Nat.reduceEqDiff, Nat.zero_lt_succ, beq_self_eq_true, Bool.true_and, Bool.and_true, Bool.or_true, Bool.true_or, Bool.or_false, Bool.false_or, Bool.false_and, Bool.and_false, Bool.not_true, Bool.not_false, Bool.false_eq_true, Bool.true_eq_false, Bool.and_eq_true, Bool.or_eq_true, Bool.not_eq_true', decide_eq_true_eq, decide_eq_false_iff_not, decide_true, decide_false, and_self, true_and, and_true, or_true, true_or, or_false, false_or, and_false, false_and, or_self, reduceCtorEq, not_true_eq_false, not_false_eq_true, if_true, if_false, Int32.reduceAdd, Int32.reduceSub, Int32.reduceMul, Int32.reduceDiv, Int32.reduceMod, Int32.reduceLT, Int32.reduceLE, eqF1, eqF2, Int32.reduceOfNat, Int32.reduceOfInt, Int32.reduceToNatClampNeg, inb_lit, e_X9_lots_0, e_X9_lots_1, e_X9_lots_2, e_X9_lots_4, e_X9_lots_7, e_X9_lots_10, e_X9_lots_11, e_X9_lots_12, e_X9_lots_15, e_X9_lots_18, e_X9_lots_21, e_X9_lots_22, e_X9_lots_23, e_X9_lots_24, e_X9_lots_27, e_X9_lots_30, e_X9_lots_33, e_X9_lots_35, e_X9_lots_36, e_X9_lots_37, e_X9_lots_40, e_X9_lots_43, e_X9_lots_44, e_X9_lots_47, e_X9_lots_50, e_X9_lots_52, e_X9_lots_53, e_X9_lots_54, e_X9_lots_55, e_X9_lots_56, e_X9_lots_57, e_X9_lots_61, e_X9_lots_62, e_X9_lots_65, e_X9_lots_66, e_X9_lots_69, e_X9_lots_70, e_X9_lots_73, e_X9_lots_74, e_X9_lots_75, e_X9_lots_76, e_X9_lots_77, e_X9_lots_78, e_X9_lots_81, e_X9_lots_84, e_X9_lots_87, e_X9_lots_88, e_X9_lots_91, e_X9_lots_94, e_X9_lots_97, sh_1, sh_2, sh_3, sh_4, sh_7, sh_8, sh_9, sh_10, sh_11, sh_12, sh_13, sh_29, sh_35, sh_50, sh_53, sh_54, sh_55, sh_56, h1, l_nx hν, l_mod0, o64_32, c1, oN_succ]
    exact d1
/-- lots(k, seed) -/
theorem z_lots {ν : Nat} (hW : WO T n l f H0 K D I) (h1 : 1 ≤ k) (h2 : k ≤ 20) (hL : D.length + k ≤ 40) (hν1 : 1 ≤ ν) (hν : ν ≤ 2147483646) : ∃ I' D' q, C (d + 10) iX9_lots [.ref 1, .int (Int32.ofNat k), .int (Int32.ofNat ν)] (mk N I J) = some (some (.int (Int32.ofNat q)), mk N I' J) ∧ WO T n l f H0 K D' I' ∧ D'.length = D.length + k ∧ q ≤ 96 ∧ RWq I I' ∧ I' 55 = I 55 := by
  obtain ⟨-, -, f3, f4, f5, f6, f7, f8, f9, f10, f11, f12, f13, -⟩ := wo_fa hW
  obtain ⟨l1, l2, l3, e5, -⟩ := wo_l hW
  obtain ⟨⟨g1, g2, g3, g4, g5, g6, g7⟩, w2, w3, w4, w5, w6⟩ := hW
  have r1 : (40 < Int32.ofNat D.length + Int32.ofNat k) = False := by
    rw [add_oN]; exact eq_false (fun h => by have := (oN_lt (j := 40) (k := D.length + k) (by omega) (by omega)).mp h; omega)
  have hx : ¬ Int32.ofNat k < 1 := fun h => by have := (oN_lt (j := k) (k := 1) (by omega) (by omega)).mp h; omega
  have hx2 : ¬ 20 < Int32.ofNat k := fun h => by have := (oN_lt (j := 20) (k := k) (by omega) (by omega)).mp h; omega
  have hw : ¬ Int32.ofNat ν < 1 := fun h => by have := (oN_lt (j := ν) (k := 1) (by omega) (by omega)).mp h; omega
  have hw2 : ¬ 2147483646 < Int32.ofNat ν := fun h => by have := (oN_lt (j := 2147483646) (k := ν) (by omega) (by omega)).mp h; omega
  obtain ⟨I1, H1, c1, c2, c3, c4, c5, c6⟩ := cl_loop (d := d + 2) (N := N) (J := J) (m := k) (w := Int32.ofNat ν) g1 w2 h2 k 0 ν D I (by omega) (by omega) hL g2 g4 g5
  rw [show Int32.ofNat 0 = 0 from rfl] at c1
  refine ⟨I1, lotD n f k ν D, totN H1, ?_, ⟨⟨g1, c3, ?_, c4, c5, trivial, fun j hj => ?_⟩, w2, w3, w4, ?_, fun b hb => ?_⟩, lot_len n f k ν D, totN_le H1, (fr_rw c6).1, (fr_rw c6).2⟩
  · simp only [K_some, K_void, K_none, wA_ref, wA_null, isNull_null, isNull_ref, c_int, c_long, c_ref, c_null, c_float, catS_nil, catS_cons, fit_int, fit_bool, fit_long, isO_mk, len_mk, fld_mk, gI_mk, gI0_mk, gZ_mk, gR_mk, isI_mk, isR_mk, tag_mk, lenE_mk, datR_mk, isOs, lenOs, fldS, lenS, gIs, gI0s, gZs, gRs, isIs, isRs, tagS, datRs, mkv, refV, fkS, isArr, tagOk, datI_mk, wrI_mk, wrA_mk, wrF_mk, wrJ_mk, List.length_cons, List.length_nil, List.getElem?_cons_zero, List.getElem?_cons_succ, List.getElem?_nil, ↓reduceIte, Nat.reduceAdd, Nat.reduceMul, Nat.reduceSub, Nat.reduceDiv, Nat.reduceMod, Nat.reduceLT, Nat.reduceLeDiff, Nat.reduceBEq, Nat.reduceEqDiff, Nat.zero_lt_succ, beq_self_eq_true, Bool.true_and, Bool.and_true, Bool.or_true, Bool.true_or, Bool.or_false, Bool.false_or, Bool.false_and, Bool.and_false, Bool.not_true, Bool.not_false, Bool.false_eq_true, Bool.true_eq_false, Bool.and_eq_true, Bool.or_eq_true, Bool.not_eq_true', decide_eq_true_eq, decide_eq_false_iff_not, decide_true, decide_false, and_self, true_and, and_true, or_true, true_or, or_false, false_or, and_false, false_and, or_self, reduceCtorEq, not_true_eq_false, not_false_eq_true, if_true, if_false, Int32.reduceAdd, Int32.reduceSub, Int32.reduceMul, Int32.reduceDiv, Int32.reduceMod, Int32.reduceLT, Int32.reduceLE, eqF1, eqF2, Int32.reduceOfNat, Int32.reduceOfInt, Int32.reduceToNatClampNeg, inb_lit, en_X9_lots, e_X9_lots_0, e_X9_lots_1, e_X9_lots_2, e_X9_lots_4, e_X9_lots_7, e_X9_lots_10, e_X9_lots_11, e_X9_lots_12, e_X9_lots_15, e_X9_lots_18, e_X9_lots_21, e_X9_lots_22, e_X9_lots_23, e_X9_lots_24, e_X9_lots_27, e_X9_lots_30, e_X9_lots_33, e_X9_lots_35, e_X9_lots_36, e_X9_lots_37, e_X9_lots_40, e_X9_lots_43, e_X9_lots_44, e_X9_lots_47, e_X9_lots_50, e_X9_lots_52, e_X9_lots_53, e_X9_lots_54, e_X9_lots_55, e_X9_lots_56, e_X9_lots_57, e_X9_lots_61, e_X9_lots_62, e_X9_lots_65, e_X9_lots_66, e_X9_lots_69, e_X9_lots_70, e_X9_lots_73, e_X9_lots_74, e_X9_lots_75, e_X9_lots_76, e_X9_lots_77, e_X9_lots_78, e_X9_lots_81, e_X9_lots_84, e_X9_lots_87, e_X9_lots_88, e_X9_lots_91, e_X9_lots_94, e_X9_lots_97, sh_1, sh_2, sh_3, sh_4, sh_7, sh_8, sh_9, sh_10, sh_11, sh_12, sh_13, sh_29, sh_35, sh_50, sh_53, sh_54, sh_55, sh_56, q9_within, hx, hx2, hw, hw2, q1_isEmpty, e5, q0_hasRoom (a := 10) (b := 11) (c := 12) sh_10, f13, r1]
    rw [← o32_64 (show ν < 2147483648 by omega)] at c1
    exact c1
  · rw [c6 6 (by unfold fr; omega)]; exact g3
  · have := g7 j hj
    unfold KP DC at this ⊢
    rw [c6 (20 + 3 * j) (by unfold fr; omega), c6 (20 + 3 * j + 1) (by unfold fr; omega), c6 (20 + 3 * j + 2) (by unfold fr; omega)]
    exact this
  · exact ci_congr (fun a h1 h2 => c6 a (by unfold fr; omega)) w5
  · unfold fx at hb
    rw [c6 b (by unfold fr; omega)]; exact w6 b hb
end
