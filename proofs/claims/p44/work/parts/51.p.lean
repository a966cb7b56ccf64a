/-! CHANCES: odds, mid -/
def dS (s : Nat) : Int32 := if s = 0 then -9 else Int32.ofNat (s - 1)
def pS (s : Nat) (H : Nat → Fin 13) : Nat → Fin 13 := pdH (if s = 0 then H else syH (s - 1) H)
def wy (way μ : Nat) (p : Int32) : Nat → Nat → Int64 → (Nat → Fin 13) → Int64 × (Nat → Fin 13)
  | 0, _, w, H => (w, H)
  | j + 1, d, w, H => wy way μ p j (d + 1) (w * (if way.testBit d = true then p else 12 - p).toInt64) (pS (if way.testBit d = true then μ + 1 else 0) H)
def vS (b : Bool) (l : Nat) (H : Nat → Fin 13) : Int32 := if b = true then (if totN H < l then 0 else 1) else Int32.ofNat (totN H)
def sW (b : Bool) (l n μ : Nat) (p : Int32) (H : Nat → Fin 13) : Nat → Nat → Int64 → Int64
  | 0, _, s => s
  | j + 1, way, s => sW b l n μ p H j (way + 1) (s + (wy way μ p n 0 1 H).1 * (vS b l (wy way μ p n 0 1 H).2).toInt64)
def eu : Nat → Int64 → Int64 → Int64 × Int64
  | 0, a, b => (a, b)
  | k + 1, a, b => if b = 0 then (a, b) else eu k b (a % b)
theorem eu_z {k : Nat} {a : Int64} : eu k a 0 = (a, 0) := by
  cases k with
  | zero => rfl
  | succ k => unfold eu; rw [if_pos rfl]
theorem eu_mono : ∀ {k k' : Nat} {a b : Int64}, (eu k a b).2 = 0 → k ≤ k' → eu k' a b = eu k a b := by
  intro k
  induction k with
  | zero =>
    intro k' a b h _
    have : b = 0 := h
    subst this
    rw [eu_z]; rfl
  | succ k ih =>
    intro k' a b h hk
    obtain ⟨k', rfl⟩ : ∃ q, k' = q + 1 := ⟨k' - 1, by omega⟩
    unfold eu at h ⊢
    by_cases c : b = 0
    · rw [if_pos c, if_pos c]
    · rw [if_neg c, if_neg c]
      rw [if_neg c] at h
      exact ih h (by omega)
theorem eu_ne : ∀ {k : Nat} {a b : Int64}, (a ≠ 0 ∨ b ≠ 0) → (eu k a b).2 = 0 → (eu k a b).1 ≠ 0 := by
  intro k
  induction k with
  | zero =>
    intro a b h h2
    have h3 : b = 0 := h2
    rcases h with h | h
    · exact h
    · exact absurd h3 h
  | succ k ih =>
    intro a b h h2
    unfold eu at h2 ⊢
    by_cases c : b = 0
    · rw [if_pos c]
      rcases h with h | h
      · exact h
      · exact absurd c h
    · rw [if_neg c]
      rw [if_neg c] at h2
      exact ih (Or.inl c) h2
theorem abs_mod {a b : Int64} : (a % b).toInt.natAbs = a.toInt.natAbs % b.toInt.natAbs := by
  rw [Int64.toInt_mod, Int.natAbs_tmod]
theorem abs_0 {b : Int64} (h : b.toInt.natAbs = 0) : b = 0 := by
  apply Int64.toInt_inj.mp
  rw [show (0 : Int64).toInt = 0 from rfl]; omega
theorem mod_half {x y : Nat} (hy : 0 < y) (h : y < x) : 2 * (x % y) < x := by
  have h1 := Nat.mod_lt x hy
  have h2 := Nat.div_add_mod x y
  have h3 : 1 ≤ x / y := (Nat.le_div_iff_mul_le hy).mpr (by omega)
  have h4 : y * 1 ≤ y * (x / y) := Nat.mul_le_mul_left y h3
  omega
theorem eu_t : ∀ (t : Nat) (a b : Int64), b.toInt.natAbs < 2 ^ t → (eu (2 * t + 1) a b).2 = 0 := by
  intro t
  induction t with
  | zero =>
    intro a b h
    have : b = 0 := abs_0 (by simpa using h)
    subst this
    rw [eu_z]
  | succ t ih =>
    intro a b h
    by_cases c : b = 0
    · subst c; rw [eu_z]
    · rw [show 2 * (t + 1) + 1 = (2 * t + 1 + 1) + 1 by omega]
      unfold eu
      rw [if_neg c]
      unfold eu
      by_cases c2 : a % b = 0
      · rw [if_pos c2]; exact c2
      · rw [if_neg c2]
        have n1 : b.toInt.natAbs ≠ 0 := fun h => c (abs_0 h)
        have n2 : (a % b).toInt.natAbs ≠ 0 := fun h => c2 (abs_0 h)
        have l1 : (a % b).toInt.natAbs < b.toInt.natAbs := by rw [abs_mod]; exact Nat.mod_lt _ (by omega)
        have l2 := mod_half (by omega) l1
        rw [← abs_mod] at l2
        have hp := Nat.pow_succ 2 t
        exact ih _ _ (by omega)
def pN : Nat → Int64 → Int64
  | 0, a => a
  | j + 1, a => pN j (a * 12)
theorem pN_ok : ∀ n : Fin 7, pN n.val 1 ≠ 0 ∧ (pN n.val 1).toInt.natAbs < 2 ^ 22 := by decide +kernel
section
variable {d N a b c k n m i μ l B t way : Nat} {I : IT} {J : JT} {r s v x y z w L κ σ p : Int32} {A P Q : Int64} {u u6 u7 u8 : Value} {M : Mem} {H : Nat → Fin 13} {e : Nat → Int32} {g f : FV} {D D' : List (Nat × Nat)} {K : Nat → Option (List (Nat × Nat))} {I' : IT} {T : IT} {H0 : Nat → Fin 13}
theorem qG_p (hA : sh N a = .inr (.inr (2, [(2, b)]))) (hB : sh N b = .inl (0, 8)) (hH : ∀ k, k < 8 → I b k = vi (H k)) (hs : t < 5) : C (d + 3) iX2_passDayWith [.ref a, .int (dS t)] (mk N I J) = some (none, mk N (upA I b (hv (pS t H) (I b))) J) := by
  unfold dS pS
  by_cases c : t = 0
  · rw [if_pos c, if_pos c]; exact qG_with9 hA hB hH
  · rw [if_neg c, if_neg c]; exact qG_with hA hB hH (by omega)
theorem cw_in (hw : way < 64) (hm : μ < 4) (hn : n ≤ 6) : ∀ (j q : Nat) (I : IT) (H : Nat → Fin 13) (wt : Int64) (u : Value), q + j = n → (∀ k, k < 8 → I 54 k = vi (H k)) → ∃ u', R (d + 4) iX9_weighed 38 [.ref 1, .int (Int32.ofNat n), .int (Int32.ofNat μ), .int p, .int x, .long A, .float 0, .int y, .int (Int32.ofNat way), .long wt, .float 0, .int (Int32.ofNat q), u] [] (mk N I J) = R (d + 4) iX9_weighed 106 [.ref 1, .int (Int32.ofNat n), .int (Int32.ofNat μ), .int p, .int x, .long A, .float 0, .int y, .int (Int32.ofNat way), .long (wy way μ p j q wt H).1, .float 0, .int (Int32.ofNat n), u'] [] (mk N (upA I 54 (hv (wy way μ p j q wt H).2 (I 54))) J) := by
  intro j
  induction j with
  | zero =>
    intro q I H wt u hq hH
    have h1 : ¬ Int32.ofNat q < Int32.ofNat n := fun h => by have := (oN_lt (by omega) (by omega)).mp h; omega
    refine ⟨u, ?_⟩
    rw [e_X9_weighed_38]
    simp only [K_some, K_void, K_none, wA_ref, wA_null, isNull_null, isNull_ref, c_int, c_long, c_ref, c_null, c_float, catS_nil, catS_cons, fit_int, fit_bool, fit_long, isO_mk, len_mk, fld_mk, gI_mk, gI0_mk, gZ_mk, gR_mk, isI_mk, isR_mk, tag_mk, lenE_mk, datR_mk, isOs, lenOs, fldS, lenS, gIs, gI0s, gZs, gRs, isIs, isRs, tagS, datRs, mkv, refV, fkS, isArr, tagOk, datI_mk, wrI_mk, wrA_mk, wrF_mk, wrJ_mk, List.length_cons, List.length_nil, List.getElem?_cons_zero, List.getElem?_cons_succ, List.getElem?_nil, ↓reduceIte, Nat.reduceAdd, Nat.reduceMul, Nat.reduceSub, Nat.reduceDiv, Nat.reduceMod, Nat.reduceLT, Nat.reduceLeDiff, Nat.reduceBEq, Nat.reduceEqDiff, Nat.zero_lt_succ, beq_self_eq_true, Bool.true_and, Bool.and_true, Bool.or_true, Bool.true_or, Bool.or_false, Bool.false_or, Bool.false_and, Bool.and_false, Bool.not_true, Bool.not_false, Bool.false_eq_true, Bool.true_eq_false, Bool.and_eq_true, Bool.or_eq_true, Bool.not_eq_true', decide_eq_true_eq, decide_eq_false_iff_not, decide_true, decide_false, and_self, true_and, and_true, or_true, true_or, or_false, false_or, and_false, false_and, or_self, reduceCtorEq, not_true_eq_false, not_false_eq_true, if_true, if_false, Int32.reduceAdd, Int32.reduceSub, Int32.reduceMul, Int32.reduceDiv, Int32.reduceMod, Int32.reduceLT, Int32.reduceLE, eqF1, eqF2, Int32.reduceOfNat, Int32.reduceOfInt, Int32.reduceToNatClampNeg, inb_lit, e_X9_weighed_0, e_X9_weighed_1, e_X9_weighed_3, e_X9_weighed_4, e_X9_weighed_5, e_X9_weighed_6, e_X9_weighed_8, e_X9_weighed_9, e_X9_weighed_11, e_X9_weighed_13, e_X9_weighed_15, e_X9_weighed_18, e_X9_weighed_19, e_X9_weighed_21, e_X9_weighed_22, e_X9_weighed_25, e_X9_weighed_26, e_X9_weighed_29, e_X9_weighed_32, e_X9_weighed_35, e_X9_weighed_36, e_X9_weighed_40, e_X9_weighed_41, e_X9_weighed_44, e_X9_weighed_46, e_X9_weighed_48, e_X9_weighed_49, e_X9_weighed_50, e_X9_weighed_51, e_X9_weighed_52, e_X9_weighed_55, e_X9_weighed_56, e_X9_weighed_59, e_X9_weighed_60, e_X9_weighed_62, e_X9_weighed_64, e_X9_weighed_66, e_X9_weighed_69, e_X9_weighed_70, e_X9_weighed_71, e_X9_weighed_74, e_X9_weighed_76, e_X9_weighed_77, e_X9_weighed_78, e_X9_weighed_79, e_X9_weighed_80, e_X9_weighed_82, e_X9_weighed_83, e_X9_weighed_86, e_X9_weighed_88, e_X9_weighed_91, e_X9_weighed_92, e_X9_weighed_95, e_X9_weighed_97, e_X9_weighed_100, e_X9_weighed_103, e_X9_weighed_107, e_X9_weighed_110, e_X9_weighed_113, e_X9_weighed_115, e_X9_weighed_116, e_X9_weighed_119, e_X9_weighed_121, e_X9_weighed_124, e_X9_weighed_127, e_X9_weighed_128, e_X9_weighed_131, e_X9_weighed_132, e_X9_weighed_134, e_X9_weighed_136, e_X9_weighed_138, e_X9_weighed_140, e_X9_weighed_143, e_X9_weighed_145, e_X9_weighed_148, e_X9_weighed_150, e_X9_weighed_151, e_X9_weighed_152, e_X9_weighed_153, e_X9_weighed_155, e_X9_weighed_158, e_X9_weighed_161, e_X9_weighed_163, h1, wy, hv_self hH]
    rw [show q = n by omega]
  | succ j ih =>
    intro q I H wt u hq hH
    have h1 : Int32.ofNat q < Int32.ofNat n := (oN_lt (by omega) (by omega)).mpr (by omega)
    have tb := tb1 hw (show q < 6 by omega)
    by_cases c : way.testBit q = true
    · rw [if_pos c] at tb
      have e1 := qG_p (d := d + 1) (N := N) (J := J) (a := 53) (b := 54) (t := μ + 1) sh_53 sh_54 hH (by omega)
      simp only [dS, Nat.succ_ne_zero, if_false, Nat.add_sub_cancel, Nat.add_eq_zero_iff, Nat.one_ne_zero, and_false] at e1
      obtain ⟨u', e⟩ := ih (q + 1) (upA I 54 (hv (pS (μ + 1) H) (I 54))) (pS (μ + 1) H) (wt * p.toInt64) (.int 1) (by omega) (fun k hk => by rw [upA_same, hv_at hk])
      simp only [upA_upA, upA_same, hv_hv] at e
      refine ⟨u', ?_⟩
      rw [e_X9_weighed_38]
      simp only [K_some, K_void, K_none, wA_ref, wA_null, isNull_null, isNull_ref, c_int, c_long, c_ref, c_null, c_float, catS_nil, catS_cons, fit_int, fit_bool, fit_long, isO_mk, len_mk, fld_mk, gI_mk, gI0_mk, gZ_mk, gR_mk, isI_mk, isR_mk, tag_mk, lenE_mk, datR_mk, isOs, lenOs, fldS, lenS, gIs, gI0s, gZs, gRs, isIs, isRs, tagS, datRs, mkv, refV, fkS, isArr, tagOk, datI_mk, wrI_mk, wrA_mk, wrF_mk, wrJ_mk, List.length_cons, List.length_nil, List.getElem?_cons_zero, List.getElem?_cons_succ, List.getElem?_nil, ↓reduceIte, Nat.reduceAdd, Nat.reduceMul, Nat.reduceSub, Nat.reduceDiv, Nat.reduceMod, Nat.reduceLT, Nat.reduceLeDiff, Nat.reduceBEq, Nat.reduceEqDiff, Nat.zero_lt_succ, beq_self_eq_true, Bool.true_and, Bool.and_true, Bool.or_true, Bool.true_or, Bool.or_false, Bool.false_or, Bool.false_and, Bool.and_false, Bool.not_true, Bool.not_false, Bool.false_eq_true, Bool.true_eq_false, Bool.and_eq_true, Bool.or_eq_true, Bool.not_eq_true', decide_eq_true_eq, decide_eq_false_iff_not, decide_true, decide_false, and_self, true_and, and_true, or_true, true_or, or_false, false_or, and_false, false_and, or_self, reduceCtorEq, not_true_eq_false, not_false_eq_true, if_true, if_false, Int32.reduceAdd, Int32.reduceSub, Int32.reduceMul, Int32.reduceDiv, Int32.reduceMod, Int32.reduceLT, Int32.reduceLE, eqF1, eqF2, Int32.reduceOfNat, Int32.reduceOfInt, Int32.reduceToNatClampNeg, inb_lit, e_X9_weighed_0, e_X9_weighed_1, e_X9_weighed_3, e_X9_weighed_4, e_X9_weighed_5, e_X9_weighed_6, e_X9_weighed_8, e_X9_weighed_9, e_X9_weighed_11, e_X9_weighed_13, e_X9_weighed_15, e_X9_weighed_18, e_X9_weighed_19, e_X9_weighed_21, e_X9_weighed_22, e_X9_weighed_25, e_X9_weighed_26, e_X9_weighed_29, e_X9_weighed_32, e_X9_weighed_35, e_X9_weighed_36, e_X9_weighed_40, e_X9_weighed_41, e_X9_weighed_44, e_X9_weighed_46, e_X9_weighed_48, e_X9_weighed_49, e_X9_weighed_50, e_X9_weighed_51, e_X9_weighed_52, e_X9_weighed_55, e_X9_weighed_56, e_X9_weighed_59, e_X9_weighed_60, e_X9_weighed_62, e_X9_weighed_64, e_X9_weighed_66, e_X9_weighed_69, e_X9_weighed_70, e_X9_weighed_71, e_X9_weighed_74, e_X9_weighed_76, e_X9_weighed_77, e_X9_weighed_78, e_X9_weighed_79, e_X9_weighed_80, e_X9_weighed_82, e_X9_weighed_83, e_X9_weighed_86, e_X9_weighed_88, e_X9_weighed_91, e_X9_weighed_92, e_X9_weighed_95, e_X9_weighed_97, e_X9_weighed_100, e_X9_weighed_103, e_X9_weighed_107, e_X9_weighed_110, e_X9_weighed_113, e_X9_weighed_115, e_X9_weighed_116, e_X9_weighed_119, e_X9_weighed_121, e_X9_weighed_124, e_X9_weighed_127, e_X9_weighed_128, e_X9_weighed_131, e_X9_weighed_132, e_X9_weighed_134, e_X9_weighed_136, e_X9_weighed_138, e_X9_weighed_140, e_X9_weighed_143, e_X9_weighed_145, e_X9_weighed_148, e_X9_weighed_150, e_X9_weighed_151, e_X9_weighed_152, e_X9_weighed_153, e_X9_weighed_155, e_X9_weighed_158, e_X9_weighed_161, e_X9_weighed_163, sh_1, sh_2, sh_3, sh_4, sh_7, sh_8, sh_9, sh_10, sh_11, sh_12, sh_13, sh_29, sh_35, sh_50, sh_53, sh_54, sh_55, sh_56, h1, tb, e1, oN_succ, wy, c]
      exact e
    · rw [if_neg c] at tb
      have e1 := qG_p (d := d + 1) (N := N) (J := J) (a := 53) (b := 54) (t := 0) sh_53 sh_54 hH (by omega)
      simp only [dS, if_true] at e1
      obtain ⟨u', e⟩ := ih (q + 1) (upA I 54 (hv (pS 0 H) (I 54))) (pS 0 H) (wt * (12 - p).toInt64) (.int 0) (by omega) (fun k hk => by rw [upA_same, hv_at hk])
      simp only [upA_upA, upA_same, hv_hv] at e
      refine ⟨u', ?_⟩
      rw [e_X9_weighed_38]
      simp only [K_some, K_void, K_none, wA_ref, wA_null, isNull_null, isNull_ref, c_int, c_long, c_ref, c_null, c_float, catS_nil, catS_cons, fit_int, fit_bool, fit_long, isO_mk, len_mk, fld_mk, gI_mk, gI0_mk, gZ_mk, gR_mk, isI_mk, isR_mk, tag_mk, lenE_mk, datR_mk, isOs, lenOs, fldS, lenS, gIs, gI0s, gZs, gRs, isIs, isRs, tagS, datRs, mkv, refV, fkS, isArr, tagOk, datI_mk, wrI_mk, wrA_mk, wrF_mk, wrJ_mk, List.length_cons, List.length_nil, List.getElem?_cons_zero, List.getElem?_cons_succ, List.getElem?_nil, ↓reduceIte, Nat.reduceAdd, Nat.reduceMul, Nat.reduceSub, Nat.reduceDiv, Nat.reduceMod, Nat.reduceLT, Nat.reduceLeDiff, Nat.reduceBEq, Nat.reduceEqDiff, Nat.zero_lt_succ, beq_self_eq_true, Bool.true_and, Bool.and_true, Bool.or_true, Bool.true_or, Bool.or_false, Bool.false_or, Bool.false_and, Bool.and_false, Bool.not_true, Bool.not_false, Bool.false_eq_true, Bool.true_eq_false, Bool.and_eq_true, Bool.or_eq_true, Bool.not_eq_true', decide_eq_true_eq, decide_eq_false_iff_not, decide_true, decide_false, and_self, true_and, and_true, or_true, true_or, or_false, false_or, and_false, false_and, or_self, reduceCtorEq, not_true_eq_false, not_false_eq_true, if_true, if_false, Int32.reduceAdd, Int32.reduceSub, Int32.reduceMul, Int32.reduceDiv, Int32.reduceMod, Int32.reduceLT, Int32.reduceLE, eqF1, eqF2, Int32.reduceOfNat, Int32.reduceOfInt, Int32.reduceToNatClampNeg, inb_lit, e_X9_weighed_0, e_X9_weighed_1, e_X9_weighed_3, e_X9_weighed_4, e_X9_weighed_5, e_X9_weighed_6, e_X9_weighed_8, e_X9_weighed_9, e_X9_weighed_11, e_X9_weighed_13, e_X9_weighed_15, e_X9_weighed_18, e_X9_weighed_19, e_X9_weighed_21, e_X9_weighed_22, e_X9_weighed_25, e_X9_weighed_26, e_X9_weighed_29, e_X9_weighed_32, e_X9_weighed_35, e_X9_weighed_36, e_X9_weighed_40, e_X9_weighed_41, e_X9_weighed_44, e_X9_weighed_46, e_X9_weighed_48, e_X9_weighed_49, e_X9_weighed_50, e_X9_weighed_51, e_X9_weighed_52, e_X9_weighed_55, e_X9_weighed_56, e_X9_weighed_59, e_X9_weighed_60, e_X9_weighed_62, e_X9_weighed_64, e_X9_weighed_66, e_X9_weighed_69, e_X9_weighed_70, e_X9_weighed_71, e_X9_weighed_74, e_X9_weighed_76, e_X9_weighed_77, e_X9_weighed_78, e_X9_weighed_79, e_X9_weighed_80, e_X9_weighed_82, e_X9_weighed_83, e_X9_weighed_86, e_X9_weighed_88, e_X9_weighed_91, e_X9_weighed_92, e_X9_weighed_95, e_X9_weighed_97, e_X9_weighed_100, e_X9_weighed_103, e_X9_weighed_107, e_X9_weighed_110, e_X9_weighed_113, e_X9_weighed_115, e_X9_weighed_116, e_X9_weighed_119, e_X9_weighed_121, e_X9_weighed_124, e_X9_weighed_127, e_X9_weighed_128, e_X9_weighed_131, e_X9_weighed_132, e_X9_weighed_134, e_X9_weighed_136, e_X9_weighed_138, e_X9_weighed_140, e_X9_weighed_143, e_X9_weighed_145, e_X9_weighed_148, e_X9_weighed_150, e_X9_weighed_151, e_X9_weighed_152, e_X9_weighed_153, e_X9_weighed_155, e_X9_weighed_158, e_X9_weighed_161, e_X9_weighed_163, sh_1, sh_2, sh_3, sh_4, sh_7, sh_8, sh_9, sh_10, sh_11, sh_12, sh_13, sh_29, sh_35, sh_50, sh_53, sh_54, sh_55, sh_56, h1, tb, e1, oN_succ, wy, c]
      exact e
theorem cw_out (b : Bool) (hm : μ < 4) (hn : n ≤ 6) (hl : l ≤ 60) : ∀ (j way : Nat) (I : IT) (S : Int64) (u9 u11 u12 : Value), way + j = 2 ^ n → u9 = .float 0 ∨ (∃ q, u9 = .long q) → I 4 5 = Int32.ofNat l → (∀ k, k < 8 → I 8 k = vi (H k)) → ∃ h', R (d + 4) iX9_weighed 11 [.ref 1, .int (Int32.ofNat n), .int (Int32.ofNat μ), .int p, .int (if b = true then 1 else 0), .long S, .float 0, .int (Int32.ofNat (2 ^ n)), .int (Int32.ofNat way), u9, .float 0, u11, u12] [] (mk N I J) = some (some (.long (sW b l n μ p H j way S)), mk N (upA I 54 h') J) := by
  have hp : 2 ^ n ≤ 2 ^ 6 := Nat.pow_le_pow_right (by omega) hn
  intro j
  induction j with
  | zero =>
    intro way I S u9 u11 u12 hw hu hs hH
    have h1 : ¬ Int32.ofNat way < Int32.ofNat (2 ^ n) := fun h => by have := (oN_lt (by omega) (by omega)).mp h; omega
    refine ⟨I 54, ?_⟩
    rw [e_X9_weighed_11]
    simp only [K_some, K_void, K_none, wA_ref, wA_null, isNull_null, isNull_ref, c_int, c_long, c_ref, c_null, c_float, catS_nil, catS_cons, fit_int, fit_bool, fit_long, isO_mk, len_mk, fld_mk, gI_mk, gI0_mk, gZ_mk, gR_mk, isI_mk, isR_mk, tag_mk, lenE_mk, datR_mk, isOs, lenOs, fldS, lenS, gIs, gI0s, gZs, gRs, isIs, isRs, tagS, datRs, mkv, refV, fkS, isArr, tagOk, datI_mk, wrI_mk, wrA_mk, wrF_mk, wrJ_mk, List.length_cons, List.length_nil, List.getElem?_cons_zero, List.getElem?_cons_succ, List.getElem?_nil, ↓reduceIte, Nat.reduceAdd, Nat.reduceMul, Nat.reduceSub, Nat.reduceDiv, Nat.reduceMod, Nat.reduceLT, Nat.reduceLeDiff, Nat.reduceBEq, Nat.reduceEqDiff, Nat.zero_lt_succ, beq_self_eq_true, Bool.true_and, Bool.and_true, Bool.or_true, Bool.true_or, Bool.or_false, Bool.false_or, Bool.false_and, Bool.and_false, Bool.not_true, Bool.not_false, Bool.false_eq_true, Bool.true_eq_false, Bool.and_eq_true, Bool.or_eq_true, Bool.not_eq_true', decide_eq_true_eq, decide_eq_false_iff_not, decide_true, decide_false, and_self, true_and, and_true, or_true, true_or, or_false, false_or, and_false, false_and, or_self, reduceCtorEq, not_true_eq_false, not_false_eq_true, if_true, if_false, Int32.reduceAdd, Int32.reduceSub, Int32.reduceMul, Int32.reduceDiv, Int32.reduceMod, Int32.reduceLT, Int32.reduceLE, eqF1, eqF2, Int32.reduceOfNat, Int32.reduceOfInt, Int32.reduceToNatClampNeg, inb_lit, e_X9_weighed_0, e_X9_weighed_1, e_X9_weighed_3, e_X9_weighed_4, e_X9_weighed_5, e_X9_weighed_6, e_X9_weighed_8, e_X9_weighed_9, e_X9_weighed_13, e_X9_weighed_15, e_X9_weighed_18, e_X9_weighed_19, e_X9_weighed_21, e_X9_weighed_22, e_X9_weighed_25, e_X9_weighed_26, e_X9_weighed_29, e_X9_weighed_32, e_X9_weighed_35, e_X9_weighed_36, e_X9_weighed_38, e_X9_weighed_40, e_X9_weighed_41, e_X9_weighed_44, e_X9_weighed_46, e_X9_weighed_48, e_X9_weighed_49, e_X9_weighed_50, e_X9_weighed_51, e_X9_weighed_52, e_X9_weighed_55, e_X9_weighed_56, e_X9_weighed_59, e_X9_weighed_60, e_X9_weighed_62, e_X9_weighed_64, e_X9_weighed_66, e_X9_weighed_69, e_X9_weighed_70, e_X9_weighed_71, e_X9_weighed_74, e_X9_weighed_76, e_X9_weighed_77, e_X9_weighed_78, e_X9_weighed_79, e_X9_weighed_80, e_X9_weighed_82, e_X9_weighed_83, e_X9_weighed_86, e_X9_weighed_88, e_X9_weighed_91, e_X9_weighed_92, e_X9_weighed_95, e_X9_weighed_97, e_X9_weighed_100, e_X9_weighed_103, e_X9_weighed_106, e_X9_weighed_107, e_X9_weighed_110, e_X9_weighed_113, e_X9_weighed_115, e_X9_weighed_116, e_X9_weighed_119, e_X9_weighed_121, e_X9_weighed_124, e_X9_weighed_127, e_X9_weighed_128, e_X9_weighed_131, e_X9_weighed_132, e_X9_weighed_134, e_X9_weighed_136, e_X9_weighed_138, e_X9_weighed_140, e_X9_weighed_143, e_X9_weighed_145, e_X9_weighed_148, e_X9_weighed_150, e_X9_weighed_151, e_X9_weighed_152, e_X9_weighed_153, e_X9_weighed_155, e_X9_weighed_158, e_X9_weighed_161, e_X9_weighed_163, h1, upA_self, sW]
  | succ j ih =>
    intro way I S u9 u11 u12 hw hu hs hH
    have h1 : Int32.ofNat way < Int32.ofNat (2 ^ n) := (oN_lt (by omega) (by omega)).mpr (by omega)
    obtain ⟨u', e⟩ := cw_in (d := d) (N := N) (J := J) (p := p) (x := if b = true then 1 else 0) (A := S) (y := Int32.ofNat (2 ^ n)) (way := way) (by omega) hm hn n 0 (upA I 54 (hv H (I 54))) H 1 u12 (by omega) (fun k hk => by rw [upA_same, hv_at hk])
    rw [show Int32.ofNat 0 = 0 from rfl] at e
    simp only [upA_upA, upA_same, hv_hv] at e
    obtain ⟨W, hW⟩ : ∃ W, wy way μ p n 0 1 H = W := ⟨_, rfl⟩
    rw [hW] at e
    have hH2 : ∀ k, k < 8 → upA I 54 (hv W.2 (I 54)) 54 k = vi (W.2 k) := fun k hk => by rw [upA_same, hv_at hk]
    have s2 : upA I 54 (hv W.2 (I 54)) 4 5 = Int32.ofNat l := by rw [upA_ne (by omega)]; exact hs
    have tl := tot_lt (H := W.2) hl
    have hH8 : ∀ k, k < 8 → upA I 54 (hv W.2 (I 54)) 8 k = vi (H k) := fun k hk => by rw [upA_ne (by omega)]; exact hH k hk
    by_cases c : totN W.2 < l
    · obtain ⟨h', e2⟩ := ih (way + 1) (upA I 54 (hv W.2 (I 54))) (S + W.1 * (vS b l W.2).toInt64) (.long W.1) (.int (Int32.ofNat (totN W.2))) (.int 0) (by omega) (Or.inr ⟨_, rfl⟩) s2 hH8
      simp only [upA_upA] at e2
      refine ⟨h', ?_⟩
      rw [e_X9_weighed_11]
      simp only [K_some, K_void, K_none, wA_ref, wA_null, isNull_null, isNull_ref, c_int, c_long, c_ref, c_null, c_float, catS_nil, catS_cons, fit_int, fit_bool, fit_long, isO_mk, len_mk, fld_mk, gI_mk, gI0_mk, gZ_mk, gR_mk, isI_mk, isR_mk, tag_mk, lenE_mk, datR_mk, isOs, lenOs, fldS, lenS, gIs, gI0s, gZs, gRs, isIs, isRs, tagS, datRs, mkv, refV, fkS, isArr, tagOk, datI_mk, wrI_mk, wrA_mk, wrF_mk, wrJ_mk, List.length_cons, List.length_nil, List.getElem?_cons_zero, List.getElem?_cons_succ, List.getElem?_nil, ↓reduceIte, Nat.reduceAdd, Nat.reduceMul, Nat.reduceSub, Nat.reduceDiv, Nat.reduceMod, Nat.reduceLT, Nat.reduceLeDiff, Nat.reduceBEq, Nat.reduceEqDiff, Nat.zero_lt_succ, beq_self_eq_true, Bool.true_and, Bool.and_true, Bool.or_true, Bool.true_or, Bool.or_false, Bool.false_or, Bool.false_and, Bool.and_false, Bool.not_true, Bool.not_false, Bool.false_eq_true, Bool.true_eq_false, Bool.and_eq_true, Bool.or_eq_true, Bool.not_eq_true', decide_eq_true_eq, decide_eq_false_iff_not, decide_true, decide_false, and_self, true_and, and_true, or_true, true_or, or_false, false_or, and_false, false_and, or_self, reduceCtorEq, not_true_eq_false, not_false_eq_true, if_true, if_false, Int32.reduceAdd, Int32.reduceSub, Int32.reduceMul, Int32.reduceDiv, Int32.reduceMod, Int32.reduceLT, Int32.reduceLE, eqF1, eqF2, Int32.reduceOfNat, Int32.reduceOfInt, Int32.reduceToNatClampNeg, inb_lit, e_X9_weighed_0, e_X9_weighed_1, e_X9_weighed_3, e_X9_weighed_4, e_X9_weighed_5, e_X9_weighed_6, e_X9_weighed_8, e_X9_weighed_9, e_X9_weighed_13, e_X9_weighed_15, e_X9_weighed_18, e_X9_weighed_19, e_X9_weighed_21, e_X9_weighed_22, e_X9_weighed_25, e_X9_weighed_26, e_X9_weighed_29, e_X9_weighed_32, e_X9_weighed_35, e_X9_weighed_36, e_X9_weighed_40, e_X9_weighed_41, e_X9_weighed_44, e_X9_weighed_46, e_X9_weighed_48, e_X9_weighed_49, e_X9_weighed_50, e_X9_weighed_51, e_X9_weighed_52, e_X9_weighed_55, e_X9_weighed_56, e_X9_weighed_59, e_X9_weighed_60, e_X9_weighed_62, e_X9_weighed_64, e_X9_weighed_66, e_X9_weighed_69, e_X9_weighed_70, e_X9_weighed_71, e_X9_weighed_74, e_X9_weighed_76, e_X9_weighed_77, e_X9_weighed_78, e_X9_weighed_79, e_X9_weighed_80, e_X9_weighed_82, e_X9_weighed_83, e_X9_weighed_86, e_X9_weighed_88, e_X9_weighed_91, e_X9_weighed_92, e_X9_weighed_95, e_X9_weighed_97, e_X9_weighed_100, e_X9_weighed_103, e_X9_weighed_107, e_X9_weighed_110, e_X9_weighed_113, e_X9_weighed_115, e_X9_weighed_116, e_X9_weighed_119, e_X9_weighed_121, e_X9_weighed_124, e_X9_weighed_127, e_X9_weighed_128, e_X9_weighed_131, e_X9_weighed_132, e_X9_weighed_134, e_X9_weighed_136, e_X9_weighed_138, e_X9_weighed_140, e_X9_weighed_143, e_X9_weighed_145, e_X9_weighed_148, e_X9_weighed_150, e_X9_weighed_151, e_X9_weighed_152, e_X9_weighed_153, e_X9_weighed_155, e_X9_weighed_158, e_X9_weighed_161, e_X9_weighed_163, sh_1, sh_4, sh_7, sh_2, sh_3, sh_8, sh_9, sh_10, sh_11, sh_12, sh_13, sh_29, sh_35, sh_50, sh_53, sh_54, sh_55, sh_56, h1, qG_take (a := 53) (b := 54) (a' := 7) (b' := 8) sh_53 sh_54 sh_7 sh_8 hH]
      refine e.trans ?_
      simp only [sW, hW]
      cases b <;> simp only [K_some, K_void, K_none, wA_ref, wA_null, isNull_null, isNull_ref, c_int, c_long, c_ref, c_null, c_float, catS_nil, catS_cons, fit_int, fit_bool, fit_long, isO_mk, len_mk, fld_mk, gI_mk, gI0_mk, gZ_mk, gR_mk, isI_mk, isR_mk, tag_mk, lenE_mk, datR_mk, isOs, lenOs, fldS, lenS, gIs, gI0s, gZs, gRs, isIs, isRs, tagS, datRs, mkv, refV, fkS, isArr, tagOk, datI_mk, wrI_mk, wrA_mk, wrF_mk, wrJ_mk, List.length_cons, List.length_nil, List.getElem?_cons_zero, List.getElem?_cons_succ, List.getElem?_nil, ↓reduceIte, Nat.reduceAdd, Nat.reduceMul, Nat.reduceSub, Nat.reduceDiv, Nat.reduceMod, Nat.reduceLT, Nat.reduceLeDiff, Nat.reduceBEq, Nat.reduceEqDiff, Nat.zero_lt_succ, beq_self_eq_true, Bool.true_and, Bool.and_true, Bool.or_true, Bool.true_or, Bool.or_false, Bool.false_or, Bool.false_and, Bool.and_false, Bool.not_true, Bool.not_false, Bool.false_eq_true, Bool.true_eq_false, Bool.and_eq_true, Bool.or_eq_true, Bool.not_eq_true', decide_eq_true_eq, decide_eq_false_iff_not, decide_true, decide_false, and_self, true_and, and_true, or_true, true_or, or_false, false_or, and_false, false_and, or_self, reduceCtorEq, not_true_eq_false, not_false_eq_true, if_true, if_false, Int32.reduceAdd, Int32.reduceSub, Int32.reduceMul, Int32.reduceDiv, Int32.reduceMod, Int32.reduceLT, Int32.reduceLE, eqF1, eqF2, Int32.reduceOfNat, Int32.reduceOfInt, Int32.reduceToNatClampNeg, inb_lit, e_X9_weighed_0, e_X9_weighed_1, e_X9_weighed_3, e_X9_weighed_4, e_X9_weighed_5, e_X9_weighed_6, e_X9_weighed_8, e_X9_weighed_9, e_X9_weighed_13, e_X9_weighed_15, e_X9_weighed_18, e_X9_weighed_19, e_X9_weighed_21, e_X9_weighed_22, e_X9_weighed_25, e_X9_weighed_26, e_X9_weighed_29, e_X9_weighed_32, e_X9_weighed_35, e_X9_weighed_36, e_X9_weighed_40, e_X9_weighed_41, e_X9_weighed_44, e_X9_weighed_46, e_X9_weighed_48, e_X9_weighed_49, e_X9_weighed_50, e_X9_weighed_51, e_X9_weighed_52, e_X9_weighed_55, e_X9_weighed_56, e_X9_weighed_59, e_X9_weighed_60, e_X9_weighed_62, e_X9_weighed_64, e_X9_weighed_66, e_X9_weighed_69, e_X9_weighed_70, e_X9_weighed_71, e_X9_weighed_74, e_X9_weighed_76, e_X9_weighed_77, e_X9_weighed_78, e_X9_weighed_79, e_X9_weighed_80, e_X9_weighed_82, e_X9_weighed_83, e_X9_weighed_86, e_X9_weighed_88, e_X9_weighed_91, e_X9_weighed_92, e_X9_weighed_95, e_X9_weighed_97, e_X9_weighed_100, e_X9_weighed_103, e_X9_weighed_106, e_X9_weighed_107, e_X9_weighed_110, e_X9_weighed_113, e_X9_weighed_115, e_X9_weighed_116, e_X9_weighed_119, e_X9_weighed_121, e_X9_weighed_124, e_X9_weighed_127, e_X9_weighed_128, e_X9_weighed_131, e_X9_weighed_132, e_X9_weighed_134, e_X9_weighed_136, e_X9_weighed_138, e_X9_weighed_140, e_X9_weighed_143, e_X9_weighed_145, e_X9_weighed_148, e_X9_weighed_150, e_X9_weighed_151, e_X9_weighed_152, e_X9_weighed_153, e_X9_weighed_155, e_X9_weighed_158, e_X9_weighed_161, e_X9_weighed_163, sh_1, sh_2, sh_3, sh_4, sh_7, sh_8, sh_9, sh_10, sh_11, sh_12, sh_13, sh_29, sh_35, sh_50, sh_53, sh_54, sh_55, sh_56, qG_total (a := 53) (b := 54) sh_53 sh_54 hH2, q1_silentBy, s2, tl, c, oN_succ, vS] at e2 ⊢ <;> exact e2
    · obtain ⟨h', e2⟩ := ih (way + 1) (upA I 54 (hv W.2 (I 54))) (S + W.1 * (vS b l W.2).toInt64) (.long W.1) (.int (Int32.ofNat (totN W.2))) (.int 1) (by omega) (Or.inr ⟨_, rfl⟩) s2 hH8
      simp only [upA_upA] at e2
      refine ⟨h', ?_⟩
      rw [e_X9_weighed_11]
      simp only [K_some, K_void, K_none, wA_ref, wA_null, isNull_null, isNull_ref, c_int, c_long, c_ref, c_null, c_float, catS_nil, catS_cons, fit_int, fit_bool, fit_long, isO_mk, len_mk, fld_mk, gI_mk, gI0_mk, gZ_mk, gR_mk, isI_mk, isR_mk, tag_mk, lenE_mk, datR_mk, isOs, lenOs, fldS, lenS, gIs, gI0s, gZs, gRs, isIs, isRs, tagS, datRs, mkv, refV, fkS, isArr, tagOk, datI_mk, wrI_mk, wrA_mk, wrF_mk, wrJ_mk, List.length_cons, List.length_nil, List.getElem?_cons_zero, List.getElem?_cons_succ, List.getElem?_nil, ↓reduceIte, Nat.reduceAdd, Nat.reduceMul, Nat.reduceSub, Nat.reduceDiv, Nat.reduceMod, Nat.reduceLT, Nat.reduceLeDiff, Nat.reduceBEq, Nat.reduceEqDiff, Nat.zero_lt_succ, beq_self_eq_true, Bool.true_and, Bool.and_true, Bool.or_true, Bool.true_or, Bool.or_false, Bool.false_or, Bool.false_and, Bool.and_false, Bool.not_true, Bool.not_false, Bool.false_eq_true, Bool.true_eq_false, Bool.and_eq_true, Bool.or_eq_true, Bool.not_eq_true', decide_eq_true_eq, decide_eq_false_iff_not, decide_true, decide_false, and_self, true_and, and_true, or_true, true_or, or_false, false_or, and_false, false_and, or_self, reduceCtorEq, not_true_eq_false, not_false_eq_true, if_true, if_false, Int32.reduceAdd, Int32.reduceSub, Int32.reduceMul, Int32.reduceDiv, Int32.reduceMod, Int32.reduceLT, Int32.reduceLE, eqF1, eqF2, Int32.reduceOfNat, Int32.reduceOfInt, Int32.reduceToNatClampNeg, inb_lit, e_X9_weighed_0, e_X9_weighed_1, e_X9_weighed_3, e_X9_weighed_4, e_X9_weighed_5, e_X9_weighed_6, e_X9_weighed_8, e_X9_weighed_9, e_X9_weighed_13, e_X9_weighed_15, e_X9_weighed_18, e_X9_weighed_19, e_X9_weighed_21, e_X9_weighed_22, e_X9_weighed_25, e_X9_weighed_26, e_X9_weighed_29, e_X9_weighed_32, e_X9_weighed_35, e_X9_weighed_36, e_X9_weighed_40, e_X9_weighed_41, e_X9_weighed_44, e_X9_weighed_46, e_X9_weighed_48, e_X9_weighed_49, e_X9_weighed_50, e_X9_weighed_51, e_X9_weighed_52, e_X9_weighed_55, e_X9_weighed_56, e_X9_weighed_59, e_X9_weighed_60, e_X9_weighed_62, e_X9_weighed_64, e_X9_weighed_66, e_X9_weighed_69, e_X9_weighed_70, e_X9_weighed_71, e_X9_weighed_74, e_X9_weighed_76, e_X9_weighed_77, e_X9_weighed_78, e_X9_weighed_79, e_X9_weighed_80, e_X9_weighed_82, e_X9_weighed_83, e_X9_weighed_86, e_X9_weighed_88, e_X9_weighed_91, e_X9_weighed_92, e_X9_weighed_95, e_X9_weighed_97, e_X9_weighed_100, e_X9_weighed_103, e_X9_weighed_107, e_X9_weighed_110, e_X9_weighed_113, e_X9_weighed_115, e_X9_weighed_116, e_X9_weighed_119, e_X9_weighed_121, e_X9_weighed_124, e_X9_weighed_127, e_X9_weighed_128, e_X9_weighed_131, e_X9_weighed_132, e_X9_weighed_134, e_X9_weighed_136, e_X9_weighed_138, e_X9_weighed_140, e_X9_weighed_143, e_X9_weighed_145, e_X9_weighed_148, e_X9_weighed_150, e_X9_weighed_151, e_X9_weighed_152, e_X9_weighed_153, e_X9_weighed_155, e_X9_weighed_158, e_X9_weighed_161, e_X9_weighed_163, sh_1, sh_4, sh_7, sh_2, sh_3, sh_8, sh_9, sh_10, sh_11, sh_12, sh_13, sh_29, sh_35, sh_50, sh_53, sh_54, sh_55, sh_56, h1, qG_take (a := 53) (b := 54) (a' := 7) (b' := 8) sh_53 sh_54 sh_7 sh_8 hH]
      refine e.trans ?_
      simp only [sW, hW]
      cases b <;> simp only [K_some, K_void, K_none, wA_ref, wA_null, isNull_null, isNull_ref, c_int, c_long, c_ref, c_null, c_float, catS_nil, catS_cons, fit_int, fit_bool, fit_long, isO_mk, len_mk, fld_mk, gI_mk, gI0_mk, gZ_mk, gR_mk, isI_mk, isR_mk, tag_mk, lenE_mk, datR_mk, isOs, lenOs, fldS, lenS, gIs, gI0s, gZs, gRs, isIs, isRs, tagS, datRs, mkv, refV, fkS, isArr, tagOk, datI_mk, wrI_mk, wrA_mk, wrF_mk, wrJ_mk, List.length_cons, List.length_nil, List.getElem?_cons_zero, List.getElem?_cons_succ, List.getElem?_nil, ↓reduceIte, Nat.reduceAdd, Nat.reduceMul, Nat.reduceSub, Nat.reduceDiv, Nat.reduceMod, Nat.reduceLT, Nat.reduceLeDiff, Nat.reduceBEq, Nat.reduceEqDiff, Nat.zero_lt_succ, beq_self_eq_true, Bool.true_and, Bool.and_true, Bool.or_true, Bool.true_or, Bool.or_false, Bool.false_or, Bool.false_and, Bool.and_false, Bool.not_true, Bool.not_false, Bool.false_eq_true, Bool.true_eq_false, Bool.and_eq_true, Bool.or_eq_true, Bool.not_eq_true', decide_eq_true_eq, decide_eq_false_iff_not, decide_true, decide_false, and_self, true_and, and_true, or_true, true_or, or_false, false_or, and_false, false_and, or_self, reduceCtorEq, not_true_eq_false, not_false_eq_true, if_true, if_false, Int32.reduceAdd, Int32.reduceSub, Int32.reduceMul, Int32.reduceDiv, Int32.reduceMod, Int32.reduceLT, Int32.reduceLE, eqF1, eqF2, Int32.reduceOfNat, Int32.reduceOfInt, Int32.reduceToNatClampNeg, inb_lit, e_X9_weighed_0, e_X9_weighed_1, e_X9_weighed_3, e_X9_weighed_4, e_X9_weighed_5, e_X9_weighed_6, e_X9_weighed_8, e_X9_weighed_9, e_X9_weighed_13, e_X9_weighed_15, e_X9_weighed_18, e_X9_weighed_19, e_X9_weighed_21, e_X9_weighed_22, e_X9_weighed_25, e_X9_weighed_26, e_X9_weighed_29, e_X9_weighed_32, e_X9_weighed_35, e_X9_weighed_36, e_X9_weighed_40, e_X9_weighed_41, e_X9_weighed_44, e_X9_weighed_46, e_X9_weighed_48, e_X9_weighed_49, e_X9_weighed_50, e_X9_weighed_51, e_X9_weighed_52, e_X9_weighed_55, e_X9_weighed_56, e_X9_weighed_59, e_X9_weighed_60, e_X9_weighed_62, e_X9_weighed_64, e_X9_weighed_66, e_X9_weighed_69, e_X9_weighed_70, e_X9_weighed_71, e_X9_weighed_74, e_X9_weighed_76, e_X9_weighed_77, e_X9_weighed_78, e_X9_weighed_79, e_X9_weighed_80, e_X9_weighed_82, e_X9_weighed_83, e_X9_weighed_86, e_X9_weighed_88, e_X9_weighed_91, e_X9_weighed_92, e_X9_weighed_95, e_X9_weighed_97, e_X9_weighed_100, e_X9_weighed_103, e_X9_weighed_106, e_X9_weighed_107, e_X9_weighed_110, e_X9_weighed_113, e_X9_weighed_115, e_X9_weighed_116, e_X9_weighed_119, e_X9_weighed_121, e_X9_weighed_124, e_X9_weighed_127, e_X9_weighed_128, e_X9_weighed_131, e_X9_weighed_132, e_X9_weighed_134, e_X9_weighed_136, e_X9_weighed_138, e_X9_weighed_140, e_X9_weighed_143, e_X9_weighed_145, e_X9_weighed_148, e_X9_weighed_150, e_X9_weighed_151, e_X9_weighed_152, e_X9_weighed_153, e_X9_weighed_155, e_X9_weighed_158, e_X9_weighed_161, e_X9_weighed_163, sh_1, sh_2, sh_3, sh_4, sh_7, sh_8, sh_9, sh_10, sh_11, sh_12, sh_13, sh_29, sh_35, sh_50, sh_53, sh_54, sh_55, sh_56, qG_total (a := 53) (b := 54) sh_53 sh_54 hH2, q1_silentBy, s2, tl, c, oN_succ, vS] at e2 ⊢ <;> exact e2
theorem sh_one : ∀ n : Fin 7, (1 : Int32) <<< (Int32.ofNat n.val &&& 31) = Int32.ofNat (2 ^ n.val) := by decide +kernel
theorem q9_weighed (b : Bool) (hm : μ < 4) (hn : n ≤ 6) (hl : l ≤ 60) (hs : I 4 5 = Int32.ofNat l) (hH : ∀ k, k < 8 → I 8 k = vi (H k)) : ∃ h', C (d + 5) iX9_weighed [.ref 1, .int (Int32.ofNat n), .int (Int32.ofNat μ), .int p, .int (if b = true then 1 else 0)] (mk N I J) = some (some (.long (sW b l n μ p H (2 ^ n) 0 0)), mk N (upA I 54 h') J) := by
  obtain ⟨h', e⟩ := cw_out (d := d) (N := N) (J := J) (p := p) b hm hn hl (2 ^ n) 0 I 0 (.float 0) (.float 0) (.float 0) (by omega) (Or.inl rfl) hs hH
  rw [show Int32.ofNat 0 = 0 from rfl] at e
  have so := sh_one ⟨n, by omega⟩
  simp only at so
  refine ⟨h', ?_⟩
  simp only [K_some, K_void, K_none, wA_ref, wA_null, isNull_null, isNull_ref, c_int, c_long, c_ref, c_null, c_float, catS_nil, catS_cons, fit_int, fit_bool, fit_long, isO_mk, len_mk, fld_mk, gI_mk, gI0_mk, gZ_mk, gR_mk, isI_mk, isR_mk, tag_mk, lenE_mk, datR_mk, isOs, lenOs, fldS, lenS, gIs, gI0s, gZs, gRs, isIs, isRs, tagS, datRs, mkv, refV, fkS, isArr, tagOk, datI_mk, wrI_mk, wrA_mk, wrF_mk, wrJ_mk, List.length_cons, List.length_nil, List.getElem?_cons_zero, List.getElem?_cons_succ, List.getElem?_nil, ↓reduceIte, Nat.reduceAdd, Nat.reduceMul, Nat.reduceSub, Nat.reduceDiv, Nat.reduceMod, Nat.reduceLT, Nat.reduceLeDiff, Nat.reduceBEq, Nat.reduceEqDiff, Nat.zero_lt_succ, beq_self_eq_true, Bool.true_and, Bool.and_true, Bool.or_true, Bool.true_or, Bool.or_false, Bool.false_or, Bool.false_and, Bool.and_false, Bool.not_true, Bool.not_false, Bool.false_eq_true, Bool.true_eq_false, Bool.and_eq_true, Bool.or_eq_true, Bool.not_eq_true', decide_eq_true_eq, decide_eq_false_iff_not, decide_true, decide_false, and_self, true_and, and_true, or_true, true_or, or_false, false_or, and_false, false_and, or_self, reduceCtorEq, not_true_eq_false, not_false_eq_true, if_true, if_false, Int32.reduceAdd, Int32.reduceSub, Int32.reduceMul, Int32.reduceDiv, Int32.reduceMod, Int32.reduceLT, Int32.reduceLE, eqF1, eqF2, Int32.reduceOfNat, Int32.reduceOfInt, Int32.reduceToNatClampNeg, inb_lit, en_X9_weighed, e_X9_weighed_0, e_X9_weighed_1, e_X9_weighed_3, e_X9_weighed_4, e_X9_weighed_5, e_X9_weighed_6, e_X9_weighed_8, e_X9_weighed_9, e_X9_weighed_13, e_X9_weighed_15, e_X9_weighed_18, e_X9_weighed_19, e_X9_weighed_21, e_X9_weighed_22, e_X9_weighed_25, e_X9_weighed_26, e_X9_weighed_29, e_X9_weighed_32, e_X9_weighed_35, e_X9_weighed_36, e_X9_weighed_38, e_X9_weighed_40, e_X9_weighed_41, e_X9_weighed_44, e_X9_weighed_46, e_X9_weighed_48, e_X9_weighed_49, e_X9_weighed_50, e_X9_weighed_51, e_X9_weighed_52, e_X9_weighed_55, e_X9_weighed_56, e_X9_weighed_59, e_X9_weighed_60, e_X9_weighed_62, e_X9_weighed_64, e_X9_weighed_66, e_X9_weighed_69, e_X9_weighed_70, e_X9_weighed_71, e_X9_weighed_74, e_X9_weighed_76, e_X9_weighed_77, e_X9_weighed_78, e_X9_weighed_79, e_X9_weighed_80, e_X9_weighed_82, e_X9_weighed_83, e_X9_weighed_86, e_X9_weighed_88, e_X9_weighed_91, e_X9_weighed_92, e_X9_weighed_95, e_X9_weighed_97, e_X9_weighed_100, e_X9_weighed_103, e_X9_weighed_106, e_X9_weighed_107, e_X9_weighed_110, e_X9_weighed_113, e_X9_weighed_115, e_X9_weighed_116, e_X9_weighed_119, e_X9_weighed_121, e_X9_weighed_124, e_X9_weighed_127, e_X9_weighed_128, e_X9_weighed_131, e_X9_weighed_132, e_X9_weighed_134, e_X9_weighed_136, e_X9_weighed_138, e_X9_weighed_140, e_X9_weighed_143, e_X9_weighed_145, e_X9_weighed_148, e_X9_weighed_150, e_X9_weighed_151, e_X9_weighed_152, e_X9_weighed_153, e_X9_weighed_155, e_X9_weighed_158, e_X9_weighed_161, e_X9_weighed_163, so]
  exact e
theorem cp12 : ∀ (j q : Nat) (A : Int64), q + j = n → n ≤ 6 → R d iX9_power 5 [.long 12, .float 0, .int (Int32.ofNat n), .long A, .float 0, .int (Int32.ofNat q)] [] M = some (some (.long (pN j A)), M) := by
  intro j
  induction j with
  | zero =>
    intro q A hq hn
    have h1 : ¬ Int32.ofNat q < Int32.ofNat n := fun h => by have := (oN_lt (by omega) (by omega)).mp h; omega
    rw [e_X9_power_5]
    simp only [K_some, K_void, K_none, wA_ref, wA_null, isNull_null, isNull_ref, c_int, c_long, c_ref, c_null, c_float, catS_nil, catS_cons, fit_int, fit_bool, fit_long, isO_mk, len_mk, fld_mk, gI_mk, gI0_mk, gZ_mk, gR_mk, isI_mk, isR_mk, tag_mk, lenE_mk, datR_mk, isOs, lenOs, fldS, lenS, gIs, gI0s, gZs, gRs, isIs, isRs, tagS, datRs, mkv, refV, fkS, isArr, tagOk, datI_mk, wrI_mk, wrA_mk, wrF_mk, wrJ_mk, List.length_cons, List.length_nil, List.getElem?_cons_zero, List.getElem?_cons_succ, List.getElem?_nil, ↓reduceIte, Nat.reduceAdd, Nat.reduceMul, Nat.reduceSub, Nat.reduceDiv, Nat.reduceMod, Nat.reduceLT, Nat.reduceLeDiff, Nat.reduceBEq, Nat.reduceEqDiff, Nat.zero_lt_succ, beq_self_eq_true, Bool.true_and, Bool.and_true, Bool.or_true, Bool.true_or, Bool.or_false, Bool.false_or, Bool.false_and, Bool.and_false, Bool.not_true, Bool.not_false, Bool.false_eq_true, Bool.true_eq_false, Bool.and_eq_true, Bool.or_eq_true, Bool.not_eq_true', decide_eq_true_eq, decide_eq_false_iff_not, decide_true, decide_false, and_self, true_and, and_true, or_true, true_or, or_false, false_or, and_false, false_and, or_self, reduceCtorEq, not_true_eq_false, not_false_eq_true, if_true, if_false, Int32.reduceAdd, Int32.reduceSub, Int32.reduceMul, Int32.reduceDiv, Int32.reduceMod, Int32.reduceLT, Int32.reduceLE, eqF1, eqF2, Int32.reduceOfNat, Int32.reduceOfInt, Int32.reduceToNatClampNeg, inb_lit, e_X9_power_0, e_X9_power_1, e_X9_power_2, e_X9_power_3, e_X9_power_7, e_X9_power_8, e_X9_power_11, e_X9_power_12, e_X9_power_13, e_X9_power_14, e_X9_power_15, e_X9_power_18, e_X9_power_21, e_X9_power_22, h1, pN]
  | succ j ih =>
    intro q A hq hn
    have h1 : Int32.ofNat q < Int32.ofNat n := (oN_lt (by omega) (by omega)).mpr (by omega)
    rw [e_X9_power_5]
    simp only [K_some, K_void, K_none, wA_ref, wA_null, isNull_null, isNull_ref, c_int, c_long, c_ref, c_null, c_float, catS_nil, catS_cons, fit_int, fit_bool, fit_long, isO_mk, len_mk, fld_mk, gI_mk, gI0_mk, gZ_mk, gR_mk, isI_mk, isR_mk, tag_mk, lenE_mk, datR_mk, isOs, lenOs, fldS, lenS, gIs, gI0s, gZs, gRs, isIs, isRs, tagS, datRs, mkv, refV, fkS, isArr, tagOk, datI_mk, wrI_mk, wrA_mk, wrF_mk, wrJ_mk, List.length_cons, List.length_nil, List.getElem?_cons_zero, List.getElem?_cons_succ, List.getElem?_nil, ↓reduceIte, Nat.reduceAdd, Nat.reduceMul, Nat.reduceSub, Nat.reduceDiv, Nat.reduceMod, Nat.reduceLT, Nat.reduceLeDiff, Nat.reduceBEq, Nat.reduceEqDiff, Nat.zero_lt_succ, beq_self_eq_true, Bool.true_and, Bool.and_true, Bool.or_true, Bool.true_or, Bool.or_false, Bool.false_or, Bool.false_and, Bool.and_false, Bool.not_true, Bool.not_false, Bool.false_eq_true, Bool.true_eq_false, Bool.and_eq_true, Bool.or_eq_true, Bool.not_eq_true', decide_eq_true_eq, decide_eq_false_iff_not, decide_true, decide_false, and_self, true_and, and_true, or_true, true_or, or_false, false_or, and_false, false_and, or_self, reduceCtorEq, not_true_eq_false, not_false_eq_true, if_true, if_false, Int32.reduceAdd, Int32.reduceSub, Int32.reduceMul, Int32.reduceDiv, Int32.reduceMod, Int32.reduceLT, Int32.reduceLE, eqF1, eqF2, Int32.reduceOfNat, Int32.reduceOfInt, Int32.reduceToNatClampNeg, inb_lit, e_X9_power_0, e_X9_power_1, e_X9_power_2, e_X9_power_3, e_X9_power_7, e_X9_power_8, e_X9_power_11, e_X9_power_12, e_X9_power_13, e_X9_power_14, e_X9_power_15, e_X9_power_18, e_X9_power_21, e_X9_power_22, h1, oN_succ, pN]
    exact ih (q + 1) _ (by omega) hn
theorem ceu : ∀ (j q : Nat) (x y : Int64) (u : Value), q + j = 1000 → u = .float 0 ∨ (∃ q, u = .long q) → R d iX7_commonPart 9 [.long A, .float 0, .long P, .float 0, .long x, .float 0, .long y, .float 0, .int (Int32.ofNat q), u, .float 0] [] M = some (some (.long (eu j x y).1), M) := by
  intro j
  induction j with
  | zero =>
    intro q x y u hq hu
    obtain rfl : q = 1000 := by omega
    rw [e_X7_commonPart_9]
    simp only [K_some, K_void, K_none, wA_ref, wA_null, isNull_null, isNull_ref, c_int, c_long, c_ref, c_null, c_float, catS_nil, catS_cons, fit_int, fit_bool, fit_long, isO_mk, len_mk, fld_mk, gI_mk, gI0_mk, gZ_mk, gR_mk, isI_mk, isR_mk, tag_mk, lenE_mk, datR_mk, isOs, lenOs, fldS, lenS, gIs, gI0s, gZs, gRs, isIs, isRs, tagS, datRs, mkv, refV, fkS, isArr, tagOk, datI_mk, wrI_mk, wrA_mk, wrF_mk, wrJ_mk, List.length_cons, List.length_nil, List.getElem?_cons_zero, List.getElem?_cons_succ, List.getElem?_nil, ↓reduceIte, Nat.reduceAdd, Nat.reduceMul, Nat.reduceSub, Nat.reduceDiv, Nat.reduceMod, Nat.reduceLT, Nat.reduceLeDiff, Nat.reduceBEq, Nat.reduceEqDiff, Nat.zero_lt_succ, beq_self_eq_true, Bool.true_and, Bool.and_true, Bool.or_true, Bool.true_or, Bool.or_false, Bool.false_or, Bool.false_and, Bool.and_false, Bool.not_true, Bool.not_false, Bool.false_eq_true, Bool.true_eq_false, Bool.and_eq_true, Bool.or_eq_true, Bool.not_eq_true', decide_eq_true_eq, decide_eq_false_iff_not, decide_true, decide_false, and_self, true_and, and_true, or_true, true_or, or_false, false_or, and_false, false_and, or_self, reduceCtorEq, not_true_eq_false, not_false_eq_true, if_true, if_false, Int32.reduceAdd, Int32.reduceSub, Int32.reduceMul, Int32.reduceDiv, Int32.reduceMod, Int32.reduceLT, Int32.reduceLE, eqF1, eqF2, Int32.reduceOfNat, Int32.reduceOfInt, Int32.reduceToNatClampNeg, inb_lit, e_X7_commonPart_0, e_X7_commonPart_1, e_X7_commonPart_3, e_X7_commonPart_4, e_X7_commonPart_6, e_X7_commonPart_7, e_X7_commonPart_11, e_X7_commonPart_14, e_X7_commonPart_17, e_X7_commonPart_19, e_X7_commonPart_20, e_X7_commonPart_21, e_X7_commonPart_24, e_X7_commonPart_26, e_X7_commonPart_28, e_X7_commonPart_29, e_X7_commonPart_31, e_X7_commonPart_33, e_X7_commonPart_35, e_X7_commonPart_37, e_X7_commonPart_39, e_X7_commonPart_42, e_X7_commonPart_45, e_X7_commonPart_47, eu]
  | succ j ih =>
    intro q x y u hq hu
    have h1 : Int32.ofNat q < 1000 := (oN_lt (j := q) (k := 1000) (by omega) (by omega)).mpr (by omega)
    rw [e_X7_commonPart_9]
    by_cases c : y = 0
    · simp only [K_some, K_void, K_none, wA_ref, wA_null, isNull_null, isNull_ref, c_int, c_long, c_ref, c_null, c_float, catS_nil, catS_cons, fit_int, fit_bool, fit_long, isO_mk, len_mk, fld_mk, gI_mk, gI0_mk, gZ_mk, gR_mk, isI_mk, isR_mk, tag_mk, lenE_mk, datR_mk, isOs, lenOs, fldS, lenS, gIs, gI0s, gZs, gRs, isIs, isRs, tagS, datRs, mkv, refV, fkS, isArr, tagOk, datI_mk, wrI_mk, wrA_mk, wrF_mk, wrJ_mk, List.length_cons, List.length_nil, List.getElem?_cons_zero, List.getElem?_cons_succ, List.getElem?_nil, ↓reduceIte, Nat.reduceAdd, Nat.reduceMul, Nat.reduceSub, Nat.reduceDiv, Nat.reduceMod, Nat.reduceLT, Nat.reduceLeDiff, Nat.reduceBEq, Nat.reduceEqDiff, Nat.zero_lt_succ, beq_self_eq_true, Bool.true_and, Bool.and_true, Bool.or_true, Bool.true_or, Bool.or_false, Bool.false_or, Bool.false_and, Bool.and_false, Bool.not_true, Bool.not_false, Bool.false_eq_true, Bool.true_eq_false, Bool.and_eq_true, Bool.or_eq_true, Bool.not_eq_true', decide_eq_true_eq, decide_eq_false_iff_not, decide_true, decide_false, and_self, true_and, and_true, or_true, true_or, or_false, false_or, and_false, false_and, or_self, reduceCtorEq, not_true_eq_false, not_false_eq_true, if_true, if_false, Int32.reduceAdd, Int32.reduceSub, Int32.reduceMul, Int32.reduceDiv, Int32.reduceMod, Int32.reduceLT, Int32.reduceLE, eqF1, eqF2, Int32.reduceOfNat, Int32.reduceOfInt, Int32.reduceToNatClampNeg, inb_lit, e_X7_commonPart_0, e_X7_commonPart_1, e_X7_commonPart_3, e_X7_commonPart_4, e_X7_commonPart_6, e_X7_commonPart_7, e_X7_commonPart_11, e_X7_commonPart_14, e_X7_commonPart_17, e_X7_commonPart_19, e_X7_commonPart_20, e_X7_commonPart_21, e_X7_commonPart_24, e_X7_commonPart_26, e_X7_commonPart_28, e_X7_commonPart_29, e_X7_commonPart_31, e_X7_commonPart_33, e_X7_commonPart_35, e_X7_commonPart_37, e_X7_commonPart_39, e_X7_commonPart_42, e_X7_commonPart_45, e_X7_commonPart_47, h1, lc_eq, c, eu]
    · simp only [K_some, K_void, K_none, wA_ref, wA_null, isNull_null, isNull_ref, c_int, c_long, c_ref, c_null, c_float, catS_nil, catS_cons, fit_int, fit_bool, fit_long, isO_mk, len_mk, fld_mk, gI_mk, gI0_mk, gZ_mk, gR_mk, isI_mk, isR_mk, tag_mk, lenE_mk, datR_mk, isOs, lenOs, fldS, lenS, gIs, gI0s, gZs, gRs, isIs, isRs, tagS, datRs, mkv, refV, fkS, isArr, tagOk, datI_mk, wrI_mk, wrA_mk, wrF_mk, wrJ_mk, List.length_cons, List.length_nil, List.getElem?_cons_zero, List.getElem?_cons_succ, List.getElem?_nil, ↓reduceIte, Nat.reduceAdd, Nat.reduceMul, Nat.reduceSub, Nat.reduceDiv, Nat.reduceMod, Nat.reduceLT, Nat.reduceLeDiff, Nat.reduceBEq, Nat.reduceEqDiff, Nat.zero_lt_succ, beq_self_eq_true, Bool.true_and, Bool.and_true, Bool.or_true, Bool.true_or, Bool.or_false, Bool.false_or, Bool.false_and, Bool.and_false, Bool.not_true, Bool.not_false, Bool.false_eq_true, Bool.true_eq_false, Bool.and_eq_true, Bool.or_eq_true, Bool.not_eq_true', decide_eq_true_eq, decide_eq_false_iff_not, decide_true, decide_false, and_self, true_and, and_true, or_true, true_or, or_false, false_or, and_false, false_and, or_self, reduceCtorEq, not_true_eq_false, not_false_eq_true, if_true, if_false, Int32.reduceAdd, Int32.reduceSub, Int32.reduceMul, Int32.reduceDiv, Int32.reduceMod, Int32.reduceLT, Int32.reduceLE, eqF1, eqF2, Int32.reduceOfNat, Int32.reduceOfInt, Int32.reduceToNatClampNeg, inb_lit, e_X7_commonPart_0, e_X7_commonPart_1, e_X7_commonPart_3, e_X7_commonPart_4, e_X7_commonPart_6, e_X7_commonPart_7, e_X7_commonPart_11, e_X7_commonPart_14, e_X7_commonPart_17, e_X7_commonPart_19, e_X7_commonPart_20, e_X7_commonPart_21, e_X7_commonPart_24, e_X7_commonPart_26, e_X7_commonPart_28, e_X7_commonPart_29, e_X7_commonPart_31, e_X7_commonPart_33, e_X7_commonPart_35, e_X7_commonPart_37, e_X7_commonPart_39, e_X7_commonPart_42, e_X7_commonPart_45, e_X7_commonPart_47, h1, lc_eq, c, eu, oN_succ]
      exact ih (q + 1) _ _ _ (by omega) (Or.inr ⟨_, rfl⟩)
theorem z_parts (hP : P ≠ 0) (hB : P.toInt.natAbs < 2 ^ 22) : C (d + 2) iX7_tellParts [.ref 55, .long A, .long P] (mk N I J) = some (none, mk N I (upJ (upJ J 55 3 (A / (eu 45 A P).1)) 55 4 (P / (eu 45 A P).1))) ∧ (eu 45 A P).2 = 0 := by
  have h0 := eu_t 22 A P hB
  have h1 := eu_mono (k' := 1000) h0 (by omega)
  have h2 := eu_ne (k := 2 * 22 + 1) (Or.inr hP) h0
  simp only [Nat.reduceMul, Nat.reduceAdd] at h0 h1 h2
  refine ⟨?_, h0⟩
  have e := ceu (d := d) (M := mk N I J) (A := A) (P := P) 1000 0 A P (.float 0) (by omega) (Or.inl rfl)
  rw [h1, show Int32.ofNat 0 = 0 from rfl] at e
  simp only [K_some, K_void, K_none, wA_ref, wA_null, isNull_null, isNull_ref, c_int, c_long, c_ref, c_null, c_float, catS_nil, catS_cons, fit_int, fit_bool, fit_long, isO_mk, len_mk, fld_mk, gI_mk, gI0_mk, gZ_mk, gR_mk, isI_mk, isR_mk, tag_mk, lenE_mk, datR_mk, isOs, lenOs, fldS, lenS, gIs, gI0s, gZs, gRs, isIs, isRs, tagS, datRs, mkv, refV, fkS, isArr, tagOk, datI_mk, wrI_mk, wrA_mk, wrF_mk, wrJ_mk, List.length_cons, List.length_nil, List.getElem?_cons_zero, List.getElem?_cons_succ, List.getElem?_nil, ↓reduceIte, Nat.reduceAdd, Nat.reduceMul, Nat.reduceSub, Nat.reduceDiv, Nat.reduceMod, Nat.reduceLT, Nat.reduceLeDiff, Nat.reduceBEq, Nat.reduceEqDiff, Nat.zero_lt_succ, beq_self_eq_true, Bool.true_and, Bool.and_true, Bool.or_true, Bool.true_or, Bool.or_false, Bool.false_or, Bool.false_and, Bool.and_false, Bool.not_true, Bool.not_false, Bool.false_eq_true, Bool.true_eq_false, Bool.and_eq_true, Bool.or_eq_true, Bool.not_eq_true', decide_eq_true_eq, decide_eq_false_iff_not, decide_true, decide_false, and_self, true_and, and_true, or_true, true_or, or_false, false_or, and_false, false_and, or_self, reduceCtorEq, not_true_eq_false, not_false_eq_true, if_true, if_false, Int32.reduceAdd, Int32.reduceSub, Int32.reduceMul, Int32.reduceDiv, Int32.reduceMod, Int32.reduceLT, Int32.reduceLE, eqF1, eqF2, Int32.reduceOfNat, Int32.reduceOfInt, Int32.reduceToNatClampNeg, inb_lit, en_X7_tellParts, e_X7_tellParts_0, e_X7_tellParts_1, e_X7_tellParts_2, e_X7_tellParts_5, e_X7_tellParts_7, e_X7_tellParts_9, e_X7_tellParts_10, e_X7_tellParts_11, e_X7_tellParts_14, e_X7_tellParts_15, e_X7_tellParts_16, e_X7_tellParts_17, e_X7_tellParts_19, e_X7_tellParts_20, e_X7_tellParts_23, e_X7_tellParts_24, e_X7_tellParts_25, e_X7_tellParts_27, e_X7_tellParts_28, e_X7_tellParts_31, en_X7_commonPart, e_X7_commonPart_0, e_X7_commonPart_1, e_X7_commonPart_3, e_X7_commonPart_4, e_X7_commonPart_6, e_X7_commonPart_7, e_X7_commonPart_11, e_X7_commonPart_14, e_X7_commonPart_17, e_X7_commonPart_19, e_X7_commonPart_20, e_X7_commonPart_21, e_X7_commonPart_24, e_X7_commonPart_26, e_X7_commonPart_28, e_X7_commonPart_29, e_X7_commonPart_31, e_X7_commonPart_33, e_X7_commonPart_35, e_X7_commonPart_37, e_X7_commonPart_39, e_X7_commonPart_42, e_X7_commonPart_45, e_X7_commonPart_47, sh_55, sh_1, sh_2, sh_3, sh_4, sh_7, sh_8, sh_9, sh_10, sh_11, sh_12, sh_13, sh_29, sh_35, sh_50, sh_53, sh_54, sh_56]
  rw [e]
  simp only [K_some, K_void, K_none, wA_ref, wA_null, isNull_null, isNull_ref, c_int, c_long, c_ref, c_null, c_float, catS_nil, catS_cons, fit_int, fit_bool, fit_long, isO_mk, len_mk, fld_mk, gI_mk, gI0_mk, gZ_mk, gR_mk, isI_mk, isR_mk, tag_mk, lenE_mk, datR_mk, isOs, lenOs, fldS, lenS, gIs, gI0s, gZs, gRs, isIs, isRs, tagS, datRs, mkv, refV, fkS, isArr, tagOk, datI_mk, wrI_mk, wrA_mk, wrF_mk, wrJ_mk, List.length_cons, List.length_nil, List.getElem?_cons_zero, List.getElem?_cons_succ, List.getElem?_nil, ↓reduceIte, Nat.reduceAdd, Nat.reduceMul, Nat.reduceSub, Nat.reduceDiv, Nat.reduceMod, Nat.reduceLT, Nat.reduceLeDiff, Nat.reduceBEq, Nat.reduceEqDiff, Nat.zero_lt_succ, beq_self_eq_true, Bool.true_and, Bool.and_true, Bool.or_true, Bool.true_or, Bool.or_false, Bool.false_or, Bool.false_and, Bool.and_false, Bool.not_true, Bool.not_false, Bool.false_eq_true, Bool.true_eq_false, Bool.and_eq_true, Bool.or_eq_true, Bool.not_eq_true', decide_eq_true_eq, decide_eq_false_iff_not, decide_true, decide_false, and_self, true_and, and_true, or_true, true_or, or_false, false_or, and_false, false_and, or_self, reduceCtorEq, not_true_eq_false, not_false_eq_true, if_true, if_false, Int32.reduceAdd, Int32.reduceSub, Int32.reduceMul, Int32.reduceDiv, Int32.reduceMod, Int32.reduceLT, Int32.reduceLE, eqF1, eqF2, Int32.reduceOfNat, Int32.reduceOfInt, Int32.reduceToNatClampNeg, inb_lit, e_X7_tellParts_0, e_X7_tellParts_1, e_X7_tellParts_2, e_X7_tellParts_5, e_X7_tellParts_7, e_X7_tellParts_9, e_X7_tellParts_10, e_X7_tellParts_11, e_X7_tellParts_14, e_X7_tellParts_15, e_X7_tellParts_16, e_X7_tellParts_17, e_X7_tellParts_19, e_X7_tellParts_20, e_X7_tellParts_23, e_X7_tellParts_24, e_X7_tellParts_25, e_X7_tellParts_27, e_X7_tellParts_28, e_X7_tellParts_31, sh_55, sh_1, sh_2, sh_3, sh_4, sh_7, sh_8, sh_9, sh_10, sh_11, sh_12, sh_13, sh_29, sh_35, sh_50, sh_53, sh_54, sh_56, lc_eq, h2]
theorem eu_nat : ∀ (k a b : Nat), a < 9223372036854775808 → b < 9223372036854775808 → (eu k (Int64.ofNat a) (Int64.ofNat b)).2 = 0 → (eu k (Int64.ofNat a) (Int64.ofNat b)).1 = Int64.ofNat (Nat.gcd a b) := by
  intro k
  induction k with
  | zero =>
    intro a b ha hb h
    have h2 : Int64.ofNat b = Int64.ofNat 0 := h
    have h3 : b = 0 := (o64_inj hb (by omega)).mp h2
    subst h3
    show Int64.ofNat a = _
    rw [Nat.gcd_zero_right]
  | succ k ih =>
    intro a b ha hb h
    unfold eu at h ⊢
    have e0 : (Int64.ofNat b = 0) = (b = 0) := by rw [show (0 : Int64) = Int64.ofNat 0 from rfl]; exact o64_inj hb (by omega)
    by_cases c : b = 0
    · subst c
      rw [if_pos (by rfl)]
      show Int64.ofNat a = _
      rw [Nat.gcd_zero_right]
    · have c' : ¬ Int64.ofNat b = 0 := by rw [e0]; exact c
      rw [if_neg c'] at h ⊢
      rw [o64_mod ha hb] at h ⊢
      have hm : a % b < b := Nat.mod_lt _ (by omega)
      rw [ih b (a % b) hb (by omega) h]
      congr 1
      rw [Nat.gcd_comm a b, Nat.gcd_rec b a, Nat.gcd_comm]
def wtN (way p : Nat) : Nat → Nat → Nat → Nat
  | 0, _, w => w
  | j + 1, d, w => wtN way p j (d + 1) (w * if way.testBit d = true then p else 12 - p)
def wH (way μ : Nat) : Nat → Nat → (Nat → Fin 13) → Nat → Fin 13
  | 0, _, H => H
  | j + 1, d, H => wH way μ j (d + 1) (pS (if way.testBit d = true then μ + 1 else 0) H)
def vN (b : Bool) (l : Nat) (H : Nat → Fin 13) : Nat := if b = true then (if totN H < l then 0 else 1) else totN H
def sN2 (b : Bool) (l n μ p : Nat) (H : Nat → Fin 13) : Nat → Nat → Nat → Nat
  | 0, _, s => s
  | j + 1, way, s => sN2 b l n μ p H j (way + 1) (s + wtN way p n 0 1 * vN b l (wH way μ n 0 H))
theorem wy_nat {way μ p : Nat} (hp : p ≤ 12) : ∀ (j d w : Nat) (H : Nat → Fin 13), wy way μ (Int32.ofNat p) j d (Int64.ofNat w) H = (Int64.ofNat (wtN way p j d w), wH way μ j d H) := by
  intro j
  induction j with
  | zero => intro d w H; rfl
  | succ j ih =>
    intro d w H
    unfold wy wtN wH
    have e1 : (if way.testBit d = true then Int32.ofNat p else 12 - Int32.ofNat p).toInt64 = Int64.ofNat (if way.testBit d = true then p else 12 - p) := by
      by_cases c : way.testBit d = true
      · rw [if_pos c, if_pos c]; exact o32_64 (by omega)
      · rw [if_neg c, if_neg c, show (12 : Int32) = Int32.ofNat 12 from rfl, oN_sub hp (by omega)]; exact o32_64 (by omega)
    rw [e1, ← Int64.ofNat_mul]
    exact ih (d + 1) _ _
theorem vS_nat {b : Bool} {H : Nat → Fin 13} : (vS b l H).toInt64 = Int64.ofNat (vN b l H) := by
  unfold vS vN
  cases b
  · simp only [Bool.false_eq_true, if_false]
    exact o32_64 (by have := totN_le H; omega)
  · simp only [if_true]
    split <;> rfl
theorem sW_nat {b : Bool} {p : Nat} (hp : p ≤ 12) : ∀ (j way s : Nat), sW b l n μ (Int32.ofNat p) H j way (Int64.ofNat s) = Int64.ofNat (sN2 b l n μ p H j way s) := by
  intro j
  induction j with
  | zero => intro way s; rfl
  | succ j ih =>
    intro way s
    unfold sW sN2
    have e := wy_nat (way := way) (μ := μ) hp n 0 1 H
    rw [show Int64.ofNat 1 = 1 from rfl] at e
    rw [e]
    simp only
    rw [vS_nat, ← Int64.ofNat_mul, ← Int64.ofNat_add]
    exact ih (way + 1) _
theorem p12 : ∀ n : Fin 7, pN n.val 1 = Int64.ofNat (12 ^ n.val) ∧ 12 ^ n.val ≤ 2985984 := by decide +kernel
/-- odds(k, m, p) and mid(k, m, p) -/
theorem z_chance {p : Nat} (hW : WO T n l f H0 K D I) (hk : k ≤ 6) (hm : m < 4) (hp : p ≤ 12) : (∃ I', C (d + 10) iX9_odds [.ref 1, .int (Int32.ofNat k), .int (Int32.ofNat m), .int (Int32.ofNat p)] (mk N I J) = some (some (.int 1), mk N I' (upJ (upJ J 55 3 (Int64.ofNat (sN2 true l k m p (hF H0 D) (2 ^ k) 0 0) / (eu 45 (Int64.ofNat (sN2 true l k m p (hF H0 D) (2 ^ k) 0 0)) (Int64.ofNat (12 ^ k))).1)) 55 4 (Int64.ofNat (12 ^ k) / (eu 45 (Int64.ofNat (sN2 true l k m p (hF H0 D) (2 ^ k) 0 0)) (Int64.ofNat (12 ^ k))).1))) ∧ WO T n l f H0 K D I' ∧ RWq I I' ∧ I' 55 = I 55) ∧ (∃ I', C (d + 10) iX9_mid [.ref 1, .int (Int32.ofNat k), .int (Int32.ofNat m), .int (Int32.ofNat p)] (mk N I J) = some (some (.int 1), mk N I' (upJ (upJ J 55 3 (Int64.ofNat (sN2 false l k m p (hF H0 D) (2 ^ k) 0 0) / (eu 45 (Int64.ofNat (sN2 false l k m p (hF H0 D) (2 ^ k) 0 0)) (Int64.ofNat (12 ^ k))).1)) 55 4 (Int64.ofNat (12 ^ k) / (eu 45 (Int64.ofNat (sN2 false l k m p (hF H0 D) (2 ^ k) 0 0)) (Int64.ofNat (12 ^ k))).1))) ∧ WO T n l f H0 K D I' ∧ RWq I I' ∧ I' 55 = I 55) := by
  obtain ⟨-, -, f3, f4, f5, f6, f7, f8, f9, -⟩ := wo_fa hW
  obtain ⟨l1, l2, l3, e5, -⟩ := wo_l hW
  have b1 := oN_neg (k := k) (by omega)
  have b2 : ¬ 6 < Int32.ofNat k := fun h => by have := (oN_lt (j := 6) (k := k) (by omega) (by omega)).mp h; omega
  have b3 := oN_neg (k := m) (by omega)
  have b4 : ¬ 3 < Int32.ofNat m := fun h => by have := (oN_lt (j := 3) (k := m) (by omega) (by omega)).mp h; omega
  have b5 := oN_neg (k := p) (by omega)
  have b6 : ¬ 12 < Int32.ofNat p := fun h => by have := (oN_lt (j := 12) (k := p) (by omega) (by omega)).mp h; omega
  obtain ⟨pn1, pn2⟩ := pN_ok ⟨k, by omega⟩
  obtain ⟨pe, -⟩ := p12 ⟨k, by omega⟩
  simp only at pn1 pn2 pe
  constructor
  · obtain ⟨h54, cw⟩ := q9_weighed (d := d + 4) (N := N) (J := J) (p := Int32.ofNat p) (μ := m) true hm hk l2 l3 f9
    have sw := sW_nat (l := l) (n := k) (μ := m) (H := hF H0 D) (b := true) hp (2 ^ k) 0 0
    rw [show Int64.ofNat 0 = 0 from rfl] at sw
    rw [sw] at cw
    simp only [if_true, if_false, Bool.false_eq_true] at cw
    have cp := cp12 (d := d + 8) (n := k) (M := mk N (upA I 54 h54) J) k 0 1 (by omega) hk
    rw [pe, show Int32.ofNat 0 = 0 from rfl] at cp
    rw [pe] at pn1 pn2
    obtain ⟨q1, -⟩ := z_parts (d := d + 7) (N := N) (I := upA I 54 h54) (J := J) (A := Int64.ofNat (sN2 true l k m p (hF H0 D) (2 ^ k) 0 0)) pn1 pn2
    have w := wo_a4 (h' := h54) hW
    refine ⟨_, ?_, w.1, w.2.1, w.2.2⟩
    simp only [K_some, K_void, K_none, wA_ref, wA_null, isNull_null, isNull_ref, c_int, c_long, c_ref, c_null, c_float, catS_nil, catS_cons, fit_int, fit_bool, fit_long, isO_mk, len_mk, fld_mk, gI_mk, gI0_mk, gZ_mk, gR_mk, isI_mk, isR_mk, tag_mk, lenE_mk, datR_mk, isOs, lenOs, fldS, lenS, gIs, gI0s, gZs, gRs, isIs, isRs, tagS, datRs, mkv, refV, fkS, isArr, tagOk, datI_mk, wrI_mk, wrA_mk, wrF_mk, wrJ_mk, List.length_cons, List.length_nil, List.getElem?_cons_zero, List.getElem?_cons_succ, List.getElem?_nil, ↓reduceIte, Nat.reduceAdd, Nat.reduceMul, Nat.reduceSub, Nat.reduceDiv, Nat.reduceMod, Nat.reduceLT, Nat.reduceLeDiff, Nat.reduceBEq, Nat.reduceEqDiff, Nat.zero_lt_succ, beq_self_eq_true, Bool.true_and, Bool.and_true, Bool.or_true, Bool.true_or, Bool.or_false, Bool.false_or, Bool.false_and, Bool.and_false, Bool.not_true, Bool.not_false, Bool.false_eq_true, Bool.true_eq_false, Bool.and_eq_true, Bool.or_eq_true, Bool.not_eq_true', decide_eq_true_eq, decide_eq_false_iff_not, decide_true, decide_false, and_self, true_and, and_true, or_true, true_or, or_false, false_or, and_false, false_and, or_self, reduceCtorEq, not_true_eq_false, not_false_eq_true, if_true, if_false, Int32.reduceAdd, Int32.reduceSub, Int32.reduceMul, Int32.reduceDiv, Int32.reduceMod, Int32.reduceLT, Int32.reduceLE, eqF1, eqF2, Int32.reduceOfNat, Int32.reduceOfInt, Int32.reduceToNatClampNeg, inb_lit, en_X9_odds, e_X9_odds_0, e_X9_odds_1, e_X9_odds_2, e_X9_odds_3, e_X9_odds_6, e_X9_odds_9, e_X9_odds_10, e_X9_odds_11, e_X9_odds_12, e_X9_odds_15, e_X9_odds_18, e_X9_odds_21, e_X9_odds_23, e_X9_odds_24, e_X9_odds_25, e_X9_odds_28, e_X9_odds_29, e_X9_odds_30, e_X9_odds_31, e_X9_odds_32, e_X9_odds_33, e_X9_odds_36, e_X9_odds_39, e_X9_odds_40, e_X9_odds_43, e_X9_odds_46, e_X9_odds_47, en_X9_areChances, e_X9_areChances_0, e_X9_areChances_1, e_X9_areChances_2, e_X9_areChances_4, e_X9_areChances_7, e_X9_areChances_10, e_X9_areChances_11, e_X9_areChances_14, e_X9_areChances_17, e_X9_areChances_18, e_X9_areChances_19, e_X9_areChances_21, e_X9_areChances_24, e_X9_areChances_27, e_X9_areChances_28, e_X9_areChances_31, e_X9_areChances_32, en_X9_power, e_X9_power_0, e_X9_power_1, e_X9_power_2, e_X9_power_3, e_X9_power_7, e_X9_power_8, e_X9_power_11, e_X9_power_12, e_X9_power_13, e_X9_power_14, e_X9_power_15, e_X9_power_18, e_X9_power_21, e_X9_power_22, sh_1, sh_2, sh_3, sh_4, sh_7, sh_8, sh_9, sh_10, sh_11, sh_12, sh_13, sh_29, sh_35, sh_50, sh_53, sh_54, sh_55, sh_56, q9_within, q9_isMatter, b1, b2, b3, b4, b5, b6, q1_isEmpty, e5, cw, cp, q1]
  · obtain ⟨h54, cw⟩ := q9_weighed (d := d + 4) (N := N) (J := J) (p := Int32.ofNat p) (μ := m) false hm hk l2 l3 f9
    have sw := sW_nat (l := l) (n := k) (μ := m) (H := hF H0 D) (b := false) hp (2 ^ k) 0 0
    rw [show Int64.ofNat 0 = 0 from rfl] at sw
    rw [sw] at cw
    simp only [if_true, if_false, Bool.false_eq_true] at cw
    have cp := cp12 (d := d + 8) (n := k) (M := mk N (upA I 54 h54) J) k 0 1 (by omega) hk
    rw [pe, show Int32.ofNat 0 = 0 from rfl] at cp
    rw [pe] at pn1 pn2
    obtain ⟨q1, -⟩ := z_parts (d := d + 7) (N := N) (I := upA I 54 h54) (J := J) (A := Int64.ofNat (sN2 false l k m p (hF H0 D) (2 ^ k) 0 0)) pn1 pn2
    have w := wo_a4 (h' := h54) hW
    refine ⟨_, ?_, w.1, w.2.1, w.2.2⟩
    simp only [K_some, K_void, K_none, wA_ref, wA_null, isNull_null, isNull_ref, c_int, c_long, c_ref, c_null, c_float, catS_nil, catS_cons, fit_int, fit_bool, fit_long, isO_mk, len_mk, fld_mk, gI_mk, gI0_mk, gZ_mk, gR_mk, isI_mk, isR_mk, tag_mk, lenE_mk, datR_mk, isOs, lenOs, fldS, lenS, gIs, gI0s, gZs, gRs, isIs, isRs, tagS, datRs, mkv, refV, fkS, isArr, tagOk, datI_mk, wrI_mk, wrA_mk, wrF_mk, wrJ_mk, List.length_cons, List.length_nil, List.getElem?_cons_zero, List.getElem?_cons_succ, List.getElem?_nil, ↓reduceIte, Nat.reduceAdd, Nat.reduceMul, Nat.reduceSub, Nat.reduceDiv, Nat.reduceMod, Nat.reduceLT, Nat.reduceLeDiff, Nat.reduceBEq, Nat.reduceEqDiff, Nat.zero_lt_succ, beq_self_eq_true, Bool.true_and, Bool.and_true, Bool.or_true, Bool.true_or, Bool.or_false, Bool.false_or, Bool.false_and, Bool.and_false, Bool.not_true, Bool.not_false, Bool.false_eq_true, Bool.true_eq_false, Bool.and_eq_true, Bool.or_eq_true, Bool.not_eq_true', decide_eq_true_eq, decide_eq_false_iff_not, decide_true, decide_false, and_self, true_and, and_true, or_true, true_or, or_false, false_or, and_false, false_and, or_self, reduceCtorEq, not_true_eq_false, not_false_eq_true, if_true, if_false, Int32.reduceAdd, Int32.reduceSub, Int32.reduceMul, Int32.reduceDiv, Int32.reduceMod, Int32.reduceLT, Int32.reduceLE, eqF1, eqF2, Int32.reduceOfNat, Int32.reduceOfInt, Int32.reduceToNatClampNeg, inb_lit, en_X9_mid, e_X9_mid_0, e_X9_mid_1, e_X9_mid_2, e_X9_mid_3, e_X9_mid_6, e_X9_mid_9, e_X9_mid_10, e_X9_mid_11, e_X9_mid_12, e_X9_mid_15, e_X9_mid_18, e_X9_mid_21, e_X9_mid_23, e_X9_mid_24, e_X9_mid_25, e_X9_mid_28, e_X9_mid_29, e_X9_mid_30, e_X9_mid_31, e_X9_mid_32, e_X9_mid_33, e_X9_mid_36, e_X9_mid_39, e_X9_mid_40, e_X9_mid_43, e_X9_mid_46, e_X9_mid_47, en_X9_areChances, e_X9_areChances_0, e_X9_areChances_1, e_X9_areChances_2, e_X9_areChances_4, e_X9_areChances_7, e_X9_areChances_10, e_X9_areChances_11, e_X9_areChances_14, e_X9_areChances_17, e_X9_areChances_18, e_X9_areChances_19, e_X9_areChances_21, e_X9_areChances_24, e_X9_areChances_27, e_X9_areChances_28, e_X9_areChances_31, e_X9_areChances_32, en_X9_power, e_X9_power_0, e_X9_power_1, e_X9_power_2, e_X9_power_3, e_X9_power_7, e_X9_power_8, e_X9_power_11, e_X9_power_12, e_X9_power_13, e_X9_power_14, e_X9_power_15, e_X9_power_18, e_X9_power_21, e_X9_power_22, sh_1, sh_2, sh_3, sh_4, sh_7, sh_8, sh_9, sh_10, sh_11, sh_12, sh_13, sh_29, sh_35, sh_50, sh_53, sh_54, sh_55, sh_56, q9_within, q9_isMatter, b1, b2, b3, b4, b5, b6, q1_isEmpty, e5, cw, cp, q1]
end
