/-! PLANS, the class's -/
def dg (n c d : Nat) : Nat := c / 5 ^ (n - 1 - d) % 5
theorem dg_lt {n c d : Nat} : dg n c d < 5 := Nat.mod_lt _ (by omega)
def chkD (n c d : Nat) : Bool := !((d == 0 || dg n c d != 4) && (List.range n).all fun q => q ≤ d || dg n c q == 4) || ((List.range n).all fun q => if q < d then dg n (c + 1) q == dg n c q else if q = d then dg n (c + 1) q == (dg n c q + 1) % 5 else dg n (c + 1) q == 0)
theorem chkD_all : ((List.range 6).all fun n => (List.range (5 ^ n)).all fun c => (List.range n).all fun d => chkD n c d) = true := by decide +kernel
theorem dg_next {n c d : Nat} (hn : n ≤ 5) (hc : c < 5 ^ n) (hd : d < n) (h1 : d = 0 ∨ dg n c d ≠ 4) (h2 : ∀ q, d < q → q < n → dg n c q = 4) : (∀ q, q < d → dg n (c + 1) q = dg n c q) ∧ dg n (c + 1) d = (dg n c d + 1) % 5 ∧ ∀ q, d < q → q < n → dg n (c + 1) q = 0 := by
  have h := chkD_all
  rw [List.all_eq_true] at h
  have h := h n (List.mem_range.mpr (by omega))
  rw [List.all_eq_true] at h
  have h := h c (List.mem_range.mpr hc)
  rw [List.all_eq_true] at h
  have h := h d (List.mem_range.mpr hd)
  unfold chkD at h
  rw [Bool.or_eq_true] at h
  rcases h with h | h
  · exfalso
    rw [Bool.not_eq_true', Bool.and_eq_false_iff] at h
    rcases h with h | h
    · rcases h1 with h1 | h1
      · subst h1; simp at h
      · simp [h1] at h
    · have : ((List.range n).all fun q => decide (q ≤ d) || dg n c q == 4) = true := by
        rw [List.all_eq_true]
        intro q hq
        have hq := List.mem_range.mp hq
        by_cases hd : q ≤ d
        · simp [hd]
        · simp [h2 q (by omega) hq]
      rw [this] at h; cases h
  · rw [List.all_eq_true] at h
    refine ⟨fun q hq => ?_, ?_, fun q h1 h2 => ?_⟩
    · have := h q (List.mem_range.mpr (by omega))
      rw [if_pos hq] at this
      exact beq_iff_eq.mp this
    · have := h d (List.mem_range.mpr hd)
      rw [if_neg (by omega), if_pos rfl] at this
      exact beq_iff_eq.mp this
    · have := h q (List.mem_range.mpr h2)
      rw [if_neg (by omega), if_neg (by omega)] at this
      exact beq_iff_eq.mp this
def bH (s : Nat → Nat) (H : Nat → Fin 13) : Nat → Nat → Fin 13
  | 0 => H
  | d + 1 => pS (s d) (bH s H d)
theorem bH_congr {s s' : Nat → Nat} {H : Nat → Fin 13} : ∀ {d : Nat}, (∀ q, q < d → s q = s' q) → bH s H d = bH s' H d
  | 0, _ => rfl
  | d + 1, h => by
    show pS (s d) (bH s H d) = pS (s' d) (bH s' H d)
    rw [h d (by omega), bH_congr (fun q hq => h q (by omega))]
/-- the plans stand at the digits s -/
def Pl (I : IT) (n : Nat) (s : Nat → Nat) (H : Nat → Fin 13) : Prop := I 35 2 = Int32.ofNat n ∧ (∀ d, d < n → I 36 d = dS (s d)) ∧ ∀ d, d ≤ n → ∀ k, k < 8 → I (39 + 2 * d) k = vi (bH s H d k)
/-- cells that plans use -/
abbrev fp (b : Nat) : Prop := b < 35 ∨ 49 < b
theorem dS_9 {s : Nat} (h : s < 5) : (dS s = -9) = (s = 0) := by
  unfold dS
  by_cases c : s = 0
  · rw [if_pos c]; simp [c]
  · rw [if_neg c]
    simp only [c, eq_iff_iff, iff_false]
    intro h; have := congrArg Int32.toInt h
    rw [oN_int (by omega), show (-9 : Int32).toInt = -9 from rfl] at this; omega
theorem dS_3 {s : Nat} (h : s < 5) : (dS s = 3) = (s = 4) := by
  obtain rfl | rfl | rfl | rfl | rfl : s = 0 ∨ s = 1 ∨ s = 2 ∨ s = 3 ∨ s = 4 := by omega
  all_goals decide
section
variable {d N a b c k n m i μ l B t q : Nat} {I : IT} {J : JT} {r v x y z w L κ σ p : Int32} {A P Q : Int64} {u u6 u7 u8 : Value} {M : Mem} {H : Nat → Fin 13} {e : Nat → Int32} {s s' : Nat → Nat} {g f : FV} {D D' : List (Nat × Nat)} {K : Nat → Option (List (Nat × Nat))} {I' : IT} {T : IT} {H0 : Nat → Fin 13}
theorem imax0 (h : n ≤ 4096) : imax 0 (Int32.ofNat n) = Int32.ofNat n := by
  unfold imax
  by_cases h : n = 0
  · subst h; rfl
  · have p : (0 : Int32) < Int32.ofNat n := (oN_lt (j := 0) (k := n) (by omega) (by omega)).mpr (by omega)
    rw [if_pos p]
theorem sh_bh (h : k < 6) : sh N (38 + 2 * k) = .inr (.inr (2, [(2, 39 + 2 * k)])) := by
  obtain rfl | rfl | rfl | rfl | rfl | rfl : k = 0 ∨ k = 1 ∨ k = 2 ∨ k = 3 ∨ k = 4 ∨ k = 5 := by omega
  all_goals rfl
theorem sh_bhB (h : k < 6) : sh N (39 + 2 * k) = .inl (0, 8) := by
  obtain rfl | rfl | rfl | rfl | rfl | rfl : k = 0 ∨ k = 1 ∨ k = 2 ∨ k = 3 ∨ k = 4 ∨ k = 5 := by omega
  all_goals rfl
theorem bh_at (h : k < 6) : datR (rd (mk N I J) 37) k = some (38 + 2 * k) := by
  rw [datR_mk]
  obtain rfl | rfl | rfl | rfl | rfl | rfl : k = 0 ∨ k = 1 ∨ k = 2 ∨ k = 3 ∨ k = 4 ∨ k = 5 := by omega
  all_goals rfl
theorem rk_loop (hn : n ≤ 5) (hs : ∀ d, s d < 5) : ∀ (j t : Nat) (I : IT), t + j = n → I 35 2 = Int32.ofNat n → (∀ q, q < n → I 36 q = dS (s q)) → (∀ k, k < 8 → I (39 + 2 * t) k = vi (bH s H t k)) → ∃ I', R (d + 3) iX3_reckonFrom 6 [.ref 35, .int x, .int (Int32.ofNat t)] [] (mk N I J) = some (none, mk N I' J) ∧ (∀ q, t ≤ q → q ≤ n → ∀ k, k < 8 → I' (39 + 2 * q) k = vi (bH s H q k)) ∧ ∀ b, (b < 39 + 2 * (t + 1) ∨ 49 < b) → I' b = I b := by
  intro j
  induction j with
  | zero =>
    intro t I ht h1 h2 h3
    have q1 : ¬ Int32.ofNat t < Int32.ofNat n := fun h => by have := (oN_lt (by omega) (by omega)).mp h; omega
    refine ⟨I, ?_, fun q h4 h5 => ?_, fun b _ => rfl⟩
    · rw [e_X3_reckonFrom_6]
      simp only [K_some, K_void, K_none, wA_ref, wA_null, isNull_null, isNull_ref, c_int, c_long, c_ref, c_null, c_float, catS_nil, catS_cons, fit_int, fit_bool, fit_long, isO_mk, len_mk, fld_mk, gI_mk, gI0_mk, gZ_mk, gR_mk, isI_mk, isR_mk, tag_mk, lenE_mk, datR_mk, isOs, lenOs, fldS, lenS, gIs, gI0s, gZs, gRs, isIs, isRs, tagS, datRs, mkv, refV, fkS, isArr, tagOk, datI_mk, wrI_mk, wrA_mk, wrF_mk, wrJ_mk, List.length_cons, List.length_nil, List.getElem?_cons_zero, List.getElem?_cons_succ, List.getElem?_nil, ↓reduceIte, Nat.reduceAdd, Nat.reduceMul, Nat.reduceSub, Nat.reduceDiv, Nat.reduceMod, Nat.reduceLT, Nat.reduceLeDiff, Nat.reduceBEq, Nat.reduceEqDiff, Nat.zero_lt_succ, beq_self_eq_true, Bool.true_and, Bool.and_true, Bool.or_true, Bool.true_or, Bool.or_false, Bool.false_or, Bool.false_and, Bool.and_false, Bool.not_true, Bool.not_false, Bool.false_eq_true, Bool.true_eq_false, Bool.and_eq_true, Bool.or_eq_true, Bool.not_eq_true', decide_eq_true_eq, decide_eq_false_iff_not, decide_true, decide_false, and_self, true_and, and_true, or_true, true_or, or_false, false_or, and_false, false_and, or_self, reduceCtorEq, not_true_eq_false, not_false_eq_true, if_true, if_false, Int32.reduceAdd, Int32.reduceSub, Int32.reduceMul, Int32.reduceDiv, Int32.reduceMod, Int32.reduceLT, Int32.reduceLE, eqF1, eqF2, Int32.reduceOfNat, Int32.reduceOfInt, Int32.reduceToNatClampNeg, inb_lit, e_X3_reckonFrom_0, e_X3_reckonFrom_1, e_X3_reckonFrom_2, e_X3_reckonFrom_5, e_X3_reckonFrom_7, e_X3_reckonFrom_8, e_X3_reckonFrom_11, e_X3_reckonFrom_14, e_X3_reckonFrom_15, e_X3_reckonFrom_16, e_X3_reckonFrom_19, e_X3_reckonFrom_20, e_X3_reckonFrom_23, e_X3_reckonFrom_24, e_X3_reckonFrom_27, e_X3_reckonFrom_28, e_X3_reckonFrom_29, e_X3_reckonFrom_30, e_X3_reckonFrom_31, e_X3_reckonFrom_32, e_X3_reckonFrom_35, e_X3_reckonFrom_36, e_X3_reckonFrom_37, e_X3_reckonFrom_40, e_X3_reckonFrom_41, e_X3_reckonFrom_44, e_X3_reckonFrom_45, e_X3_reckonFrom_46, e_X3_reckonFrom_47, e_X3_reckonFrom_48, e_X3_reckonFrom_49, e_X3_reckonFrom_52, e_X3_reckonFrom_53, e_X3_reckonFrom_54, e_X3_reckonFrom_57, e_X3_reckonFrom_60, e_X3_reckonFrom_63, sh_35, sh_1, sh_2, sh_3, sh_4, sh_7, sh_8, sh_9, sh_10, sh_11, sh_12, sh_13, sh_29, sh_50, sh_53, sh_54, sh_55, sh_56, h1, q1]
    · obtain rfl : q = t := by omega
      exact h3
  | succ j ih =>
    intro t I ht h1 h2 h3
    have q1 : Int32.ofNat t < Int32.ofNat n := (oN_lt (by omega) (by omega)).mpr (by omega)
    have q2 : Int32.ofNat t < 5 := (oN_lt (j := t) (k := 5) (by omega) (by omega)).mpr (by omega)
    have q3 : inb (Int32.ofNat t) 6 = true := inb_ofNat (by omega) (by omega)
    have q4 : (Int32.ofNat t).toNatClampNeg = t := nat_ofNat (by omega)
    have q5 : inb (Int32.ofNat (t + 1)) 6 = true := inb_ofNat (by omega) (by omega)
    have q6 : (Int32.ofNat (t + 1)).toNatClampNeg = t + 1 := nat_ofNat (by omega)
    have q7 : inb (Int32.ofNat t) 5 = true := inb_ofNat (by omega) (by omega)
    have w0 : ∀ I : IT, datR (rd (mk N I J) 37) t = some (38 + 2 * t) := fun I => bh_at (by omega)
    have w1 : ∀ I : IT, datR (rd (mk N I J) 37) (t + 1) = some (38 + 2 * (t + 1)) := fun I => bh_at (by omega)
    have tk := qG_take (d := d + 2) (N := N) (J := J) (I := I) (sh_bh (k := t + 1) (by omega)) (sh_bhB (k := t + 1) (by omega)) (sh_bh (k := t) (by omega)) (sh_bhB (k := t) (by omega)) h3
    have ps := qG_p (d := d) (N := N) (J := J) (I := upA I (39 + 2 * (t + 1)) (hv (bH s H t) (I (39 + 2 * (t + 1))))) (sh_bh (k := t + 1) (by omega)) (sh_bhB (k := t + 1) (by omega)) (H := bH s H t) (t := s t) (fun k hk => by rw [upA_same, hv_at hk]) (hs t)
    simp only [upA_upA, upA_same, hv_hv] at ps
    obtain ⟨I2, hI2⟩ : ∃ I2, I2 = upA I (39 + 2 * (t + 1)) (hv (bH s H (t + 1)) (I (39 + 2 * (t + 1)))) := ⟨_, rfl⟩
    have e2 : ∀ b, b ≠ 39 + 2 * (t + 1) → I2 b = I b := fun b hb => by rw [hI2, upA_ne hb]
    obtain ⟨I', c1, c2, c3⟩ := ih (t + 1) I2 (by omega) (by rw [e2 35 (by omega)]; exact h1) (fun q hq => by rw [e2 36 (by omega)]; exact h2 q hq) (fun k hk => by rw [hI2, upA_same, hv_at hk])
    refine ⟨I', ?_, fun q h4 h5 k hk => ?_, fun b hb => by rw [c3 b (by omega), e2 b (by omega)]⟩
    · have h36 : upA I (39 + 2 * (t + 1)) (hv (bH s H t) (I (39 + 2 * (t + 1)))) 36 t = dS (s t) := by rw [upA_ne (by omega)]; exact h2 t (by omega)
      rw [e_X3_reckonFrom_6]
      simp only [w0, w1, K_some, K_void, K_none, wA_ref, wA_null, isNull_null, isNull_ref, c_int, c_long, c_ref, c_null, c_float, catS_nil, catS_cons, fit_int, fit_bool, fit_long, isO_mk, len_mk, fld_mk, gI_mk, gI0_mk, gZ_mk, gR_mk, isI_mk, isR_mk, tag_mk, lenE_mk, datR_mk, isOs, lenOs, fldS, lenS, gIs, gI0s, gZs, gRs, isIs, isRs, tagS, datRs, mkv, refV, fkS, isArr, tagOk, datI_mk, wrI_mk, wrA_mk, wrF_mk, wrJ_mk, List.length_cons, List.length_nil, List.getElem?_cons_zero, List.getElem?_cons_succ, List.getElem?_nil, ↓reduceIte, Nat.reduceAdd, Nat.reduceMul, Nat.reduceSub, Nat.reduceDiv, Nat.reduceMod, Nat.reduceLT, Nat.reduceLeDiff, Nat.reduceBEq, Nat.reduceEqDiff, Nat.zero_lt_succ, beq_self_eq_true, Bool.true_and, Bool.and_true, Bool.or_true, Bool.true_or, Bool.or_false, Bool.false_or, Bool.false_and, Bool.and_false, Bool.not_true, Bool.not_false, Bool.false_eq_true, Bool.true_eq_false, Bool.and_eq_true, Bool.or_eq_true, Bool.not_eq_true', decide_eq_true_eq, decide_eq_false_iff_not, decide_true, decide_false, and_self, true_and, and_true, or_true, true_or, or_false, false_or, and_false, false_and, or_self, reduceCtorEq, not_true_eq_false, not_false_eq_true, if_true, if_false, Int32.reduceAdd, Int32.reduceSub, Int32.reduceMul, Int32.reduceDiv, Int32.reduceMod, Int32.reduceLT, Int32.reduceLE, eqF1, eqF2, Int32.reduceOfNat, Int32.reduceOfInt, Int32.reduceToNatClampNeg, inb_lit, e_X3_reckonFrom_0, e_X3_reckonFrom_1, e_X3_reckonFrom_2, e_X3_reckonFrom_5, e_X3_reckonFrom_7, e_X3_reckonFrom_8, e_X3_reckonFrom_11, e_X3_reckonFrom_14, e_X3_reckonFrom_15, e_X3_reckonFrom_16, e_X3_reckonFrom_19, e_X3_reckonFrom_20, e_X3_reckonFrom_23, e_X3_reckonFrom_24, e_X3_reckonFrom_27, e_X3_reckonFrom_28, e_X3_reckonFrom_29, e_X3_reckonFrom_30, e_X3_reckonFrom_31, e_X3_reckonFrom_32, e_X3_reckonFrom_35, e_X3_reckonFrom_36, e_X3_reckonFrom_37, e_X3_reckonFrom_40, e_X3_reckonFrom_41, e_X3_reckonFrom_44, e_X3_reckonFrom_45, e_X3_reckonFrom_46, e_X3_reckonFrom_47, e_X3_reckonFrom_48, e_X3_reckonFrom_49, e_X3_reckonFrom_52, e_X3_reckonFrom_53, e_X3_reckonFrom_54, e_X3_reckonFrom_57, e_X3_reckonFrom_60, e_X3_reckonFrom_63, sh_35, sh_36, sh_37, sh_1, sh_2, sh_3, sh_4, sh_7, sh_8, sh_9, sh_10, sh_11, sh_12, sh_13, sh_29, sh_50, sh_53, sh_54, sh_55, sh_56, h1, q1, q2, q3, q4, q5, q6, q7, sh_bh (show t < 6 by omega), sh_bh (show t + 1 < 6 by omega), oN_succ, tk, h36, ps]
      rw [hI2] at c1
      exact c1
    · by_cases hq : q = t
      · subst hq
        rw [c3 _ (by omega), e2 _ (by omega)]
        exact h3 k hk
      · exact c2 q (by omega) h5 k hk
theorem q3_reckon (hn : n ≤ 5) (hs : ∀ d, s d < 5) (ht : t ≤ n) (h1 : I 35 2 = Int32.ofNat n) (h2 : ∀ q, q < n → I 36 q = dS (s q)) (h3 : ∀ q, q ≤ t → ∀ k, k < 8 → I (39 + 2 * q) k = vi (bH s H q k)) : ∃ I', C (d + 4) iX3_reckonFrom [.ref 35, .int (Int32.ofNat t)] (mk N I J) = some (none, mk N I' J) ∧ Pl I' n s H ∧ ∀ b, fp b → I' b = I b := by
  obtain ⟨I', c1, c2, c3⟩ := rk_loop (d := d) (N := N) (J := J) (x := Int32.ofNat t) hn hs (n - t) t I (by omega) h1 h2 (h3 t (Nat.le_refl _))
  refine ⟨I', ?_, ⟨by rw [c3 35 (by omega)]; exact h1, fun q hq => by rw [c3 36 (by omega)]; exact h2 q hq, fun q hq k hk => ?_⟩, fun b hb => c3 b (by unfold fp at hb; omega)⟩
  · have m0 := imax0 (n := t) (by omega)
    simp only [K_some, K_void, K_none, wA_ref, wA_null, isNull_null, isNull_ref, c_int, c_long, c_ref, c_null, c_float, catS_nil, catS_cons, fit_int, fit_bool, fit_long, isO_mk, len_mk, fld_mk, gI_mk, gI0_mk, gZ_mk, gR_mk, isI_mk, isR_mk, tag_mk, lenE_mk, datR_mk, isOs, lenOs, fldS, lenS, gIs, gI0s, gZs, gRs, isIs, isRs, tagS, datRs, mkv, refV, fkS, isArr, tagOk, datI_mk, wrI_mk, wrA_mk, wrF_mk, wrJ_mk, List.length_cons, List.length_nil, List.getElem?_cons_zero, List.getElem?_cons_succ, List.getElem?_nil, ↓reduceIte, Nat.reduceAdd, Nat.reduceMul, Nat.reduceSub, Nat.reduceDiv, Nat.reduceMod, Nat.reduceLT, Nat.reduceLeDiff, Nat.reduceBEq, Nat.reduceEqDiff, Nat.zero_lt_succ, beq_self_eq_true, Bool.true_and, Bool.and_true, Bool.or_true, Bool.true_or, Bool.or_false, Bool.false_or, Bool.false_and, Bool.and_false, Bool.not_true, Bool.not_false, Bool.false_eq_true, Bool.true_eq_false, Bool.and_eq_true, Bool.or_eq_true, Bool.not_eq_true', decide_eq_true_eq, decide_eq_false_iff_not, decide_true, decide_false, and_self, true_and, and_true, or_true, true_or, or_false, false_or, and_false, false_and, or_self, reduceCtorEq, not_true_eq_false, not_false_eq_true, if_true, if_false, Int32.reduceAdd, Int32.reduceSub, Int32.reduceMul, Int32.reduceDiv, Int32.reduceMod, Int32.reduceLT, Int32.reduceLE, eqF1, eqF2, Int32.reduceOfNat, Int32.reduceOfInt, Int32.reduceToNatClampNeg, inb_lit, en_X3_reckonFrom, e_X3_reckonFrom_0, e_X3_reckonFrom_1, e_X3_reckonFrom_2, e_X3_reckonFrom_5, e_X3_reckonFrom_7, e_X3_reckonFrom_8, e_X3_reckonFrom_11, e_X3_reckonFrom_14, e_X3_reckonFrom_15, e_X3_reckonFrom_16, e_X3_reckonFrom_19, e_X3_reckonFrom_20, e_X3_reckonFrom_23, e_X3_reckonFrom_24, e_X3_reckonFrom_27, e_X3_reckonFrom_28, e_X3_reckonFrom_29, e_X3_reckonFrom_30, e_X3_reckonFrom_31, e_X3_reckonFrom_32, e_X3_reckonFrom_35, e_X3_reckonFrom_36, e_X3_reckonFrom_37, e_X3_reckonFrom_40, e_X3_reckonFrom_41, e_X3_reckonFrom_44, e_X3_reckonFrom_45, e_X3_reckonFrom_46, e_X3_reckonFrom_47, e_X3_reckonFrom_48, e_X3_reckonFrom_49, e_X3_reckonFrom_52, e_X3_reckonFrom_53, e_X3_reckonFrom_54, e_X3_reckonFrom_57, e_X3_reckonFrom_60, e_X3_reckonFrom_63, qJ_max, m0]
    exact c1
  · by_cases h : q < t
    · rw [c3 _ (by omega)]; exact h3 q (by omega) k hk
    · exact c2 q (by omega) hq k hk
theorem q3_begin (hn : n ≤ 5) (hH : ∀ k, k < 8 → I 8 k = vi (H k)) : ∃ I', C (d + 5) iX3_begin [.ref 35, .ref 7, .int (Int32.ofNat n)] (mk N I J) = some (none, mk N I' J) ∧ Pl I' n (fun _ => 0) H ∧ ∀ b, fp b → I' b = I b := by
  obtain ⟨I0, hI0⟩ : ∃ I0, I0 = upA (upA (up I 35 2 (Int32.ofNat n)) 39 (hv H (I 39))) 36 (fun q => if q < 5 then -9 else I 36 q) := ⟨_, rfl⟩
  obtain ⟨I', c1, c2, c3⟩ := q3_reckon (d := d) (N := N) (J := J) (I := I0) (H := H) (s := fun _ => 0) (t := 0) hn (fun _ => by omega) (by omega) (by rw [hI0, upA_ne (by omega), upA_ne (by omega), up_same]) (fun q hq => by rw [hI0, upA_same, if_pos (by omega)]; rfl) (fun q hq k hk => by
    obtain rfl : q = 0 := by omega
    rw [hI0, upA_ne (by omega), upA_same, hv_at hk]; rfl)
  refine ⟨I', ?_, c2, fun b hb => by rw [c3 b hb, hI0, upA_ne (by unfold fp at hb; omega), upA_ne (by unfold fp at hb; omega), up_ne (by unfold fp at hb; omega)]⟩
  have i5 : imin (Int32.ofNat n) 5 = Int32.ofNat n := imin_le (n := 5) hn (by omega)
  have m0 := imax0 (n := n) (by omega)
  have hH2 : ∀ k, k < 8 → up I 35 2 (Int32.ofNat n) 8 k = vi (H k) := fun k hk => by rw [up_ne (by omega)]; exact hH k hk
  have tk := qG_take (d := d + 3) (N := N) (J := J) (I := up I 35 2 (Int32.ofNat n)) (a := 38) (b := 39) (a' := 7) (b' := 8) (by rfl) (by rfl) sh_7 sh_8 hH2
  have fl := qJ_fill (d := d + 3) (N := N) (J := J) (I := upA (up I 35 2 (Int32.ofNat n)) 39 (hv H (I 39))) (a := 36) (n := 5) (v := -9) (by rfl) (by omega)
  rw [upA_ne (show 36 ≠ 39 by omega), up_ne (show 36 ≠ 35 by omega)] at fl
  rw [up_ne (show 39 ≠ 35 by omega)] at tk
  rw [show Int32.ofNat 0 = 0 from rfl, hI0] at c1
  have w0 : datR (rd (mk N (up I 35 2 (Int32.ofNat n)) J) 37) 0 = some 38 := rfl
  simp only [w0, K_some, K_void, K_none, wA_ref, wA_null, isNull_null, isNull_ref, c_int, c_long, c_ref, c_null, c_float, catS_nil, catS_cons, fit_int, fit_bool, fit_long, isO_mk, len_mk, fld_mk, gI_mk, gI0_mk, gZ_mk, gR_mk, isI_mk, isR_mk, tag_mk, lenE_mk, datR_mk, isOs, lenOs, fldS, lenS, gIs, gI0s, gZs, gRs, isIs, isRs, tagS, datRs, mkv, refV, fkS, isArr, tagOk, datI_mk, wrI_mk, wrA_mk, wrF_mk, wrJ_mk, List.length_cons, List.length_nil, List.getElem?_cons_zero, List.getElem?_cons_succ, List.getElem?_nil, ↓reduceIte, Nat.reduceAdd, Nat.reduceMul, Nat.reduceSub, Nat.reduceDiv, Nat.reduceMod, Nat.reduceLT, Nat.reduceLeDiff, Nat.reduceBEq, Nat.reduceEqDiff, Nat.zero_lt_succ, beq_self_eq_true, Bool.true_and, Bool.and_true, Bool.or_true, Bool.true_or, Bool.or_false, Bool.false_or, Bool.false_and, Bool.and_false, Bool.not_true, Bool.not_false, Bool.false_eq_true, Bool.true_eq_false, Bool.and_eq_true, Bool.or_eq_true, Bool.not_eq_true', decide_eq_true_eq, decide_eq_false_iff_not, decide_true, decide_false, and_self, true_and, and_true, or_true, true_or, or_false, false_or, and_false, false_and, or_self, reduceCtorEq, not_true_eq_false, not_false_eq_true, if_true, if_false, Int32.reduceAdd, Int32.reduceSub, Int32.reduceMul, Int32.reduceDiv, Int32.reduceMod, Int32.reduceLT, Int32.reduceLE, eqF1, eqF2, Int32.reduceOfNat, Int32.reduceOfInt, Int32.reduceToNatClampNeg, inb_lit, en_X3_begin, e_X3_begin_0, e_X3_begin_1, e_X3_begin_2, e_X3_begin_3, e_X3_begin_4, e_X3_begin_7, e_X3_begin_10, e_X3_begin_13, e_X3_begin_14, e_X3_begin_17, e_X3_begin_18, e_X3_begin_19, e_X3_begin_20, e_X3_begin_23, e_X3_begin_24, e_X3_begin_27, e_X3_begin_29, e_X3_begin_32, e_X3_begin_33, e_X3_begin_34, e_X3_begin_37, sh_35, sh_36, sh_37, sh_38, sh_1, sh_2, sh_3, sh_4, sh_7, sh_8, sh_9, sh_10, sh_11, sh_12, sh_13, sh_29, sh_50, sh_53, sh_54, sh_55, sh_56, qJ_min, qJ_max, i5, m0, tk, fl, c1]
def pwN (b : Int64) : Nat → Int64 → Int64
  | 0, a => a
  | j + 1, a => pwN b j (a * b)
theorem pw5 : ∀ n : Fin 6, (pwN 5 n.val 1).toInt32 = Int32.ofNat (5 ^ n.val) := by decide +kernel
theorem cpw {P : Int64} : ∀ (j q : Nat) (A : Int64), q + j = n → n ≤ 6 → R d iX9_power 5 [.long P, .float 0, .int (Int32.ofNat n), .long A, .float 0, .int (Int32.ofNat q)] [] M = some (some (.long (pwN P j A)), M) := by
  intro j
  induction j with
  | zero =>
    intro q A hq hn
    have h1 : ¬ Int32.ofNat q < Int32.ofNat n := fun h => by have := (oN_lt (by omega) (by omega)).mp h; omega
    rw [e_X9_power_5]
    simp only [K_some, K_void, K_none, wA_ref, wA_null, isNull_null, isNull_ref, c_int, c_long, c_ref, c_null, c_float, catS_nil, catS_cons, fit_int, fit_bool, fit_long, isO_mk, len_mk, fld_mk, gI_mk, gI0_mk, gZ_mk, gR_mk, isI_mk, isR_mk, tag_mk, lenE_mk, datR_mk, isOs, lenOs, fldS, lenS, gIs, gI0s, gZs, gRs, isIs, isRs, tagS, datRs, mkv, refV, fkS, isArr, tagOk, datI_mk, wrI_mk, wrA_mk, wrF_mk, wrJ_mk, List.length_cons, List.length_nil, List.getElem?_cons_zero, List.getElem?_cons_succ, List.getElem?_nil, ↓reduceIte, Nat.reduceAdd, Nat.reduceMul, Nat.reduceSub, Nat.reduceDiv, Nat.reduceMod, Nat.reduceLT, Nat.reduceLeDiff, Nat.reduceBEq, Nat.reduceEqDiff, Nat.zero_lt_succ, beq_self_eq_true, Bool.true_and, Bool.and_true, Bool.or_true, Bool.true_or, Bool.or_false, Bool.false_or, Bool.false_and, Bool.and_false, Bool.not_true, Bool.not_false, Bool.false_eq_true, Bool.true_eq_false, Bool.and_eq_true, Bool.or_eq_true, Bool.not_eq_true', decide_eq_true_eq, decide_eq_false_iff_not, decide_true, decide_false, and_self, true_and, and_true, or_true, true_or, or_false, false_or, and_false, false_and, or_self, reduceCtorEq, not_true_eq_false, not_false_eq_true, if_true, if_false, Int32.reduceAdd, Int32.reduceSub, Int32.reduceMul, Int32.reduceDiv, Int32.reduceMod, Int32.reduceLT, Int32.reduceLE, eqF1, eqF2, Int32.reduceOfNat, Int32.reduceOfInt, Int32.reduceToNatClampNeg, inb_lit, e_X9_power_0, e_X9_power_1, e_X9_power_2, e_X9_power_3, e_X9_power_7, e_X9_power_8, e_X9_power_11, e_X9_power_12, e_X9_power_13, e_X9_power_14, e_X9_power_15, e_X9_power_18, e_X9_power_21, e_X9_power_22, h1, pwN]
  | succ j ih =>
    intro q A hq hn
    have h1 : Int32.ofNat q < Int32.ofNat n := (oN_lt (by omega) (by omega)).mpr (by omega)
    rw [e_X9_power_5]
    simp only [K_some, K_void, K_none, wA_ref, wA_null, isNull_null, isNull_ref, c_int, c_long, c_ref, c_null, c_float, catS_nil, catS_cons, fit_int, fit_bool, fit_long, isO_mk, len_mk, fld_mk, gI_mk, gI0_mk, gZ_mk, gR_mk, isI_mk, isR_mk, tag_mk, lenE_mk, datR_mk, isOs, lenOs, fldS, lenS, gIs, gI0s, gZs, gRs, isIs, isRs, tagS, datRs, mkv, refV, fkS, isArr, tagOk, datI_mk, wrI_mk, wrA_mk, wrF_mk, wrJ_mk, List.length_cons, List.length_nil, List.getElem?_cons_zero, List.getElem?_cons_succ, List.getElem?_nil, ↓reduceIte, Nat.reduceAdd, Nat.reduceMul, Nat.reduceSub, Nat.reduceDiv, Nat.reduceMod, Nat.reduceLT, Nat.reduceLeDiff, Nat.reduceBEq, Nat.reduceEqDiff, Nat.zero_lt_succ, beq_self_eq_true, Bool.true_and, Bool.and_true, Bool.or_true, Bool.true_or, Bool.or_false, Bool.false_or, Bool.false_and, Bool.and_false, Bool.not_true, Bool.not_false, Bool.false_eq_true, Bool.true_eq_false, Bool.and_eq_true, Bool.or_eq_true, Bool.not_eq_true', decide_eq_true_eq, decide_eq_false_iff_not, decide_true, decide_false, and_self, true_and, and_true, or_true, true_or, or_false, false_or, and_false, false_and, or_self, reduceCtorEq, not_true_eq_false, not_false_eq_true, if_true, if_false, Int32.reduceAdd, Int32.reduceSub, Int32.reduceMul, Int32.reduceDiv, Int32.reduceMod, Int32.reduceLT, Int32.reduceLE, eqF1, eqF2, Int32.reduceOfNat, Int32.reduceOfInt, Int32.reduceToNatClampNeg, inb_lit, e_X9_power_0, e_X9_power_1, e_X9_power_2, e_X9_power_3, e_X9_power_7, e_X9_power_8, e_X9_power_11, e_X9_power_12, e_X9_power_13, e_X9_power_14, e_X9_power_15, e_X9_power_18, e_X9_power_21, e_X9_power_22, h1, oN_succ, pwN]
    exact ih (q + 1) _ (by omega) hn
theorem q3_many (hn : n ≤ 5) (hP : Pl I n s H) : C (d + 2) iX3_howMany [.ref 35] (mk N I J) = some (some (.int (Int32.ofNat (5 ^ n))), mk N I J) := by
  have z := cpw (d := d) (n := n) (M := mk N I J) (P := 5) n 0 1 (by omega) (by omega)
  rw [show Int32.ofNat 0 = 0 from rfl] at z
  have z2 := pw5 ⟨n, by omega⟩
  simp only at z2
  simp only [K_some, K_void, K_none, wA_ref, wA_null, isNull_null, isNull_ref, c_int, c_long, c_ref, c_null, c_float, catS_nil, catS_cons, fit_int, fit_bool, fit_long, isO_mk, len_mk, fld_mk, gI_mk, gI0_mk, gZ_mk, gR_mk, isI_mk, isR_mk, tag_mk, lenE_mk, datR_mk, isOs, lenOs, fldS, lenS, gIs, gI0s, gZs, gRs, isIs, isRs, tagS, datRs, mkv, refV, fkS, isArr, tagOk, datI_mk, wrI_mk, wrA_mk, wrF_mk, wrJ_mk, List.length_cons, List.length_nil, List.getElem?_cons_zero, List.getElem?_cons_succ, List.getElem?_nil, ↓reduceIte, Nat.reduceAdd, Nat.reduceMul, Nat.reduceSub, Nat.reduceDiv, Nat.reduceMod, Nat.reduceLT, Nat.reduceLeDiff, Nat.reduceBEq, Nat.reduceEqDiff, Nat.zero_lt_succ, beq_self_eq_true, Bool.true_and, Bool.and_true, Bool.or_true, Bool.true_or, Bool.or_false, Bool.false_or, Bool.false_and, Bool.and_false, Bool.not_true, Bool.not_false, Bool.false_eq_true, Bool.true_eq_false, Bool.and_eq_true, Bool.or_eq_true, Bool.not_eq_true', decide_eq_true_eq, decide_eq_false_iff_not, decide_true, decide_false, and_self, true_and, and_true, or_true, true_or, or_false, false_or, and_false, false_and, or_self, reduceCtorEq, not_true_eq_false, not_false_eq_true, if_true, if_false, Int32.reduceAdd, Int32.reduceSub, Int32.reduceMul, Int32.reduceDiv, Int32.reduceMod, Int32.reduceLT, Int32.reduceLE, eqF1, eqF2, Int32.reduceOfNat, Int32.reduceOfInt, Int32.reduceToNatClampNeg, inb_lit, en_X3_howMany, e_X3_howMany_0, e_X3_howMany_3, e_X3_howMany_4, e_X3_howMany_7, e_X3_howMany_10, e_X3_howMany_11, en_X9_power, e_X9_power_0, e_X9_power_1, e_X9_power_2, e_X9_power_3, e_X9_power_7, e_X9_power_8, e_X9_power_11, e_X9_power_12, e_X9_power_13, e_X9_power_14, e_X9_power_15, e_X9_power_18, e_X9_power_21, e_X9_power_22, sh_35, sh_1, sh_2, sh_3, sh_4, sh_7, sh_8, sh_9, sh_10, sh_11, sh_12, sh_13, sh_29, sh_50, sh_53, sh_54, sh_55, sh_56, hP.1, z, z2]
theorem q3_after (ht : t < 5) : C (d + 1) iX3_after [.int (dS t)] M = some (some (.int (dS ((t + 1) % 5))), M) := by
  obtain rfl | rfl | rfl | rfl | rfl : t = 0 ∨ t = 1 ∨ t = 2 ∨ t = 3 ∨ t = 4 := by omega
  all_goals simp only [K_some, K_void, K_none, wA_ref, wA_null, isNull_null, isNull_ref, c_int, c_long, c_ref, c_null, c_float, catS_nil, catS_cons, fit_int, fit_bool, fit_long, isO_mk, len_mk, fld_mk, gI_mk, gI0_mk, gZ_mk, gR_mk, isI_mk, isR_mk, tag_mk, lenE_mk, datR_mk, isOs, lenOs, fldS, lenS, gIs, gI0s, gZs, gRs, isIs, isRs, tagS, datRs, mkv, refV, fkS, isArr, tagOk, datI_mk, wrI_mk, wrA_mk, wrF_mk, wrJ_mk, List.length_cons, List.length_nil, List.getElem?_cons_zero, List.getElem?_cons_succ, List.getElem?_nil, ↓reduceIte, Nat.reduceAdd, Nat.reduceMul, Nat.reduceSub, Nat.reduceDiv, Nat.reduceMod, Nat.reduceLT, Nat.reduceLeDiff, Nat.reduceBEq, Nat.reduceEqDiff, Nat.zero_lt_succ, beq_self_eq_true, Bool.true_and, Bool.and_true, Bool.or_true, Bool.true_or, Bool.or_false, Bool.false_or, Bool.false_and, Bool.and_false, Bool.not_true, Bool.not_false, Bool.false_eq_true, Bool.true_eq_false, Bool.and_eq_true, Bool.or_eq_true, Bool.not_eq_true', decide_eq_true_eq, decide_eq_false_iff_not, decide_true, decide_false, and_self, true_and, and_true, or_true, true_or, or_false, false_or, and_false, false_and, or_self, reduceCtorEq, not_true_eq_false, not_false_eq_true, if_true, if_false, Int32.reduceAdd, Int32.reduceSub, Int32.reduceMul, Int32.reduceDiv, Int32.reduceMod, Int32.reduceLT, Int32.reduceLE, eqF1, eqF2, Int32.reduceOfNat, Int32.reduceOfInt, Int32.reduceToNatClampNeg, inb_lit, en_X3_after, e_X3_after_0, e_X3_after_1, e_X3_after_3, e_X3_after_6, e_X3_after_7, e_X3_after_8, e_X3_after_9, e_X3_after_10, e_X3_after_13, e_X3_after_14, e_X3_after_15, e_X3_after_16, e_X3_after_19, e_X3_after_21, dS, Nat.reduceSub, Nat.one_ne_zero]
theorem ad_loop (hn : n ≤ 5) : ∀ (t : Nat) (I : IT), t < n → (∀ q, t < q → q < n → dg n c q = 4) → (∀ q, q < n → I 36 q = if t < q then -9 else dS (dg n c q)) → ∃ t' h', R (d + 4) iX3_advance 15 [.ref 35, .int (Int32.ofNat t)] [] (mk N I J) = R (d + 4) iX3_advance 43 [.ref 35, .int (Int32.ofNat t')] [] (mk N (upA I 36 h') J) ∧ t' < n ∧ (t' = 0 ∨ dg n c t' ≠ 4) ∧ (∀ q, t' < q → q < n → dg n c q = 4) ∧ ∀ q, q < n → h' q = if t' < q then -9 else dS (dg n c q) := by
  intro t
  induction t with
  | zero =>
    intro I ht h1 h2
    refine ⟨0, I 36, ?_, ht, Or.inl rfl, h1, h2⟩
    rw [e_X3_advance_15]
    simp only [K_some, K_void, K_none, wA_ref, wA_null, isNull_null, isNull_ref, c_int, c_long, c_ref, c_null, c_float, catS_nil, catS_cons, fit_int, fit_bool, fit_long, isO_mk, len_mk, fld_mk, gI_mk, gI0_mk, gZ_mk, gR_mk, isI_mk, isR_mk, tag_mk, lenE_mk, datR_mk, isOs, lenOs, fldS, lenS, gIs, gI0s, gZs, gRs, isIs, isRs, tagS, datRs, mkv, refV, fkS, isArr, tagOk, datI_mk, wrI_mk, wrA_mk, wrF_mk, wrJ_mk, List.length_cons, List.length_nil, List.getElem?_cons_zero, List.getElem?_cons_succ, List.getElem?_nil, ↓reduceIte, Nat.reduceAdd, Nat.reduceMul, Nat.reduceSub, Nat.reduceDiv, Nat.reduceMod, Nat.reduceLT, Nat.reduceLeDiff, Nat.reduceBEq, Nat.reduceEqDiff, Nat.zero_lt_succ, beq_self_eq_true, Bool.true_and, Bool.and_true, Bool.or_true, Bool.true_or, Bool.or_false, Bool.false_or, Bool.false_and, Bool.and_false, Bool.not_true, Bool.not_false, Bool.false_eq_true, Bool.true_eq_false, Bool.and_eq_true, Bool.or_eq_true, Bool.not_eq_true', decide_eq_true_eq, decide_eq_false_iff_not, decide_true, decide_false, and_self, true_and, and_true, or_true, true_or, or_false, false_or, and_false, false_and, or_self, reduceCtorEq, not_true_eq_false, not_false_eq_true, if_true, if_false, Int32.reduceAdd, Int32.reduceSub, Int32.reduceMul, Int32.reduceDiv, Int32.reduceMod, Int32.reduceLT, Int32.reduceLE, eqF1, eqF2, Int32.reduceOfNat, Int32.reduceOfInt, Int32.reduceToNatClampNeg, inb_lit, e_X3_advance_0, e_X3_advance_1, e_X3_advance_4, e_X3_advance_5, e_X3_advance_8, e_X3_advance_9, e_X3_advance_12, e_X3_advance_13, e_X3_advance_14, e_X3_advance_16, e_X3_advance_19, e_X3_advance_20, e_X3_advance_23, e_X3_advance_24, e_X3_advance_25, e_X3_advance_26, e_X3_advance_29, e_X3_advance_30, e_X3_advance_33, e_X3_advance_34, e_X3_advance_36, e_X3_advance_37, e_X3_advance_40, e_X3_advance_44, e_X3_advance_47, e_X3_advance_48, e_X3_advance_49, e_X3_advance_52, e_X3_advance_53, e_X3_advance_54, e_X3_advance_57, e_X3_advance_58, e_X3_advance_59, e_X3_advance_62, e_X3_advance_63, e_X3_advance_64, e_X3_advance_65, e_X3_advance_68, upA_self]
  | succ t ih =>
    intro I ht h1 h2
    have p0 : 0 < Int32.ofNat (t + 1) := (oN_lt (j := 0) (k := t + 1) (by omega) (by omega)).mpr (by omega)
    have q1 : inb (Int32.ofNat (t + 1)) 5 = true := inb_ofNat (by omega) (by omega)
    have q2 : (Int32.ofNat (t + 1)).toNatClampNeg = t + 1 := nat_ofNat (by omega)
    have w := h2 (t + 1) ht
    rw [if_neg (by omega)] at w
    have d3 := dS_3 (s := dg n c (t + 1)) dg_lt
    by_cases h4 : dg n c (t + 1) = 4
    · obtain ⟨t', h', c1, c2, c3, c4, c5⟩ := ih (up I 36 (t + 1) (-9)) (by omega) (fun q q1 q2 => by
        by_cases hq : q = t + 1
        · rw [hq]; exact h4
        · exact h1 q (by omega) q2) (fun q hq => by
        rw [up_at]
        by_cases hq2 : q = t + 1
        · rw [if_pos ⟨rfl, hq2⟩, if_pos (by omega)]
        · rw [if_neg (fun h => hq2 h.2), h2 q hq]
          by_cases hq3 : t + 1 < q
          · rw [if_pos hq3, if_pos (by omega)]
          · rw [if_neg hq3, if_neg (by omega)])
      refine ⟨t', h', ?_, c2, c3, c4, c5⟩
      have m1 : Int32.ofNat (t + 1) + -1 = Int32.ofNat t := by
        rw [← oN_succ, Int32.add_assoc, show (1 : Int32) + -1 = 0 from rfl, Int32.add_zero]
      rw [e_X3_advance_15]
      have h5 : (dS (dg n c (t + 1)) = 3) = True := by rw [d3]; exact eq_true h4
      simp only [K_some, K_void, K_none, wA_ref, wA_null, isNull_null, isNull_ref, c_int, c_long, c_ref, c_null, c_float, catS_nil, catS_cons, fit_int, fit_bool, fit_long, isO_mk, len_mk, fld_mk, gI_mk, gI0_mk, gZ_mk, gR_mk, isI_mk, isR_mk, tag_mk, lenE_mk, datR_mk, isOs, lenOs, fldS, lenS, gIs, gI0s, gZs, gRs, isIs, isRs, tagS, datRs, mkv, refV, fkS, isArr, tagOk, datI_mk, wrI_mk, wrA_mk, wrF_mk, wrJ_mk, List.length_cons, List.length_nil, List.getElem?_cons_zero, List.getElem?_cons_succ, List.getElem?_nil, ↓reduceIte, Nat.reduceAdd, Nat.reduceMul, Nat.reduceSub, Nat.reduceDiv, Nat.reduceMod, Nat.reduceLT, Nat.reduceLeDiff, Nat.reduceBEq, Nat.reduceEqDiff, Nat.zero_lt_succ, beq_self_eq_true, Bool.true_and, Bool.and_true, Bool.or_true, Bool.true_or, Bool.or_false, Bool.false_or, Bool.false_and, Bool.and_false, Bool.not_true, Bool.not_false, Bool.false_eq_true, Bool.true_eq_false, Bool.and_eq_true, Bool.or_eq_true, Bool.not_eq_true', decide_eq_true_eq, decide_eq_false_iff_not, decide_true, decide_false, and_self, true_and, and_true, or_true, true_or, or_false, false_or, and_false, false_and, or_self, reduceCtorEq, not_true_eq_false, not_false_eq_true, if_true, if_false, Int32.reduceAdd, Int32.reduceSub, Int32.reduceMul, Int32.reduceDiv, Int32.reduceMod, Int32.reduceLT, Int32.reduceLE, eqF1, eqF2, Int32.reduceOfNat, Int32.reduceOfInt, Int32.reduceToNatClampNeg, inb_lit, e_X3_advance_0, e_X3_advance_1, e_X3_advance_4, e_X3_advance_5, e_X3_advance_8, e_X3_advance_9, e_X3_advance_12, e_X3_advance_13, e_X3_advance_14, e_X3_advance_16, e_X3_advance_19, e_X3_advance_20, e_X3_advance_23, e_X3_advance_24, e_X3_advance_25, e_X3_advance_26, e_X3_advance_29, e_X3_advance_30, e_X3_advance_33, e_X3_advance_34, e_X3_advance_36, e_X3_advance_37, e_X3_advance_40, e_X3_advance_44, e_X3_advance_47, e_X3_advance_48, e_X3_advance_49, e_X3_advance_52, e_X3_advance_53, e_X3_advance_54, e_X3_advance_57, e_X3_advance_58, e_X3_advance_59, e_X3_advance_62, e_X3_advance_63, e_X3_advance_64, e_X3_advance_65, e_X3_advance_68, sh_35, sh_36, sh_1, sh_2, sh_3, sh_4, sh_7, sh_8, sh_9, sh_10, sh_11, sh_12, sh_13, sh_29, sh_50, sh_53, sh_54, sh_55, sh_56, p0, q1, q2, w, h5, m1]
      rw [c1]
      congr 2
      funext b q
      rw [upA_at2, upA_at2]
      by_cases hb : b = 36
      · rw [if_pos hb, if_pos hb]
      · rw [if_neg hb, if_neg hb, up_at, if_neg (fun h => hb h.1)]
    · refine ⟨t + 1, I 36, ?_, ht, Or.inr h4, h1, h2⟩
      rw [e_X3_advance_15]
      simp only [K_some, K_void, K_none, wA_ref, wA_null, isNull_null, isNull_ref, c_int, c_long, c_ref, c_null, c_float, catS_nil, catS_cons, fit_int, fit_bool, fit_long, isO_mk, len_mk, fld_mk, gI_mk, gI0_mk, gZ_mk, gR_mk, isI_mk, isR_mk, tag_mk, lenE_mk, datR_mk, isOs, lenOs, fldS, lenS, gIs, gI0s, gZs, gRs, isIs, isRs, tagS, datRs, mkv, refV, fkS, isArr, tagOk, datI_mk, wrI_mk, wrA_mk, wrF_mk, wrJ_mk, List.length_cons, List.length_nil, List.getElem?_cons_zero, List.getElem?_cons_succ, List.getElem?_nil, ↓reduceIte, Nat.reduceAdd, Nat.reduceMul, Nat.reduceSub, Nat.reduceDiv, Nat.reduceMod, Nat.reduceLT, Nat.reduceLeDiff, Nat.reduceBEq, Nat.reduceEqDiff, Nat.zero_lt_succ, beq_self_eq_true, Bool.true_and, Bool.and_true, Bool.or_true, Bool.true_or, Bool.or_false, Bool.false_or, Bool.false_and, Bool.and_false, Bool.not_true, Bool.not_false, Bool.false_eq_true, Bool.true_eq_false, Bool.and_eq_true, Bool.or_eq_true, Bool.not_eq_true', decide_eq_true_eq, decide_eq_false_iff_not, decide_true, decide_false, and_self, true_and, and_true, or_true, true_or, or_false, false_or, and_false, false_and, or_self, reduceCtorEq, not_true_eq_false, not_false_eq_true, if_true, if_false, Int32.reduceAdd, Int32.reduceSub, Int32.reduceMul, Int32.reduceDiv, Int32.reduceMod, Int32.reduceLT, Int32.reduceLE, eqF1, eqF2, Int32.reduceOfNat, Int32.reduceOfInt, Int32.reduceToNatClampNeg, inb_lit, e_X3_advance_0, e_X3_advance_1, e_X3_advance_4, e_X3_advance_5, e_X3_advance_8, e_X3_advance_9, e_X3_advance_12, e_X3_advance_13, e_X3_advance_14, e_X3_advance_16, e_X3_advance_19, e_X3_advance_20, e_X3_advance_23, e_X3_advance_24, e_X3_advance_25, e_X3_advance_26, e_X3_advance_29, e_X3_advance_30, e_X3_advance_33, e_X3_advance_34, e_X3_advance_36, e_X3_advance_37, e_X3_advance_40, e_X3_advance_44, e_X3_advance_47, e_X3_advance_48, e_X3_advance_49, e_X3_advance_52, e_X3_advance_53, e_X3_advance_54, e_X3_advance_57, e_X3_advance_58, e_X3_advance_59, e_X3_advance_62, e_X3_advance_63, e_X3_advance_64, e_X3_advance_65, e_X3_advance_68, sh_35, sh_36, sh_1, sh_2, sh_3, sh_4, sh_7, sh_8, sh_9, sh_10, sh_11, sh_12, sh_13, sh_29, sh_50, sh_53, sh_54, sh_55, sh_56, p0, q1, q2, w, d3, h4, upA_self]
theorem q3_advance (hn : n ≤ 5) (hc : c < 5 ^ n) (hP : Pl I n (dg n c) H) : ∃ I', C (d + 5) iX3_advance [.ref 35] (mk N I J) = some (none, mk N I' J) ∧ Pl I' n (dg n (c + 1)) H ∧ ∀ b, fp b → I' b = I b := by
  have i5 : imin (Int32.ofNat n) 5 = Int32.ofNat n := imin_le (n := 5) hn (by omega)
  obtain ⟨p1, p2, p3⟩ := hP
  by_cases h0 : n = 0
  · subst h0
    have p1' : I 35 2 = 0 := p1
    have i5' : imin 0 5 = 0 := i5
    refine ⟨I, ?_, ⟨p1, fun d hd => by omega, fun d hd => ?_⟩, fun b _ => rfl⟩
    · simp only [K_some, K_void, K_none, wA_ref, wA_null, isNull_null, isNull_ref, c_int, c_long, c_ref, c_null, c_float, catS_nil, catS_cons, fit_int, fit_bool, fit_long, isO_mk, len_mk, fld_mk, gI_mk, gI0_mk, gZ_mk, gR_mk, isI_mk, isR_mk, tag_mk, lenE_mk, datR_mk, isOs, lenOs, fldS, lenS, gIs, gI0s, gZs, gRs, isIs, isRs, tagS, datRs, mkv, refV, fkS, isArr, tagOk, datI_mk, wrI_mk, wrA_mk, wrF_mk, wrJ_mk, List.length_cons, List.length_nil, List.getElem?_cons_zero, List.getElem?_cons_succ, List.getElem?_nil, ↓reduceIte, Nat.reduceAdd, Nat.reduceMul, Nat.reduceSub, Nat.reduceDiv, Nat.reduceMod, Nat.reduceLT, Nat.reduceLeDiff, Nat.reduceBEq, Nat.reduceEqDiff, Nat.zero_lt_succ, beq_self_eq_true, Bool.true_and, Bool.and_true, Bool.or_true, Bool.true_or, Bool.or_false, Bool.false_or, Bool.false_and, Bool.and_false, Bool.not_true, Bool.not_false, Bool.false_eq_true, Bool.true_eq_false, Bool.and_eq_true, Bool.or_eq_true, Bool.not_eq_true', decide_eq_true_eq, decide_eq_false_iff_not, decide_true, decide_false, and_self, true_and, and_true, or_true, true_or, or_false, false_or, and_false, false_and, or_self, reduceCtorEq, not_true_eq_false, not_false_eq_true, if_true, if_false, Int32.reduceAdd, Int32.reduceSub, Int32.reduceMul, Int32.reduceDiv, Int32.reduceMod, Int32.reduceLT, Int32.reduceLE, eqF1, eqF2, Int32.reduceOfNat, Int32.reduceOfInt, Int32.reduceToNatClampNeg, inb_lit, en_X3_advance, e_X3_advance_0, e_X3_advance_1, e_X3_advance_4, e_X3_advance_5, e_X3_advance_8, e_X3_advance_9, e_X3_advance_12, e_X3_advance_13, e_X3_advance_14, e_X3_advance_15, e_X3_advance_16, e_X3_advance_19, e_X3_advance_20, e_X3_advance_23, e_X3_advance_24, e_X3_advance_25, e_X3_advance_26, e_X3_advance_29, e_X3_advance_30, e_X3_advance_33, e_X3_advance_34, e_X3_advance_36, e_X3_advance_37, e_X3_advance_40, e_X3_advance_43, e_X3_advance_44, e_X3_advance_47, e_X3_advance_48, e_X3_advance_49, e_X3_advance_52, e_X3_advance_53, e_X3_advance_54, e_X3_advance_57, e_X3_advance_58, e_X3_advance_59, e_X3_advance_62, e_X3_advance_63, e_X3_advance_64, e_X3_advance_65, e_X3_advance_68, sh_35, sh_36, sh_1, sh_2, sh_3, sh_4, sh_7, sh_8, sh_9, sh_10, sh_11, sh_12, sh_13, sh_29, sh_50, sh_53, sh_54, sh_55, sh_56, p1', qJ_min, i5']
    · obtain rfl : d = 0 := by omega
      exact p3 0 (by omega)
  · obtain ⟨t', h', c1, c2, c3, c4, c5⟩ := ad_loop (d := d) (N := N) (J := J) (c := c) hn (n - 1) I (by omega) (fun q _ _ => by omega) (fun q hq => by rw [if_neg (by omega)]; exact p2 q hq)
    obtain ⟨n1, n2, n3⟩ := dg_next hn hc c2 c3 c4
    have m1 : Int32.ofNat n - 1 = Int32.ofNat (n - 1) := by
      obtain ⟨m, rfl⟩ : ∃ m, n = m + 1 := ⟨n - 1, by omega⟩
      rw [Nat.add_sub_cancel, ← oN_succ, Int32.add_sub_cancel]
    have q1 : inb (Int32.ofNat t') 5 = true := inb_ofNat (by omega) (by omega)
    have q2 : (Int32.ofNat t').toNatClampNeg = t' := nat_ofNat (by omega)
    have q3 := oN_neg (k := t') (by omega)
    have w := c5 t' c2
    rw [if_neg (by omega)] at w
    have af := fun M => q3_after (d := d + 3) (M := M) (dg_lt (n := n) (c := c) (d := t'))
    obtain ⟨I2, hI2⟩ : ∃ I2, I2 = up (upA I 36 h') 36 t' (dS (dg n (c + 1) t')) := ⟨_, rfl⟩
    have e2 : ∀ b, b ≠ 36 → I2 b = I b := fun b hb => by rw [hI2, up_ne hb, upA_ne hb]
    obtain ⟨I', k1, k2, k3⟩ := q3_reckon (d := d) (N := N) (J := J) (I := I2) (H := H) (s := dg n (c + 1)) (t := t') hn (fun _ => dg_lt) (by omega) (by rw [e2 35 (by omega)]; exact p1) (fun q hq => by
      rw [hI2, up_at, upA_same]
      by_cases hq1 : q = t'
      · rw [if_pos ⟨rfl, hq1⟩, hq1]
      · rw [if_neg (fun h => hq1 h.2), c5 q hq]
        by_cases hq2 : t' < q
        · rw [if_pos hq2, n3 q hq2 hq]; rfl
        · rw [if_neg hq2, n1 q (by omega)]) (fun q hq k hk => by
      rw [e2 _ (by omega), p3 q (by omega) k hk, bH_congr (s := dg n c) (s' := dg n (c + 1)) (fun z hz => (n1 z (by omega)).symm)])
    refine ⟨I', ?_, k2, fun b hb => by rw [k3 b hb, e2 b (by unfold fp at hb; omega)]⟩
    rw [n2] at hI2
    rw [hI2] at k1
    simp only [K_some, K_void, K_none, wA_ref, wA_null, isNull_null, isNull_ref, c_int, c_long, c_ref, c_null, c_float, catS_nil, catS_cons, fit_int, fit_bool, fit_long, isO_mk, len_mk, fld_mk, gI_mk, gI0_mk, gZ_mk, gR_mk, isI_mk, isR_mk, tag_mk, lenE_mk, datR_mk, isOs, lenOs, fldS, lenS, gIs, gI0s, gZs, gRs, isIs, isRs, tagS, datRs, mkv, refV, fkS, isArr, tagOk, datI_mk, wrI_mk, wrA_mk, wrF_mk, wrJ_mk, List.length_cons, List.length_nil, List.getElem?_cons_zero, List.getElem?_cons_succ, List.getElem?_nil, ↓reduceIte, Nat.reduceAdd, Nat.reduceMul, Nat.reduceSub, Nat.reduceDiv, Nat.reduceMod, Nat.reduceLT, Nat.reduceLeDiff, Nat.reduceBEq, Nat.reduceEqDiff, Nat.zero_lt_succ, beq_self_eq_true, Bool.true_and, Bool.and_true, Bool.or_true, Bool.true_or, Bool.or_false, Bool.false_or, Bool.false_and, Bool.and_false, Bool.not_true, Bool.not_false, Bool.false_eq_true, Bool.true_eq_false, Bool.and_eq_true, Bool.or_eq_true, Bool.not_eq_true', decide_eq_true_eq, decide_eq_false_iff_not, decide_true, decide_false, and_self, true_and, and_true, or_true, true_or, or_false, false_or, and_false, false_and, or_self, reduceCtorEq, not_true_eq_false, not_false_eq_true, if_true, if_false, Int32.reduceAdd, Int32.reduceSub, Int32.reduceMul, Int32.reduceDiv, Int32.reduceMod, Int32.reduceLT, Int32.reduceLE, eqF1, eqF2, Int32.reduceOfNat, Int32.reduceOfInt, Int32.reduceToNatClampNeg, inb_lit, en_X3_advance, e_X3_advance_0, e_X3_advance_1, e_X3_advance_4, e_X3_advance_5, e_X3_advance_8, e_X3_advance_9, e_X3_advance_12, e_X3_advance_13, e_X3_advance_14, e_X3_advance_16, e_X3_advance_19, e_X3_advance_20, e_X3_advance_23, e_X3_advance_24, e_X3_advance_25, e_X3_advance_26, e_X3_advance_29, e_X3_advance_30, e_X3_advance_33, e_X3_advance_34, e_X3_advance_36, e_X3_advance_37, e_X3_advance_40, e_X3_advance_44, e_X3_advance_47, e_X3_advance_48, e_X3_advance_49, e_X3_advance_52, e_X3_advance_53, e_X3_advance_54, e_X3_advance_57, e_X3_advance_58, e_X3_advance_59, e_X3_advance_62, e_X3_advance_63, e_X3_advance_64, e_X3_advance_65, e_X3_advance_68, sh_35, sh_36, sh_1, sh_2, sh_3, sh_4, sh_7, sh_8, sh_9, sh_10, sh_11, sh_12, sh_13, sh_29, sh_50, sh_53, sh_54, sh_55, sh_56, p1, qJ_min, i5, m1]
    refine c1.trans ?_
    simp only [K_some, K_void, K_none, wA_ref, wA_null, isNull_null, isNull_ref, c_int, c_long, c_ref, c_null, c_float, catS_nil, catS_cons, fit_int, fit_bool, fit_long, isO_mk, len_mk, fld_mk, gI_mk, gI0_mk, gZ_mk, gR_mk, isI_mk, isR_mk, tag_mk, lenE_mk, datR_mk, isOs, lenOs, fldS, lenS, gIs, gI0s, gZs, gRs, isIs, isRs, tagS, datRs, mkv, refV, fkS, isArr, tagOk, datI_mk, wrI_mk, wrA_mk, wrF_mk, wrJ_mk, List.length_cons, List.length_nil, List.getElem?_cons_zero, List.getElem?_cons_succ, List.getElem?_nil, ↓reduceIte, Nat.reduceAdd, Nat.reduceMul, Nat.reduceSub, Nat.reduceDiv, Nat.reduceMod, Nat.reduceLT, Nat.reduceLeDiff, Nat.reduceBEq, Nat.reduceEqDiff, Nat.zero_lt_succ, beq_self_eq_true, Bool.true_and, Bool.and_true, Bool.or_true, Bool.true_or, Bool.or_false, Bool.false_or, Bool.false_and, Bool.and_false, Bool.not_true, Bool.not_false, Bool.false_eq_true, Bool.true_eq_false, Bool.and_eq_true, Bool.or_eq_true, Bool.not_eq_true', decide_eq_true_eq, decide_eq_false_iff_not, decide_true, decide_false, and_self, true_and, and_true, or_true, true_or, or_false, false_or, and_false, false_and, or_self, reduceCtorEq, not_true_eq_false, not_false_eq_true, if_true, if_false, Int32.reduceAdd, Int32.reduceSub, Int32.reduceMul, Int32.reduceDiv, Int32.reduceMod, Int32.reduceLT, Int32.reduceLE, eqF1, eqF2, Int32.reduceOfNat, Int32.reduceOfInt, Int32.reduceToNatClampNeg, inb_lit, e_X3_advance_0, e_X3_advance_1, e_X3_advance_4, e_X3_advance_5, e_X3_advance_8, e_X3_advance_9, e_X3_advance_12, e_X3_advance_13, e_X3_advance_14, e_X3_advance_16, e_X3_advance_19, e_X3_advance_20, e_X3_advance_23, e_X3_advance_24, e_X3_advance_25, e_X3_advance_26, e_X3_advance_29, e_X3_advance_30, e_X3_advance_33, e_X3_advance_34, e_X3_advance_36, e_X3_advance_37, e_X3_advance_40, e_X3_advance_43, e_X3_advance_44, e_X3_advance_47, e_X3_advance_48, e_X3_advance_49, e_X3_advance_52, e_X3_advance_53, e_X3_advance_54, e_X3_advance_57, e_X3_advance_58, e_X3_advance_59, e_X3_advance_62, e_X3_advance_63, e_X3_advance_64, e_X3_advance_65, e_X3_advance_68, sh_35, sh_36, sh_1, sh_2, sh_3, sh_4, sh_7, sh_8, sh_9, sh_10, sh_11, sh_12, sh_13, sh_29, sh_50, sh_53, sh_54, sh_55, sh_56, upA_same, q1, q2, q3, w, af, k1]
end
