/-! plan -/
def okC (n : Nat) (κ σ L v : Int32) (H : Nat → Fin 13) (c : Nat) : Bool := !decide (rindI κ σ (Int32.ofNat (totN (bH (dg n c) H n))) (!decide (Int32.ofNat (totN (bH (dg n c) H n)) < L)) < v)
def btr (o : Option (Nat × Nat)) (f : Nat) : Bool := match o with
  | none => true
  | some p => decide (f < p.2)
def plN (n : Nat) (ok : Nat → Bool) : Nat → Nat → Option (Nat × Nat) → Option (Nat × Nat)
  | 0, _, o => o
  | j + 1, c, o => if btr o (sN (dg n c) n 0 0) = true ∧ ok c = true then plN n ok j (c + 1) (some (c, sN (dg n c) n 0 0)) else plN n ok j (c + 1) o
def oF (o : Option (Nat × Nat)) (z : Int32) : Int32 := match o with
  | none => z
  | some p => Int32.ofNat p.2
def oOk (n : Nat) (o : Option (Nat × Nat)) : Prop := match o with
  | none => True
  | some p => p.1 < 5 ^ n ∧ p.2 ≤ 5
theorem plN_ok {n : Nat} {ok : Nat → Bool} (hn : n ≤ 5) : ∀ {j c : Nat} {o : Option (Nat × Nat)}, c + j = 5 ^ n → oOk n o → oOk n (plN n ok j c o)
  | 0, _, _, _, h => h
  | j + 1, c, o, hc, h => by
    unfold plN
    have := sN_le (s := dg n c) (j := n) (d := 0) (c := 0)
    split
    · exact plN_ok hn (by omega) ⟨by omega, by show sN (dg n c) n 0 0 ≤ 5; omega⟩
    · exact plN_ok hn (by omega) h
def RS (I I0 : IT) (k n : Nat) (o : Option (Nat × Nat)) : Prop := match o with
  | none => I (57 + 2 * k) = I0 (57 + 2 * k) ∧ I (58 + 2 * k) = I0 (58 + 2 * k)
  | some p => I (57 + 2 * k) 1 = I0 (57 + 2 * k) 1 ∧ I (57 + 2 * k) 2 = Int32.ofNat n ∧ ∀ d, d < n → I (58 + 2 * k) d = dS (dg n p.1 d)
section
variable {d N a b c k n m i μ l B t q : Nat} {I I0 : IT} {J : JT} {r v x y z w L κ σ p : Int32} {A P Q : Int64} {u u6 u7 u8 : Value} {M : Mem} {H : Nat → Fin 13} {e : Nat → Int32} {s s' : Nat → Nat} {g f : FV} {D D' : List (Nat × Nat)} {K : Nat → Option (List (Nat × Nat))} {o : Option (Nat × Nat)} {I' : IT} {T : IT} {H0 : Nat → Fin 13}
theorem wt_loop (hn : n ≤ 5) (hk : k < 6) : ∀ (j t : Nat) (I : IT), t + j = n → I 35 2 = Int32.ofNat n → (∀ d, d < n → I 36 d = dS (s d)) → ∃ f', R (d + 2) iX3_writeTo 10 [.ref 35, .ref (57 + 2 * k), .int (Int32.ofNat t)] [] (mk N I J) = some (none, mk N (upA I (58 + 2 * k) f') J) ∧ (∀ q, t ≤ q → q < n → f' q = dS (s q)) ∧ ∀ q, q < t → f' q = I (58 + 2 * k) q := by
  intro j
  induction j with
  | zero =>
    intro t I ht h1 h2
    have q1 : ¬ Int32.ofNat t < Int32.ofNat n := fun h => by have := (oN_lt (by omega) (by omega)).mp h; omega
    refine ⟨I (58 + 2 * k), ?_, fun q _ _ => by omega, fun _ _ => rfl⟩
    rw [e_X3_writeTo_10]
    simp only [K_some, K_void, K_none, wA_ref, wA_null, isNull_null, isNull_ref, c_int, c_long, c_ref, c_null, c_float, catS_nil, catS_cons, fit_int, fit_bool, fit_long, isO_mk, len_mk, fld_mk, gI_mk, gI0_mk, gZ_mk, gR_mk, isI_mk, isR_mk, tag_mk, lenE_mk, datR_mk, isOs, lenOs, fldS, lenS, gIs, gI0s, gZs, gRs, isIs, isRs, tagS, datRs, mkv, refV, fkS, isArr, tagOk, datI_mk, wrI_mk, wrA_mk, wrF_mk, wrJ_mk, List.length_cons, List.length_nil, List.getElem?_cons_zero, List.getElem?_cons_succ, List.getElem?_nil, ↓reduceIte, Nat.reduceAdd, Nat.reduceMul, Nat.reduceSub, Nat.reduceDiv, Nat.reduceMod, Nat.reduceLT, Nat.reduceLeDiff, Nat.reduceBEq, Nat.reduceEqDiff, Nat.zero_lt_succ, beq_self_eq_true, Bool.true_and, Bool.and_true, Bool.or_true, Bool.true_or, Bool.or_false, Bool.false_or, Bool.false_and, Bool.and_false, Bool.not_true, Bool.not_false, Bool.false_eq_true, Bool.true_eq_false, Bool.and_eq_true, Bool.or_eq_true, Bool.not_eq_true', decide_eq_true_eq, decide_eq_false_iff_not, decide_true, decide_false, and_self, true_and, and_true, or_true, true_or, or_false, false_or, and_false, false_and, or_self, reduceCtorEq, not_true_eq_false, not_false_eq_true, if_true, if_false, Int32.reduceAdd, Int32.reduceSub, Int32.reduceMul, Int32.reduceDiv, Int32.reduceMod, Int32.reduceLT, Int32.reduceLE, eqF1, eqF2, Int32.reduceOfNat, Int32.reduceOfInt, Int32.reduceToNatClampNeg, inb_lit, e_X3_writeTo_0, e_X3_writeTo_1, e_X3_writeTo_2, e_X3_writeTo_5, e_X3_writeTo_8, e_X3_writeTo_9, e_X3_writeTo_11, e_X3_writeTo_12, e_X3_writeTo_15, e_X3_writeTo_18, e_X3_writeTo_19, e_X3_writeTo_20, e_X3_writeTo_23, e_X3_writeTo_24, e_X3_writeTo_27, e_X3_writeTo_28, e_X3_writeTo_29, e_X3_writeTo_30, e_X3_writeTo_33, e_X3_writeTo_34, e_X3_writeTo_35, e_X3_writeTo_38, e_X3_writeTo_41, e_X3_writeTo_44, sh_35, sh_36, sh_1, sh_2, sh_3, sh_4, sh_7, sh_8, sh_9, sh_10, sh_11, sh_12, sh_13, sh_29, sh_50, sh_53, sh_54, sh_55, sh_56, h1, q1, upA_self]
  | succ j ih =>
    intro t I ht h1 h2
    have q1 : Int32.ofNat t < Int32.ofNat n := (oN_lt (by omega) (by omega)).mpr (by omega)
    have q2 : Int32.ofNat t < 5 := (oN_lt (j := t) (k := 5) (by omega) (by omega)).mpr (by omega)
    have q3 : inb (Int32.ofNat t) 5 = true := inb_ofNat (by omega) (by omega)
    have q4 : (Int32.ofNat t).toNatClampNeg = t := nat_ofNat (by omega)
    have q5 : inb (Int32.ofNat t) 40 = true := inb_ofNat (by omega) (by omega)
    have w := h2 t (by omega)
    obtain ⟨f', c1, c2, c3⟩ := ih (t + 1) (up I (58 + 2 * k) t (dS (s t))) (by omega) (by rw [up_ne (by omega)]; exact h1) (fun d hd => by rw [up_ne (by omega)]; exact h2 d hd)
    refine ⟨f', ?_, fun q h3 h4 => ?_, fun q hq => by rw [c3 q (by omega), up_at, if_neg (by omega)]⟩
    · rw [e_X3_writeTo_10]
      simp only [K_some, K_void, K_none, wA_ref, wA_null, isNull_null, isNull_ref, c_int, c_long, c_ref, c_null, c_float, catS_nil, catS_cons, fit_int, fit_bool, fit_long, isO_mk, len_mk, fld_mk, gI_mk, gI0_mk, gZ_mk, gR_mk, isI_mk, isR_mk, tag_mk, lenE_mk, datR_mk, isOs, lenOs, fldS, lenS, gIs, gI0s, gZs, gRs, isIs, isRs, tagS, datRs, mkv, refV, fkS, isArr, tagOk, datI_mk, wrI_mk, wrA_mk, wrF_mk, wrJ_mk, List.length_cons, List.length_nil, List.getElem?_cons_zero, List.getElem?_cons_succ, List.getElem?_nil, ↓reduceIte, Nat.reduceAdd, Nat.reduceMul, Nat.reduceSub, Nat.reduceDiv, Nat.reduceMod, Nat.reduceLT, Nat.reduceLeDiff, Nat.reduceBEq, Nat.reduceEqDiff, Nat.zero_lt_succ, beq_self_eq_true, Bool.true_and, Bool.and_true, Bool.or_true, Bool.true_or, Bool.or_false, Bool.false_or, Bool.false_and, Bool.and_false, Bool.not_true, Bool.not_false, Bool.false_eq_true, Bool.true_eq_false, Bool.and_eq_true, Bool.or_eq_true, Bool.not_eq_true', decide_eq_true_eq, decide_eq_false_iff_not, decide_true, decide_false, and_self, true_and, and_true, or_true, true_or, or_false, false_or, and_false, false_and, or_self, reduceCtorEq, not_true_eq_false, not_false_eq_true, if_true, if_false, Int32.reduceAdd, Int32.reduceSub, Int32.reduceMul, Int32.reduceDiv, Int32.reduceMod, Int32.reduceLT, Int32.reduceLE, eqF1, eqF2, Int32.reduceOfNat, Int32.reduceOfInt, Int32.reduceToNatClampNeg, inb_lit, e_X3_writeTo_0, e_X3_writeTo_1, e_X3_writeTo_2, e_X3_writeTo_5, e_X3_writeTo_8, e_X3_writeTo_9, e_X3_writeTo_11, e_X3_writeTo_12, e_X3_writeTo_15, e_X3_writeTo_18, e_X3_writeTo_19, e_X3_writeTo_20, e_X3_writeTo_23, e_X3_writeTo_24, e_X3_writeTo_27, e_X3_writeTo_28, e_X3_writeTo_29, e_X3_writeTo_30, e_X3_writeTo_33, e_X3_writeTo_34, e_X3_writeTo_35, e_X3_writeTo_38, e_X3_writeTo_41, e_X3_writeTo_44, sh_35, sh_36, sh_1, sh_2, sh_3, sh_4, sh_7, sh_8, sh_9, sh_10, sh_11, sh_12, sh_13, sh_29, sh_50, sh_53, sh_54, sh_55, sh_56, h1, q1, q2, q3, q4, w, sh_row hk, q5_set (sh_row hk) (sh_rowB hk) (show 40 ≤ 4096 by omega) q5, oN_succ]
      rw [c1]
      congr 3
      funext b q
      rw [upA_at2, upA_at2]
      by_cases hb : b = 58 + 2 * k
      · rw [if_pos hb, if_pos hb]
      · rw [if_neg hb, if_neg hb, up_at, if_neg (fun h => hb h.1)]
    · by_cases hq : q = t
      · subst hq; rw [c3 q (by omega), up_same]
      · exact c2 q (by omega) h4
theorem q3_write (hn : n ≤ 5) (hk : k < 6) (hP : Pl I n s H) : ∃ I', C (d + 3) iX3_writeTo [.ref 35, .ref (57 + 2 * k)] (mk N I J) = some (none, mk N I' J) ∧ I' (57 + 2 * k) 1 = I (57 + 2 * k) 1 ∧ I' (57 + 2 * k) 2 = Int32.ofNat n ∧ (∀ q, q < n → I' (58 + 2 * k) q = dS (s q)) ∧ ∀ b, b ≠ 57 + 2 * k → b ≠ 58 + 2 * k → I' b = I b := by
  obtain ⟨p1, p2, p3⟩ := hP
  have im : imin (Int32.ofNat n) 40 = Int32.ofNat n := imin_le (n := 40) (by omega) (by omega)
  obtain ⟨I1, hI1⟩ : ∃ I1, I1 = up (upA I (58 + 2 * k) (fun q => if q < 40 then I (57 + 2 * k) 1 else I (58 + 2 * k) q)) (57 + 2 * k) 2 (Int32.ofNat n) := ⟨_, rfl⟩
  have e1 : ∀ b, b ≠ 57 + 2 * k → b ≠ 58 + 2 * k → I1 b = I b := fun b h1 h2 => by rw [hI1, up_ne h1, upA_ne h2]
  obtain ⟨f', c1, c2, c3⟩ := wt_loop (d := d) (N := N) (J := J) (s := s) hn hk n 0 I1 (by omega) (by rw [e1 35 (by omega) (by omega)]; exact p1) (fun q hq => by rw [e1 36 (by omega) (by omega)]; exact p2 q hq)
  rw [show Int32.ofNat 0 = 0 from rfl] at c1
  refine ⟨upA I1 (58 + 2 * k) f', ?_, ?_, ?_, fun q hq => by rw [upA_same]; exact c2 q (by omega) hq, fun b h1 h2 => by rw [upA_ne h2, e1 b h1 h2]⟩
  · rw [hI1] at c1 ⊢
    simp only [K_some, K_void, K_none, wA_ref, wA_null, isNull_null, isNull_ref, c_int, c_long, c_ref, c_null, c_float, catS_nil, catS_cons, fit_int, fit_bool, fit_long, isO_mk, len_mk, fld_mk, gI_mk, gI0_mk, gZ_mk, gR_mk, isI_mk, isR_mk, tag_mk, lenE_mk, datR_mk, isOs, lenOs, fldS, lenS, gIs, gI0s, gZs, gRs, isIs, isRs, tagS, datRs, mkv, refV, fkS, isArr, tagOk, datI_mk, wrI_mk, wrA_mk, wrF_mk, wrJ_mk, List.length_cons, List.length_nil, List.getElem?_cons_zero, List.getElem?_cons_succ, List.getElem?_nil, ↓reduceIte, Nat.reduceAdd, Nat.reduceMul, Nat.reduceSub, Nat.reduceDiv, Nat.reduceMod, Nat.reduceLT, Nat.reduceLeDiff, Nat.reduceBEq, Nat.reduceEqDiff, Nat.zero_lt_succ, beq_self_eq_true, Bool.true_and, Bool.and_true, Bool.or_true, Bool.true_or, Bool.or_false, Bool.false_or, Bool.false_and, Bool.and_false, Bool.not_true, Bool.not_false, Bool.false_eq_true, Bool.true_eq_false, Bool.and_eq_true, Bool.or_eq_true, Bool.not_eq_true', decide_eq_true_eq, decide_eq_false_iff_not, decide_true, decide_false, and_self, true_and, and_true, or_true, true_or, or_false, false_or, and_false, false_and, or_self, reduceCtorEq, not_true_eq_false, not_false_eq_true, if_true, if_false, Int32.reduceAdd, Int32.reduceSub, Int32.reduceMul, Int32.reduceDiv, Int32.reduceMod, Int32.reduceLT, Int32.reduceLE, eqF1, eqF2, Int32.reduceOfNat, Int32.reduceOfInt, Int32.reduceToNatClampNeg, inb_lit, en_X3_writeTo, e_X3_writeTo_0, e_X3_writeTo_1, e_X3_writeTo_2, e_X3_writeTo_5, e_X3_writeTo_8, e_X3_writeTo_9, e_X3_writeTo_11, e_X3_writeTo_12, e_X3_writeTo_15, e_X3_writeTo_18, e_X3_writeTo_19, e_X3_writeTo_20, e_X3_writeTo_23, e_X3_writeTo_24, e_X3_writeTo_27, e_X3_writeTo_28, e_X3_writeTo_29, e_X3_writeTo_30, e_X3_writeTo_33, e_X3_writeTo_34, e_X3_writeTo_35, e_X3_writeTo_38, e_X3_writeTo_41, e_X3_writeTo_44, sh_35, sh_1, sh_2, sh_3, sh_4, sh_7, sh_8, sh_9, sh_10, sh_11, sh_12, sh_13, sh_29, sh_50, sh_53, sh_54, sh_55, sh_56, p1, sh_row hk, q5_renew (sh_row hk) (sh_rowB hk) (show 40 ≤ 4096 by omega), im]
    exact c1
  · rw [upA_ne (by omega), hI1, up_at, if_neg (by omega), upA_ne (by omega)]
  · rw [upA_ne (by omega), hI1, up_same]
theorem pc2 (hn : n ≤ 5) (hk : k < 6) (hi : i < 6) (hL : I0 4 5 = L) (hκ : I0 (14 + i) 0 = κ) (hσ : I0 (14 + i) 2 = σ) : ∀ (j c : Nat) (I : IT) (o : Option (Nat × Nat)) (u : Value), c + j = 5 ^ n → Pl I n (dg n c) H → RS I I0 k n o → oOk n o → (∀ b, fp b → b ≠ 57 + 2 * k → b ≠ 58 + 2 * k → I b = I0 b) → ∃ I', R (d + 6) iX9_plan 80 [.ref 1, .int x, .int (Int32.ofNat n), .int v, .int y, .ref (14 + i), .ref (57 + 2 * k), .int (oF o (-9)), .int (Int32.ofNat (5 ^ n)), .int (Int32.ofNat c), u] [] (mk N I J) = some (some (.int (oF (plN n (okC n κ σ L v H) j c o) (-9))), mk N I' J) ∧ RS I' I0 k n (plN n (okC n κ σ L v H) j c o) ∧ ∀ b, fp b → b ≠ 57 + 2 * k → b ≠ 58 + 2 * k → I' b = I0 b := by
  have h5 : 5 ^ n ≤ 5 ^ 5 := Nat.pow_le_pow_right (by omega) hn
  intro j
  induction j with
  | zero =>
    intro c I o u hc hP hR ho hf
    have q1 : ¬ Int32.ofNat c < Int32.ofNat (5 ^ n) := fun h => by have := (oN_lt (by omega) (by omega)).mp h; omega
    refine ⟨I, ?_, hR, hf⟩
    rw [e_X9_plan_80]
    simp only [K_some, K_void, K_none, wA_ref, wA_null, isNull_null, isNull_ref, c_int, c_long, c_ref, c_null, c_float, catS_nil, catS_cons, fit_int, fit_bool, fit_long, isO_mk, len_mk, fld_mk, gI_mk, gI0_mk, gZ_mk, gR_mk, isI_mk, isR_mk, tag_mk, lenE_mk, datR_mk, isOs, lenOs, fldS, lenS, gIs, gI0s, gZs, gRs, isIs, isRs, tagS, datRs, mkv, refV, fkS, isArr, tagOk, datI_mk, wrI_mk, wrA_mk, wrF_mk, wrJ_mk, List.length_cons, List.length_nil, List.getElem?_cons_zero, List.getElem?_cons_succ, List.getElem?_nil, ↓reduceIte, Nat.reduceAdd, Nat.reduceMul, Nat.reduceSub, Nat.reduceDiv, Nat.reduceMod, Nat.reduceLT, Nat.reduceLeDiff, Nat.reduceBEq, Nat.reduceEqDiff, Nat.zero_lt_succ, beq_self_eq_true, Bool.true_and, Bool.and_true, Bool.or_true, Bool.true_or, Bool.or_false, Bool.false_or, Bool.false_and, Bool.and_false, Bool.not_true, Bool.not_false, Bool.false_eq_true, Bool.true_eq_false, Bool.and_eq_true, Bool.or_eq_true, Bool.not_eq_true', decide_eq_true_eq, decide_eq_false_iff_not, decide_true, decide_false, and_self, true_and, and_true, or_true, true_or, or_false, false_or, and_false, false_and, or_self, reduceCtorEq, not_true_eq_false, not_false_eq_true, if_true, if_false, Int32.reduceAdd, Int32.reduceSub, Int32.reduceMul, Int32.reduceDiv, Int32.reduceMod, Int32.reduceLT, Int32.reduceLE, eqF1, eqF2, Int32.reduceOfNat, Int32.reduceOfInt, Int32.reduceToNatClampNeg, inb_lit, e_X9_plan_0, e_X9_plan_1, e_X9_plan_4, e_X9_plan_5, e_X9_plan_8, e_X9_plan_10, e_X9_plan_11, e_X9_plan_13, e_X9_plan_16, e_X9_plan_18, e_X9_plan_20, e_X9_plan_23, e_X9_plan_24, e_X9_plan_25, e_X9_plan_26, e_X9_plan_29, e_X9_plan_32, e_X9_plan_33, e_X9_plan_34, e_X9_plan_36, e_X9_plan_39, e_X9_plan_42, e_X9_plan_44, e_X9_plan_47, e_X9_plan_48, e_X9_plan_49, e_X9_plan_51, e_X9_plan_53, e_X9_plan_54, e_X9_plan_57, e_X9_plan_58, e_X9_plan_61, e_X9_plan_64, e_X9_plan_65, e_X9_plan_68, e_X9_plan_69, e_X9_plan_72, e_X9_plan_75, e_X9_plan_77, e_X9_plan_78, e_X9_plan_82, e_X9_plan_84, e_X9_plan_87, e_X9_plan_88, e_X9_plan_91, e_X9_plan_94, e_X9_plan_96, e_X9_plan_98, e_X9_plan_100, e_X9_plan_103, e_X9_plan_105, e_X9_plan_107, e_X9_plan_110, e_X9_plan_112, e_X9_plan_113, e_X9_plan_116, e_X9_plan_119, e_X9_plan_120, e_X9_plan_123, e_X9_plan_126, e_X9_plan_129, e_X9_plan_130, e_X9_plan_133, e_X9_plan_135, e_X9_plan_137, e_X9_plan_138, e_X9_plan_141, e_X9_plan_143, e_X9_plan_146, e_X9_plan_147, e_X9_plan_150, e_X9_plan_153, e_X9_plan_156, e_X9_plan_159, e_X9_plan_161, q1, plN]
  | succ j ih =>
    intro c I o u hc hP hR ho hf
    have q1 : Int32.ofNat c < Int32.ofNat (5 ^ n) := (oN_lt (by omega) (by omega)).mpr (by omega)
    have sl := sN_le (s := dg n c) (j := n) (d := 0) (c := 0)
    have e4 : I 4 5 = L := by rw [hf 4 (by unfold fp; omega) (by omega) (by omega)]; exact hL
    have eκ : I (14 + i) 0 = κ := by rw [hf (14 + i) (by unfold fp; omega) (by omega) (by omega)]; exact hκ
    have eσ : I (14 + i) 2 = σ := by rw [hf (14 + i) (by unfold fp; omega) (by omega) (by omega)]; exact hσ
    obtain ⟨S, hS⟩ : ∃ S, sN (dg n c) n 0 0 = S := ⟨_, rfl⟩
    rw [hS] at sl
    have sy := q3_sayings (d := d + 4) (N := N) (J := J) hn (fun _ => dg_lt) hP
    rw [hS] at sy
    have la := q3_last (d := d + 4) (N := N) (J := J) hn hP
    obtain ⟨T, hT⟩ : ∃ T, Int32.ofNat (totN (bH (dg n c) H n)) = T := ⟨_, rfl⟩
    rw [hT] at la
    have okc : okC n κ σ L v H c = !decide (rindI κ σ T (!decide (T < L)) < v) := by unfold okC; rw [hT]
    -- the goes-on without a write
    obtain ⟨I1, a1, a2, a3⟩ := q3_advance (d := d + 1) (N := N) (J := J) hn (show c < 5 ^ n by omega) hP
    have hR1 : RS I1 I0 k n o := by
      unfold RS at hR ⊢
      rw [a3 (57 + 2 * k) (by unfold fp; omega), a3 (58 + 2 * k) (by unfold fp; omega)]
      exact hR
    obtain ⟨I2, b1, b2, b3⟩ := ih (c + 1) I1 o (.int (Int32.ofNat S)) (by omega) a2 hR1 ho (fun b hb h1 h2 => by rw [a3 b hb, hf b hb h1 h2])
    -- with one
    obtain ⟨I3, w1, w2, w3, w4, w5⟩ := q3_write (d := d + 3) (N := N) (J := J) hn hk hP
    have hP3 : Pl I3 n (dg n c) H := ⟨by rw [w5 35 (by omega) (by omega)]; exact hP.1, fun q hq => by rw [w5 36 (by omega) (by omega)]; exact hP.2.1 q hq, fun q hq k' hk' => by rw [w5 (39 + 2 * q) (by omega) (by omega)]; exact hP.2.2 q hq k' hk'⟩
    obtain ⟨I4, a4, a5, a6⟩ := q3_advance (d := d + 1) (N := N) (J := J) hn (show c < 5 ^ n by omega) hP3
    have rb : I (57 + 2 * k) 1 = I0 (57 + 2 * k) 1 := by
      unfold RS at hR
      rcases o with _ | p
      · simp only at hR; rw [hR.1]
      · simp only at hR; exact hR.1
    have hR4 : RS I4 I0 k n (some (c, S)) := by
      unfold RS
      simp only
      rw [a6 (57 + 2 * k) (by unfold fp; omega), a6 (58 + 2 * k) (by unfold fp; omega)]
      exact ⟨by rw [w2, rb], w3, w4⟩
    obtain ⟨I5, b4, b5, b6⟩ := ih (c + 1) I4 (some (c, S)) (.int (Int32.ofNat S)) (by omega) a5 hR4 ⟨by show c < 5 ^ n; omega, by show S ≤ 5; omega⟩ (fun b hb h1 h2 => by rw [a6 b hb, w5 b h1 h2, hf b hb h1 h2])
    by_cases hb : btr o S = true ∧ okC n κ σ L v H c = true
    · have hok : ¬ rindI κ σ T (!decide (T < L)) < v := by
        have := hb.2; rw [okc] at this; simpa using this
      have hpl : plN n (okC n κ σ L v H) (j + 1) c o = plN n (okC n κ σ L v H) j (c + 1) (some (c, S)) := by
        show (if btr o (sN (dg n c) n 0 0) = true ∧ okC n κ σ L v H c = true then plN n (okC n κ σ L v H) j (c + 1) (some (c, sN (dg n c) n 0 0)) else plN n (okC n κ σ L v H) j (c + 1) o) = _
        rw [hS, if_pos hb]
      rw [hpl]
      refine ⟨I5, ?_, b5, b6⟩
      have b4' : R (d + 6) iX9_plan 80 [.ref 1, .int x, .int (Int32.ofNat n), .int v, .int y, .ref (14 + i), .ref (57 + 2 * k), .int (Int32.ofNat S), .int (Int32.ofNat (5 ^ n)), .int (Int32.ofNat (c + 1)), .int (Int32.ofNat S)] [] (mk N I4 J) = some (some (.int (oF (plN n (okC n κ σ L v H) j (c + 1) (some (c, S))) (-9))), mk N I5 J) := b4
      rw [e_X9_plan_80]
      rcases o with _ | p
      · simp only [K_some, K_void, K_none, wA_ref, wA_null, isNull_null, isNull_ref, c_int, c_long, c_ref, c_null, c_float, catS_nil, catS_cons, fit_int, fit_bool, fit_long, isO_mk, len_mk, fld_mk, gI_mk, gI0_mk, gZ_mk, gR_mk, isI_mk, isR_mk, tag_mk, lenE_mk, datR_mk, isOs, lenOs, fldS, lenS, gIs, gI0s, gZs, gRs, isIs, isRs, tagS, datRs, mkv, refV, fkS, isArr, tagOk, datI_mk, wrI_mk, wrA_mk, wrF_mk, wrJ_mk, List.length_cons, List.length_nil, List.getElem?_cons_zero, List.getElem?_cons_succ, List.getElem?_nil, ↓reduceIte, Nat.reduceAdd, Nat.reduceMul, Nat.reduceSub, Nat.reduceDiv, Nat.reduceMod, Nat.reduceLT, Nat.reduceLeDiff, Nat.reduceBEq, Nat.reduceEqDiff, Nat.zero_lt_succ, beq_self_eq_true, Bool.true_and, Bool.and_true, Bool.or_true, Bool.true_or, Bool.or_false, Bool.false_or, Bool.false_and, Bool.and_false, Bool.not_true, Bool.not_false, Bool.false_eq_true, Bool.true_eq_false, Bool.and_eq_true, Bool.or_eq_true, Bool.not_eq_true', decide_eq_true_eq, decide_eq_false_iff_not, decide_true, decide_false, and_self, true_and, and_true, or_true, true_or, or_false, false_or, and_false, false_and, or_self, reduceCtorEq, not_true_eq_false, not_false_eq_true, if_true, if_false, Int32.reduceAdd, Int32.reduceSub, Int32.reduceMul, Int32.reduceDiv, Int32.reduceMod, Int32.reduceLT, Int32.reduceLE, eqF1, eqF2, Int32.reduceOfNat, Int32.reduceOfInt, Int32.reduceToNatClampNeg, inb_lit, e_X9_plan_0, e_X9_plan_1, e_X9_plan_4, e_X9_plan_5, e_X9_plan_8, e_X9_plan_10, e_X9_plan_11, e_X9_plan_13, e_X9_plan_16, e_X9_plan_18, e_X9_plan_20, e_X9_plan_23, e_X9_plan_24, e_X9_plan_25, e_X9_plan_26, e_X9_plan_29, e_X9_plan_32, e_X9_plan_33, e_X9_plan_34, e_X9_plan_36, e_X9_plan_39, e_X9_plan_42, e_X9_plan_44, e_X9_plan_47, e_X9_plan_48, e_X9_plan_49, e_X9_plan_51, e_X9_plan_53, e_X9_plan_54, e_X9_plan_57, e_X9_plan_58, e_X9_plan_61, e_X9_plan_64, e_X9_plan_65, e_X9_plan_68, e_X9_plan_69, e_X9_plan_72, e_X9_plan_75, e_X9_plan_77, e_X9_plan_78, e_X9_plan_82, e_X9_plan_84, e_X9_plan_87, e_X9_plan_88, e_X9_plan_91, e_X9_plan_94, e_X9_plan_96, e_X9_plan_98, e_X9_plan_100, e_X9_plan_103, e_X9_plan_105, e_X9_plan_107, e_X9_plan_110, e_X9_plan_112, e_X9_plan_113, e_X9_plan_116, e_X9_plan_119, e_X9_plan_120, e_X9_plan_123, e_X9_plan_126, e_X9_plan_129, e_X9_plan_130, e_X9_plan_133, e_X9_plan_135, e_X9_plan_137, e_X9_plan_138, e_X9_plan_141, e_X9_plan_143, e_X9_plan_146, e_X9_plan_147, e_X9_plan_150, e_X9_plan_153, e_X9_plan_156, e_X9_plan_159, e_X9_plan_161, sh_1, sh_4, sh_35, sh_2, sh_3, sh_7, sh_8, sh_9, sh_10, sh_11, sh_12, sh_13, sh_29, sh_50, sh_53, sh_54, sh_55, sh_56, q1, sy, oF, la, sh_wheel hi, q8_rindBy (sh_wheel hi), eκ, eσ, e4, hok, w1, a4, oN_succ]
        exact b4'
      · have hlt : S < p.2 := by have := hb.1; simpa [btr] using this
        have hlt2 : Int32.ofNat S < Int32.ofNat p.2 := (oN_lt (by omega) (by have := ho.2; omega)).mpr hlt
        have hn9 : (Int32.ofNat p.2 = -9) = False := eq_false fun h => by
          have := congrArg Int32.toInt h; rw [oN_int (by have := ho.2; omega), show (-9 : Int32).toInt = -9 from rfl] at this; omega
        simp only [K_some, K_void, K_none, wA_ref, wA_null, isNull_null, isNull_ref, c_int, c_long, c_ref, c_null, c_float, catS_nil, catS_cons, fit_int, fit_bool, fit_long, isO_mk, len_mk, fld_mk, gI_mk, gI0_mk, gZ_mk, gR_mk, isI_mk, isR_mk, tag_mk, lenE_mk, datR_mk, isOs, lenOs, fldS, lenS, gIs, gI0s, gZs, gRs, isIs, isRs, tagS, datRs, mkv, refV, fkS, isArr, tagOk, datI_mk, wrI_mk, wrA_mk, wrF_mk, wrJ_mk, List.length_cons, List.length_nil, List.getElem?_cons_zero, List.getElem?_cons_succ, List.getElem?_nil, ↓reduceIte, Nat.reduceAdd, Nat.reduceMul, Nat.reduceSub, Nat.reduceDiv, Nat.reduceMod, Nat.reduceLT, Nat.reduceLeDiff, Nat.reduceBEq, Nat.reduceEqDiff, Nat.zero_lt_succ, beq_self_eq_true, Bool.true_and, Bool.and_true, Bool.or_true, Bool.true_or, Bool.or_false, Bool.false_or, Bool.false_and, Bool.and_false, Bool.not_true, Bool.not_false, Bool.false_eq_true, Bool.true_eq_false, Bool.and_eq_true, Bool.or_eq_true, Bool.not_eq_true', decide_eq_true_eq, decide_eq_false_iff_not, decide_true, decide_false, and_self, true_and, and_true, or_true, true_or, or_false, false_or, and_false, false_and, or_self, reduceCtorEq, not_true_eq_false, not_false_eq_true, if_true, if_false, Int32.reduceAdd, Int32.reduceSub, Int32.reduceMul, Int32.reduceDiv, Int32.reduceMod, Int32.reduceLT, Int32.reduceLE, eqF1, eqF2, Int32.reduceOfNat, Int32.reduceOfInt, Int32.reduceToNatClampNeg, inb_lit, e_X9_plan_0, e_X9_plan_1, e_X9_plan_4, e_X9_plan_5, e_X9_plan_8, e_X9_plan_10, e_X9_plan_11, e_X9_plan_13, e_X9_plan_16, e_X9_plan_18, e_X9_plan_20, e_X9_plan_23, e_X9_plan_24, e_X9_plan_25, e_X9_plan_26, e_X9_plan_29, e_X9_plan_32, e_X9_plan_33, e_X9_plan_34, e_X9_plan_36, e_X9_plan_39, e_X9_plan_42, e_X9_plan_44, e_X9_plan_47, e_X9_plan_48, e_X9_plan_49, e_X9_plan_51, e_X9_plan_53, e_X9_plan_54, e_X9_plan_57, e_X9_plan_58, e_X9_plan_61, e_X9_plan_64, e_X9_plan_65, e_X9_plan_68, e_X9_plan_69, e_X9_plan_72, e_X9_plan_75, e_X9_plan_77, e_X9_plan_78, e_X9_plan_82, e_X9_plan_84, e_X9_plan_87, e_X9_plan_88, e_X9_plan_91, e_X9_plan_94, e_X9_plan_96, e_X9_plan_98, e_X9_plan_100, e_X9_plan_103, e_X9_plan_105, e_X9_plan_107, e_X9_plan_110, e_X9_plan_112, e_X9_plan_113, e_X9_plan_116, e_X9_plan_119, e_X9_plan_120, e_X9_plan_123, e_X9_plan_126, e_X9_plan_129, e_X9_plan_130, e_X9_plan_133, e_X9_plan_135, e_X9_plan_137, e_X9_plan_138, e_X9_plan_141, e_X9_plan_143, e_X9_plan_146, e_X9_plan_147, e_X9_plan_150, e_X9_plan_153, e_X9_plan_156, e_X9_plan_159, e_X9_plan_161, sh_1, sh_4, sh_35, sh_2, sh_3, sh_7, sh_8, sh_9, sh_10, sh_11, sh_12, sh_13, sh_29, sh_50, sh_53, sh_54, sh_55, sh_56, q1, sy, oF, la, sh_wheel hi, q8_rindBy (sh_wheel hi), eκ, eσ, e4, hok, hlt2, hn9, w1, a4, oN_succ]
        exact b4'
    · have hpl : plN n (okC n κ σ L v H) (j + 1) c o = plN n (okC n κ σ L v H) j (c + 1) o := by
        show (if btr o (sN (dg n c) n 0 0) = true ∧ okC n κ σ L v H c = true then plN n (okC n κ σ L v H) j (c + 1) (some (c, sN (dg n c) n 0 0)) else plN n (okC n κ σ L v H) j (c + 1) o) = _
        rw [hS, if_neg hb]
      rw [hpl]
      refine ⟨I2, ?_, b2, b3⟩
      rw [e_X9_plan_80]
      rcases o with _ | p
      · have hok : rindI κ σ T (!decide (T < L)) < v := by
          have h := hb; rw [okc] at h; simpa [btr] using h
        have b1' : R (d + 6) iX9_plan 80 [.ref 1, .int x, .int (Int32.ofNat n), .int v, .int y, .ref (14 + i), .ref (57 + 2 * k), .int (-9), .int (Int32.ofNat (5 ^ n)), .int (Int32.ofNat (c + 1)), .int (Int32.ofNat S)] [] (mk N I1 J) = some (some (.int (oF (plN n (okC n κ σ L v H) j (c + 1) none) (-9))), mk N I2 J) := b1
        simp only [K_some, K_void, K_none, wA_ref, wA_null, isNull_null, isNull_ref, c_int, c_long, c_ref, c_null, c_float, catS_nil, catS_cons, fit_int, fit_bool, fit_long, isO_mk, len_mk, fld_mk, gI_mk, gI0_mk, gZ_mk, gR_mk, isI_mk, isR_mk, tag_mk, lenE_mk, datR_mk, isOs, lenOs, fldS, lenS, gIs, gI0s, gZs, gRs, isIs, isRs, tagS, datRs, mkv, refV, fkS, isArr, tagOk, datI_mk, wrI_mk, wrA_mk, wrF_mk, wrJ_mk, List.length_cons, List.length_nil, List.getElem?_cons_zero, List.getElem?_cons_succ, List.getElem?_nil, ↓reduceIte, Nat.reduceAdd, Nat.reduceMul, Nat.reduceSub, Nat.reduceDiv, Nat.reduceMod, Nat.reduceLT, Nat.reduceLeDiff, Nat.reduceBEq, Nat.reduceEqDiff, Nat.zero_lt_succ, beq_self_eq_true, Bool.true_and, Bool.and_true, Bool.or_true, Bool.true_or, Bool.or_false, Bool.false_or, Bool.false_and, Bool.and_false, Bool.not_true, Bool.not_false, Bool.false_eq_true, Bool.true_eq_false, Bool.and_eq_true, Bool.or_eq_true, Bool.not_eq_true', decide_eq_true_eq, decide_eq_false_iff_not, decide_true, decide_false, and_self, true_and, and_true, or_true, true_or, or_false, false_or, and_false, false_and, or_self, reduceCtorEq, not_true_eq_false, not_false_eq_true, if_true, if_false, Int32.reduceAdd, Int32.reduceSub, Int32.reduceMul, Int32.reduceDiv, Int32.reduceMod, Int32.reduceLT, Int32.reduceLE, eqF1, eqF2, Int32.reduceOfNat, Int32.reduceOfInt, Int32.reduceToNatClampNeg, inb_lit, e_X9_plan_0, e_X9_plan_1, e_X9_plan_4, e_X9_plan_5, e_X9_plan_8, e_X9_plan_10, e_X9_plan_11, e_X9_plan_13, e_X9_plan_16, e_X9_plan_18, e_X9_plan_20, e_X9_plan_23, e_X9_plan_24, e_X9_plan_25, e_X9_plan_26, e_X9_plan_29, e_X9_plan_32, e_X9_plan_33, e_X9_plan_34, e_X9_plan_36, e_X9_plan_39, e_X9_plan_42, e_X9_plan_44, e_X9_plan_47, e_X9_plan_48, e_X9_plan_49, e_X9_plan_51, e_X9_plan_53, e_X9_plan_54, e_X9_plan_57, e_X9_plan_58, e_X9_plan_61, e_X9_plan_64, e_X9_plan_65, e_X9_plan_68, e_X9_plan_69, e_X9_plan_72, e_X9_plan_75, e_X9_plan_77, e_X9_plan_78, e_X9_plan_82, e_X9_plan_84, e_X9_plan_87, e_X9_plan_88, e_X9_plan_91, e_X9_plan_94, e_X9_plan_96, e_X9_plan_98, e_X9_plan_100, e_X9_plan_103, e_X9_plan_105, e_X9_plan_107, e_X9_plan_110, e_X9_plan_112, e_X9_plan_113, e_X9_plan_116, e_X9_plan_119, e_X9_plan_120, e_X9_plan_123, e_X9_plan_126, e_X9_plan_129, e_X9_plan_130, e_X9_plan_133, e_X9_plan_135, e_X9_plan_137, e_X9_plan_138, e_X9_plan_141, e_X9_plan_143, e_X9_plan_146, e_X9_plan_147, e_X9_plan_150, e_X9_plan_153, e_X9_plan_156, e_X9_plan_159, e_X9_plan_161, sh_1, sh_4, sh_35, sh_2, sh_3, sh_7, sh_8, sh_9, sh_10, sh_11, sh_12, sh_13, sh_29, sh_50, sh_53, sh_54, sh_55, sh_56, q1, sy, oF, la, sh_wheel hi, q8_rindBy (sh_wheel hi), eκ, eσ, e4, hok, a1, oN_succ]
        exact b1'
      · have hn9 : (Int32.ofNat p.2 = -9) = False := eq_false fun h => by
          have := congrArg Int32.toInt h; rw [oN_int (by have := ho.2; omega), show (-9 : Int32).toInt = -9 from rfl] at this; omega
        have b1' : R (d + 6) iX9_plan 80 [.ref 1, .int x, .int (Int32.ofNat n), .int v, .int y, .ref (14 + i), .ref (57 + 2 * k), .int (Int32.ofNat p.2), .int (Int32.ofNat (5 ^ n)), .int (Int32.ofNat (c + 1)), .int (Int32.ofNat S)] [] (mk N I1 J) = some (some (.int (oF (plN n (okC n κ σ L v H) j (c + 1) (some p)) (-9))), mk N I2 J) := b1
        by_cases hlt : S < p.2
        · have hlt2 : Int32.ofNat S < Int32.ofNat p.2 := (oN_lt (by omega) (by have := ho.2; omega)).mpr hlt
          have hok : rindI κ σ T (!decide (T < L)) < v := by
            have h := hb; rw [okc] at h; simpa [btr, hlt] using h
          simp only [K_some, K_void, K_none, wA_ref, wA_null, isNull_null, isNull_ref, c_int, c_long, c_ref, c_null, c_float, catS_nil, catS_cons, fit_int, fit_bool, fit_long, isO_mk, len_mk, fld_mk, gI_mk, gI0_mk, gZ_mk, gR_mk, isI_mk, isR_mk, tag_mk, lenE_mk, datR_mk, isOs, lenOs, fldS, lenS, gIs, gI0s, gZs, gRs, isIs, isRs, tagS, datRs, mkv, refV, fkS, isArr, tagOk, datI_mk, wrI_mk, wrA_mk, wrF_mk, wrJ_mk, List.length_cons, List.length_nil, List.getElem?_cons_zero, List.getElem?_cons_succ, List.getElem?_nil, ↓reduceIte, Nat.reduceAdd, Nat.reduceMul, Nat.reduceSub, Nat.reduceDiv, Nat.reduceMod, Nat.reduceLT, Nat.reduceLeDiff, Nat.reduceBEq, Nat.reduceEqDiff, Nat.zero_lt_succ, beq_self_eq_true, Bool.true_and, Bool.and_true, Bool.or_true, Bool.true_or, Bool.or_false, Bool.false_or, Bool.false_and, Bool.and_false, Bool.not_true, Bool.not_false, Bool.false_eq_true, Bool.true_eq_false, Bool.and_eq_true, Bool.or_eq_true, Bool.not_eq_true', decide_eq_true_eq, decide_eq_false_iff_not, decide_true, decide_false, and_self, true_and, and_true, or_true, true_or, or_false, false_or, and_false, false_and, or_self, reduceCtorEq, not_true_eq_false, not_false_eq_true, if_true, if_false, Int32.reduceAdd, Int32.reduceSub, Int32.reduceMul, Int32.reduceDiv, Int32.reduceMod, Int32.reduceLT, Int32.reduceLE, eqF1, eqF2, Int32.reduceOfNat, Int32.reduceOfInt, Int32.reduceToNatClampNeg, inb_lit, e_X9_plan_0, e_X9_plan_1, e_X9_plan_4, e_X9_plan_5, e_X9_plan_8, e_X9_plan_10, e_X9_plan_11, e_X9_plan_13, e_X9_plan_16, e_X9_plan_18, e_X9_plan_20, e_X9_plan_23, e_X9_plan_24, e_X9_plan_25, e_X9_plan_26, e_X9_plan_29, e_X9_plan_32, e_X9_plan_33, e_X9_plan_34, e_X9_plan_36, e_X9_plan_39, e_X9_plan_42, e_X9_plan_44, e_X9_plan_47, e_X9_plan_48, e_X9_plan_49, e_X9_plan_51, e_X9_plan_53, e_X9_plan_54, e_X9_plan_57, e_X9_plan_58, e_X9_plan_61, e_X9_plan_64, e_X9_plan_65, e_X9_plan_68, e_X9_plan_69, e_X9_plan_72, e_X9_plan_75, e_X9_plan_77, e_X9_plan_78, e_X9_plan_82, e_X9_plan_84, e_X9_plan_87, e_X9_plan_88, e_X9_plan_91, e_X9_plan_94, e_X9_plan_96, e_X9_plan_98, e_X9_plan_100, e_X9_plan_103, e_X9_plan_105, e_X9_plan_107, e_X9_plan_110, e_X9_plan_112, e_X9_plan_113, e_X9_plan_116, e_X9_plan_119, e_X9_plan_120, e_X9_plan_123, e_X9_plan_126, e_X9_plan_129, e_X9_plan_130, e_X9_plan_133, e_X9_plan_135, e_X9_plan_137, e_X9_plan_138, e_X9_plan_141, e_X9_plan_143, e_X9_plan_146, e_X9_plan_147, e_X9_plan_150, e_X9_plan_153, e_X9_plan_156, e_X9_plan_159, e_X9_plan_161, sh_1, sh_4, sh_35, sh_2, sh_3, sh_7, sh_8, sh_9, sh_10, sh_11, sh_12, sh_13, sh_29, sh_50, sh_53, sh_54, sh_55, sh_56, q1, sy, oF, la, sh_wheel hi, q8_rindBy (sh_wheel hi), eκ, eσ, e4, hok, hlt2, hn9, a1, oN_succ]
          exact b1'
        · have hlt2 : ¬ Int32.ofNat S < Int32.ofNat p.2 := fun h => hlt ((oN_lt (by omega) (by have := ho.2; omega)).mp h)
          simp only [K_some, K_void, K_none, wA_ref, wA_null, isNull_null, isNull_ref, c_int, c_long, c_ref, c_null, c_float, catS_nil, catS_cons, fit_int, fit_bool, fit_long, isO_mk, len_mk, fld_mk, gI_mk, gI0_mk, gZ_mk, gR_mk, isI_mk, isR_mk, tag_mk, lenE_mk, datR_mk, isOs, lenOs, fldS, lenS, gIs, gI0s, gZs, gRs, isIs, isRs, tagS, datRs, mkv, refV, fkS, isArr, tagOk, datI_mk, wrI_mk, wrA_mk, wrF_mk, wrJ_mk, List.length_cons, List.length_nil, List.getElem?_cons_zero, List.getElem?_cons_succ, List.getElem?_nil, ↓reduceIte, Nat.reduceAdd, Nat.reduceMul, Nat.reduceSub, Nat.reduceDiv, Nat.reduceMod, Nat.reduceLT, Nat.reduceLeDiff, Nat.reduceBEq, Nat.reduceEqDiff, Nat.zero_lt_succ, beq_self_eq_true, Bool.true_and, Bool.and_true, Bool.or_true, Bool.true_or, Bool.or_false, Bool.false_or, Bool.false_and, Bool.and_false, Bool.not_true, Bool.not_false, Bool.false_eq_true, Bool.true_eq_false, Bool.and_eq_true, Bool.or_eq_true, Bool.not_eq_true', decide_eq_true_eq, decide_eq_false_iff_not, decide_true, decide_false, and_self, true_and, and_true, or_true, true_or, or_false, false_or, and_false, false_and, or_self, reduceCtorEq, not_true_eq_false, not_false_eq_true, if_true, if_false, Int32.reduceAdd, Int32.reduceSub, Int32.reduceMul, Int32.reduceDiv, Int32.reduceMod, Int32.reduceLT, Int32.reduceLE, eqF1, eqF2, Int32.reduceOfNat, Int32.reduceOfInt, Int32.reduceToNatClampNeg, inb_lit, e_X9_plan_0, e_X9_plan_1, e_X9_plan_4, e_X9_plan_5, e_X9_plan_8, e_X9_plan_10, e_X9_plan_11, e_X9_plan_13, e_X9_plan_16, e_X9_plan_18, e_X9_plan_20, e_X9_plan_23, e_X9_plan_24, e_X9_plan_25, e_X9_plan_26, e_X9_plan_29, e_X9_plan_32, e_X9_plan_33, e_X9_plan_34, e_X9_plan_36, e_X9_plan_39, e_X9_plan_42, e_X9_plan_44, e_X9_plan_47, e_X9_plan_48, e_X9_plan_49, e_X9_plan_51, e_X9_plan_53, e_X9_plan_54, e_X9_plan_57, e_X9_plan_58, e_X9_plan_61, e_X9_plan_64, e_X9_plan_65, e_X9_plan_68, e_X9_plan_69, e_X9_plan_72, e_X9_plan_75, e_X9_plan_77, e_X9_plan_78, e_X9_plan_82, e_X9_plan_84, e_X9_plan_87, e_X9_plan_88, e_X9_plan_91, e_X9_plan_94, e_X9_plan_96, e_X9_plan_98, e_X9_plan_100, e_X9_plan_103, e_X9_plan_105, e_X9_plan_107, e_X9_plan_110, e_X9_plan_112, e_X9_plan_113, e_X9_plan_116, e_X9_plan_119, e_X9_plan_120, e_X9_plan_123, e_X9_plan_126, e_X9_plan_129, e_X9_plan_130, e_X9_plan_133, e_X9_plan_135, e_X9_plan_137, e_X9_plan_138, e_X9_plan_141, e_X9_plan_143, e_X9_plan_146, e_X9_plan_147, e_X9_plan_150, e_X9_plan_153, e_X9_plan_156, e_X9_plan_159, e_X9_plan_161, sh_1, sh_4, sh_35, sh_2, sh_3, sh_7, sh_8, sh_9, sh_10, sh_11, sh_12, sh_13, sh_29, sh_50, sh_53, sh_54, sh_55, sh_56, q1, sy, oF, hlt2, hn9, a1, oN_succ]
          exact b1'
/-- plan(i, m, v, k) -/
theorem z_plan (hW : WO T n l f H0 K D I) (hi : i < n) (hm : m ≤ 5) (hk : k < 6) (b3 : ¬ v < 0) (b4 : ¬ 60 < v) : ∃ I', C (d + 10) iX9_plan [.ref 1, .int (Int32.ofNat i), .int (Int32.ofNat m), .int v, .int (Int32.ofNat k)] (mk N I J) = some (some (.int (oF (plN m (okC m (f (10 + i)) (f (22 + i)) (Int32.ofNat l) v (hF H0 D)) (5 ^ m) 0 none) (-9))), mk N I' J) ∧ WO T n l f H0 K D I' ∧ RWx k I I' ∧ ∀ c S, plN m (okC m (f (10 + i)) (f (22 + i)) (Int32.ofNat l) v (hF H0 D)) (5 ^ m) 0 none = some (c, S) → Rw I' k m (fun d => dS (dg m c d)) := by
  have hF1 := wo_fa hW
  obtain ⟨a1, a2, a3, a4, a5, a6⟩ := fa_w hF1 hi
  obtain ⟨-, -, f3, f4, f5, f6, f7, f8, f9, -⟩ := hF1
  obtain ⟨l1, l2, l3, e5, -⟩ := wo_l hW
  rw [run_st hW.1.2.1.2 (by omega)] at a1 a3
  have hx : inb (Int32.ofNat i) n = true := inb_ofNat hi (by omega)
  have e1 : (Int32.ofNat i).toNatClampNeg = i := nat_ofNat (by omega)
  have w6 : i < 6 := by omega
  have b1 := oN_neg (k := m) (by omega)
  have b2 : ¬ 5 < Int32.ofNat m := fun h => by have := (oN_lt (j := 5) (k := m) (by omega) (by omega)).mp h; omega
  obtain ⟨I0, z1, z2, z3⟩ := q3_begin (d := d + 4) (N := N) (J := J) (n := m) hm f9
  have zm := q3_many (d := d + 7) (N := N) (J := J) hm z2
  have zd : (fun _ => 0 : Nat → Nat) = dg m 0 := by funext q; simp [dg]
  rw [zd] at z2
  obtain ⟨I1, c1, c2, c3⟩ := pc2 (d := d + 3) (N := N) (J := J) (I0 := I0) (n := m) (k := k) (i := i) (L := Int32.ofNat l) (κ := f (10 + i)) (σ := f (22 + i)) (v := v) (x := Int32.ofNat i) (y := Int32.ofNat k) hm hk w6 (by rw [z3 4 (by unfold fp; omega)]; exact l3) (by rw [z3 (14 + i) (by unfold fp; omega)]; exact a1) (by rw [z3 (14 + i) (by unfold fp; omega)]; exact a3) (5 ^ m) 0 I0 none (.float 0) (by omega) z2 ⟨rfl, rfl⟩ trivial (fun _ _ _ _ => rfl)
  have c1' : R (d + 9) iX9_plan 80 [.ref 1, .int (Int32.ofNat i), .int (Int32.ofNat m), .int v, .int (Int32.ofNat k), .ref (14 + i), .ref (57 + 2 * k), .int (-9), .int (Int32.ofNat (5 ^ m)), .int 0, .float 0] [] (mk N I0 J) = some (some (.int (oF (plN m (okC m (f (10 + i)) (f (22 + i)) (Int32.ofNat l) v (hF H0 D)) (5 ^ m) 0 none) (-9))), mk N I1 J) := c1
  have hC : ∀ b, fp b → b ≠ 57 + 2 * k → b ≠ 58 + 2 * k → I1 b = I b := fun b h1 h2 h3 => by rw [c3 b h1 h2 h3, z3 b h1]
  have cls : C (d + 10) iX9_plan [.ref 1, .int (Int32.ofNat i), .int (Int32.ofNat m), .int v, .int (Int32.ofNat k)] (mk N I J) = some (some (.int (oF (plN m (okC m (f (10 + i)) (f (22 + i)) (Int32.ofNat l) v (hF H0 D)) (5 ^ m) 0 none) (-9))), mk N I1 J) := by
    simp only [K_some, K_void, K_none, wA_ref, wA_null, isNull_null, isNull_ref, c_int, c_long, c_ref, c_null, c_float, catS_nil, catS_cons, fit_int, fit_bool, fit_long, isO_mk, len_mk, fld_mk, gI_mk, gI0_mk, gZ_mk, gR_mk, isI_mk, isR_mk, tag_mk, lenE_mk, datR_mk, isOs, lenOs, fldS, lenS, gIs, gI0s, gZs, gRs, isIs, isRs, tagS, datRs, mkv, refV, fkS, isArr, tagOk, datI_mk, wrI_mk, wrA_mk, wrF_mk, wrJ_mk, List.length_cons, List.length_nil, List.getElem?_cons_zero, List.getElem?_cons_succ, List.getElem?_nil, ↓reduceIte, Nat.reduceAdd, Nat.reduceMul, Nat.reduceSub, Nat.reduceDiv, Nat.reduceMod, Nat.reduceLT, Nat.reduceLeDiff, Nat.reduceBEq, Nat.reduceEqDiff, Nat.zero_lt_succ, beq_self_eq_true, Bool.true_and, Bool.and_true, Bool.or_true, Bool.true_or, Bool.or_false, Bool.false_or, Bool.false_and, Bool.and_false, Bool.not_true, Bool.not_false, Bool.false_eq_true, Bool.true_eq_false, Bool.and_eq_true, Bool.or_eq_true, Bool.not_eq_true', decide_eq_true_eq, decide_eq_false_iff_not, decide_true, decide_false, and_self, true_and, and_true, or_true, true_or, or_false, false_or, and_false, false_and, or_self, reduceCtorEq, not_true_eq_false, not_false_eq_true, if_true, if_false, Int32.reduceAdd, Int32.reduceSub, Int32.reduceMul, Int32.reduceDiv, Int32.reduceMod, Int32.reduceLT, Int32.reduceLE, eqF1, eqF2, Int32.reduceOfNat, Int32.reduceOfInt, Int32.reduceToNatClampNeg, inb_lit, en_X9_plan, e_X9_plan_0, e_X9_plan_1, e_X9_plan_4, e_X9_plan_5, e_X9_plan_8, e_X9_plan_10, e_X9_plan_11, e_X9_plan_13, e_X9_plan_16, e_X9_plan_18, e_X9_plan_20, e_X9_plan_23, e_X9_plan_24, e_X9_plan_25, e_X9_plan_26, e_X9_plan_29, e_X9_plan_32, e_X9_plan_33, e_X9_plan_34, e_X9_plan_36, e_X9_plan_39, e_X9_plan_42, e_X9_plan_44, e_X9_plan_47, e_X9_plan_48, e_X9_plan_49, e_X9_plan_51, e_X9_plan_53, e_X9_plan_54, e_X9_plan_57, e_X9_plan_58, e_X9_plan_61, e_X9_plan_64, e_X9_plan_65, e_X9_plan_68, e_X9_plan_69, e_X9_plan_72, e_X9_plan_75, e_X9_plan_77, e_X9_plan_78, e_X9_plan_82, e_X9_plan_84, e_X9_plan_87, e_X9_plan_88, e_X9_plan_91, e_X9_plan_94, e_X9_plan_96, e_X9_plan_98, e_X9_plan_100, e_X9_plan_103, e_X9_plan_105, e_X9_plan_107, e_X9_plan_110, e_X9_plan_112, e_X9_plan_113, e_X9_plan_116, e_X9_plan_119, e_X9_plan_120, e_X9_plan_123, e_X9_plan_126, e_X9_plan_129, e_X9_plan_130, e_X9_plan_133, e_X9_plan_135, e_X9_plan_137, e_X9_plan_138, e_X9_plan_141, e_X9_plan_143, e_X9_plan_146, e_X9_plan_147, e_X9_plan_150, e_X9_plan_153, e_X9_plan_156, e_X9_plan_159, e_X9_plan_161, sh_1, sh_4, sh_35, sh_2, sh_3, sh_7, sh_8, sh_9, sh_10, sh_11, sh_12, sh_13, sh_29, sh_50, sh_53, sh_54, sh_55, sh_56, q1_wheelOf f4 f5 hx, e1, q9_rowOf hk, q9_within, b1, b2, b3, b4, z1, zm]
    exact c1'
  have i57 : I0 (57 + 2 * k) = I (57 + 2 * k) := z3 _ (by unfold fp; omega)
  have i58 : I0 (58 + 2 * k) = I (58 + 2 * k) := z3 _ (by unfold fp; omega)
  generalize plN m (okC m (f (10 + i)) (f (22 + i)) (Int32.ofNat l) v (hF H0 D)) (5 ^ m) 0 none = o at cls c2 ⊢
  refine ⟨I1, cls, ?_, fun a h1 h2 h3 h4 => hC a (by unfold fp; omega) h3 h4, ?_⟩
  · rcases o with _ | ⟨c, S⟩
    · refine wo_congr (fun a ha => ?_) hW
      by_cases h1 : a = 57 + 2 * k
      · rw [h1, c2.1, i57]
      · by_cases h2 : a = 58 + 2 * k
        · rw [h2, c2.2, i58]
        · exact hC a (by unfold fp; omega) h1 h2
    · obtain ⟨k1, k2, k3⟩ := c2
      exact wo_row hk (fun a ha h1 h2 => hC a (by unfold fp; omega) h1 h2) (by rw [k1, i57]) (show m ≤ 40 by omega) k2 hW
  · rintro c S rfl
    obtain ⟨k1, k2, k3⟩ := c2
    exact ⟨hk, by omega, k2, trivial, fun q hq => k3 q hq, trivial⟩
end
