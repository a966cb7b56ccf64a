/-! DEEDS DONE: day, say, make, sell -/
def adI (I : IT) (L : Nat) (p : Nat × Nat) : IT := up (up (up I 11 L (Int32.ofNat p.1)) 12 L (Int32.ofNat p.2)) 10 2 (Int32.ofNat (L + 1))
/-- what deeds leave alone in the class -/
abbrev fr (b : Nat) : Prop := b ≠ 4 ∧ b ≠ 8 ∧ (b < 10 ∨ 12 < b) ∧ (b < 14 ∨ 19 < b)
theorem dc_add {I : IT} {D : List (Nat × Nat)} {p : Nat × Nat} (h : DC I 10 D) : DC (adI I D.length p) 10 (D ++ [p]) := by
  obtain ⟨h1, h2⟩ := h
  refine ⟨?_, fun j q hq => ?_⟩
  · rw [List.length_append]; simp [adI, up_at]
  · by_cases hj : j < D.length
    · rw [List.getElem?_append_left hj] at hq
      obtain ⟨a, b⟩ := h2 j q hq
      unfold adI
      constructor
      · simp only [up_at, upA_at2, upJ_at, true_and, and_true, and_self, false_and, and_false, if_true, if_false, ↓reduceIte, Nat.reduceEqDiff, Nat.reduceAdd, Nat.reduceMul]; rw [if_neg (by omega)]; exact a
      · simp only [up_at, upA_at2, upJ_at, true_and, and_true, and_self, false_and, and_false, if_true, if_false, ↓reduceIte, Nat.reduceEqDiff, Nat.reduceAdd, Nat.reduceMul]; rw [if_neg (by omega)]; exact b
    · rw [List.getElem?_append_right (by omega)] at hq
      by_cases hj2 : j = D.length
      · subst hj2
        rw [Nat.sub_self] at hq
        cases hq
        unfold adI
        constructor <;> simp only [up_at, upA_at2, upJ_at, true_and, and_true, and_self, false_and, and_false, if_true, if_false, ↓reduceIte, Nat.reduceEqDiff, Nat.reduceAdd, Nat.reduceMul]
      · rw [show j - D.length = (j - D.length - 1) + 1 by omega] at hq
        cases hq
theorem dc_congr {I I' : IT} {a : Nat} {D : List (Nat × Nat)} (h0 : I' a = I a) (h1 : I' (a + 1) = I (a + 1)) (h2 : I' (a + 2) = I (a + 2)) (h : DC I a D) : DC I' a D := by
  unfold DC; rw [h0, h1, h2]; exact h
theorem fc_congr {I I' : IT} {g : FV} {n : Nat} (hn : n ≤ 6) (h : ∀ b, b = 4 ∨ b = 8 ∨ (14 ≤ b ∧ b ≤ 19) → I' b = I b) (hF : FC I g n) : FC I' g n := by
  unfold FC
  rw [h 4 (by omega), h 8 (by omega)]
  refine ⟨hF.1, hF.2.1, hF.2.2.1, hF.2.2.2.1, fun i hi => ?_⟩
  rw [h (14 + i) (by omega)]
  exact hF.2.2.2.2 i hi
theorem ok_add {n : Nat} {D : List (Nat × Nat)} {p : Nat × Nat} (h : okD n D) (hp : wfD n p) (hL : D.length < 40) : okD n (D ++ [p]) := by
  refine ⟨by simp; omega, fun q hq => ?_⟩
  rcases List.mem_append.mp hq with hq | hq
  · exact h.2 q hq
  · rw [List.mem_singleton.mp hq]; exact hp
section
variable {d N a b k n m i μ l : Nat} {I : IT} {J : JT} {r s v x y z w : Int32} {M : Mem} {H : Nat → Fin 13} {g f : FV} {D : List (Nat × Nat)} {K : Nat → Option (List (Nat × Nat))} {p : Nat × Nat} {I' : IT} {T : IT} {H0 : Nat → Fin 13}
theorem cl_enact (hn : n ≤ 6) (h9 : runF D f 9 = Int32.ofNat n) (hp : wfD n p) (hL : D.length < 40) (hC : FC I (runF D f) n) (hD : DC I 10 D) (hH : HH (runF D f) H) : ∃ I1, C (d + 5) iX1_enact [.ref 4, .int (Int32.ofNat p.1), .int (Int32.ofNat p.2)] (mk N I J) = some (none, mk N I1 J) ∧ FC I1 (runF (D ++ [p]) f) n ∧ DC I1 10 (D ++ [p]) ∧ ∀ b, fr b → I1 b = I b := by
  have e4 : ∀ b, b < 10 ∨ 12 < b → adI I D.length p b = I b := fun b hb => by
    unfold adI; rw [up_ne (by omega), up_ne (by omega), up_ne (by omega)]
  have hC2 : FC (adI I D.length p) (runF D f) n := fc_congr hn (fun b hb => e4 b (by omega)) hC
  have s2 : adI I D.length p 4 6 = Int32.ofNat n := by rw [e4 4 (by omega), hC.2.1, h9]
  have hH2 : ∀ k, k < 8 → adI I D.length p 8 k = vi (H k) := fun k hk => by rw [e4 8 (by omega), hC.2.2.2.1 k hk, hH k hk]
  refine ⟨acI p H (adI I D.length p), ?_, ?_, ?_, fun b hb => ?_⟩
  · have e := q1_act (d := d) (N := N) (J := J) hn s2 hp hH2
    unfold adI at e ⊢
    simp only [K_some, K_void, K_none, wA_ref, wA_null, isNull_null, isNull_ref, c_int, c_long, c_ref, c_null, c_float, catS_nil, catS_cons, fit_int, fit_bool, fit_long, isO_mk, len_mk, fld_mk, gI_mk, gI0_mk, gZ_mk, gR_mk, isI_mk, isR_mk, tag_mk, lenE_mk, datR_mk, isOs, lenOs, fldS, lenS, gIs, gI0s, gZs, gRs, isIs, isRs, tagS, datRs, mkv, refV, fkS, isArr, tagOk, datI_mk, wrI_mk, wrA_mk, wrF_mk, wrJ_mk, List.length_cons, List.length_nil, List.getElem?_cons_zero, List.getElem?_cons_succ, List.getElem?_nil, ↓reduceIte, Nat.reduceAdd, Nat.reduceMul, Nat.reduceSub, Nat.reduceDiv, Nat.reduceMod, Nat.reduceLT, Nat.reduceLeDiff, Nat.reduceBEq, Nat.reduceEqDiff, Nat.zero_lt_succ, beq_self_eq_true, Bool.true_and, Bool.and_true, Bool.or_true, Bool.true_or, Bool.or_false, Bool.false_or, Bool.false_and, Bool.and_false, Bool.not_true, Bool.not_false, Bool.false_eq_true, Bool.true_eq_false, Bool.and_eq_true, Bool.or_eq_true, Bool.not_eq_true', decide_eq_true_eq, decide_eq_false_iff_not, decide_true, decide_false, and_self, true_and, and_true, or_true, true_or, or_false, false_or, and_false, false_and, or_self, reduceCtorEq, not_true_eq_false, not_false_eq_true, if_true, if_false, Int32.reduceAdd, Int32.reduceSub, Int32.reduceMul, Int32.reduceDiv, Int32.reduceMod, Int32.reduceLT, Int32.reduceLE, eqF1, eqF2, Int32.reduceOfNat, Int32.reduceOfInt, Int32.reduceToNatClampNeg, inb_lit, en_X1_enact, e_X1_enact_0, e_X1_enact_1, e_X1_enact_4, e_X1_enact_5, e_X1_enact_6, e_X1_enact_9, e_X1_enact_10, e_X1_enact_11, e_X1_enact_12, e_X1_enact_15, sh_4, sh_1, sh_2, sh_3, sh_7, sh_8, sh_9, sh_10, sh_11, sh_12, sh_13, sh_29, sh_35, sh_50, sh_53, sh_54, sh_55, sh_56, q0_add (a := 10) (b := 11) (c := 12) sh_10 sh_11 sh_12 (by omega) (by omega) (by omega) hL hD.1, e]
  · rw [run_app]; exact fc_ac hn hp hC2 hH
  · refine dc_congr (ac_fr hn hp (by omega)) (ac_fr hn hp (by omega)) (ac_fr hn hp (by omega)) (dc_add hD)
  · rw [ac_fr hn hp (by omega), e4 b (by omega)]
theorem roomD (hL : m ≤ 40) (h : m ≠ 40) : (40 < Int32.ofNat m + 1) = False ∧ (Int32.ofNat m = 40) = False := by
  constructor
  · rw [oN_succ]
    refine eq_false fun h2 => ?_
    have := (oN_lt (j := 40) (k := m + 1) (by omega) (by omega)).mp h2
    omega
  · refine eq_false fun h2 => ?_
    have := (oN_inj (j := m) (k := 40) (by omega) (by omega)).mp h2
    omega
theorem wo_enact (hW : WO T n l f H0 K D I) (hp : wfD n p) (hL : D.length < 40) : ∃ I1, C (d + 5) iX1_enact [.ref 4, .int (Int32.ofNat p.1), .int (Int32.ofNat p.2)] (mk N I J) = some (none, mk N I1 J) ∧ WO T n l f H0 K (D ++ [p]) I1 ∧ ∀ b, fr b → I1 b = I b := by
  have hF := wo_fa hW
  obtain ⟨h0, -, f3, f4, -⟩ := hF
  obtain ⟨h1, h2, h3, h4, h5, h6, h7⟩ := h0
  have h9 : runF D f 9 = Int32.ofNat n := by rw [run_st h2.2 (by omega)]; exact h1.2.1
  obtain ⟨I1, c1, c2, c3, c4⟩ := cl_enact (d := d) (N := N) (J := J) f4 h9 hp hL h4 h5 f3
  obtain ⟨-, w2, w3, w4, w5, w6⟩ := hW
  refine ⟨I1, c1, ⟨⟨h1, ok_add h2 hp hL, ?_, c2, c3, trivial, fun j hj => ?_⟩, w2, w3, w4, ?_, fun b hb => ?_⟩, c4⟩
  · rw [c4 6 (by unfold fr; omega)]; exact h3
  · have := h7 j hj
    unfold KP DC at this ⊢
    rw [c4 (20 + 3 * j) (by unfold fr; omega), c4 (20 + 3 * j + 1) (by unfold fr; omega), c4 (20 + 3 * j + 2) (by unfold fr; omega)]
    exact this
  · exact ci_congr (fun a h1 h2 => c4 a (by unfold fr; omega)) w5
  · unfold fx at hb
    rw [c4 b (by unfold fr; omega)]; exact w6 b hb
theorem fr_rw {I1 : IT} (h : ∀ b, fr b → I1 b = I b) : RWq I I1 ∧ I1 55 = I 55 := ⟨fun a h1 h2 => h a (by unfold fr; omega), h 55 (by unfold fr; omega)⟩
/-- day() -/
theorem z_day (hW : WO T n l f H0 K D I) (hL : D.length < 40) : ∃ I', C (d + 10) iX9_day [.ref 1] (mk N I J) = some (some (.int (Int32.ofNat (totN (hF H0 (D ++ [(0, 0)]))))), mk N I' J) ∧ WO T n l f H0 K (D ++ [(0, 0)]) I' ∧ RWq I I' ∧ I' 55 = I 55 := by
  obtain ⟨-, -, f3, f4, f5, f6, f7, f8, f9, f10, f11, f12, f13, -⟩ := wo_fa hW
  obtain ⟨l1, l2, l3, e5, -⟩ := wo_l hW
  obtain ⟨k1, k2⟩ := roomD (m := D.length) (by omega) (by omega)
  obtain ⟨I1, c1, c2, c3⟩ := wo_enact (d := d + 4) (N := N) (J := J) (p := (0, 0)) hW (Or.inl ⟨rfl, rfl⟩) hL
  simp only [show Int32.ofNat 0 = 0 from rfl] at c1
  obtain ⟨-, -, -, -, -, -, -, -, g9, -⟩ := wo_fa c2
  refine ⟨I1, ?_, c2, fr_rw c3⟩
  simp only [K_some, K_void, K_none, wA_ref, wA_null, isNull_null, isNull_ref, c_int, c_long, c_ref, c_null, c_float, catS_nil, catS_cons, fit_int, fit_bool, fit_long, isO_mk, len_mk, fld_mk, gI_mk, gI0_mk, gZ_mk, gR_mk, isI_mk, isR_mk, tag_mk, lenE_mk, datR_mk, isOs, lenOs, fldS, lenS, gIs, gI0s, gZs, gRs, isIs, isRs, tagS, datRs, mkv, refV, fkS, isArr, tagOk, datI_mk, wrI_mk, wrA_mk, wrF_mk, wrJ_mk, List.length_cons, List.length_nil, List.getElem?_cons_zero, List.getElem?_cons_succ, List.getElem?_nil, ↓reduceIte, Nat.reduceAdd, Nat.reduceMul, Nat.reduceSub, Nat.reduceDiv, Nat.reduceMod, Nat.reduceLT, Nat.reduceLeDiff, Nat.reduceBEq, Nat.reduceEqDiff, Nat.zero_lt_succ, beq_self_eq_true, Bool.true_and, Bool.and_true, Bool.or_true, Bool.true_or, Bool.or_false, Bool.false_or, Bool.false_and, Bool.and_false, Bool.not_true, Bool.not_false, Bool.false_eq_true, Bool.true_eq_false, Bool.and_eq_true, Bool.or_eq_true, Bool.not_eq_true', decide_eq_true_eq, decide_eq_false_iff_not, decide_true, decide_false, and_self, true_and, and_true, or_true, true_or, or_false, false_or, and_false, false_and, or_self, reduceCtorEq, not_true_eq_false, not_false_eq_true, if_true, if_false, Int32.reduceAdd, Int32.reduceSub, Int32.reduceMul, Int32.reduceDiv, Int32.reduceMod, Int32.reduceLT, Int32.reduceLE, eqF1, eqF2, Int32.reduceOfNat, Int32.reduceOfInt, Int32.reduceToNatClampNeg, inb_lit, en_X9_day, e_X9_day_0, e_X9_day_1, e_X9_day_4, e_X9_day_7, e_X9_day_10, e_X9_day_12, e_X9_day_13, e_X9_day_14, e_X9_day_17, e_X9_day_20, e_X9_day_21, e_X9_day_24, e_X9_day_27, e_X9_day_29, e_X9_day_30, e_X9_day_31, e_X9_day_34, e_X9_day_35, e_X9_day_36, e_X9_day_39, e_X9_day_40, e_X9_day_43, e_X9_day_46, e_X9_day_49, sh_1, sh_2, sh_3, sh_4, sh_7, sh_8, sh_9, sh_10, sh_11, sh_12, sh_13, sh_29, sh_35, sh_50, sh_53, sh_54, sh_55, sh_56, q1_isEmpty, e5, q0_hasRoom (a := 10) (b := 11) (c := 12) sh_10, f13, k1, c1, qG_total (a := 7) (b := 8) sh_7 sh_8 g9]
/-- say(m) -/
theorem z_say (hW : WO T n l f H0 K D I) (hL : D.length < 40) (hm : m < 4) : ∃ I', C (d + 10) iX9_say [.ref 1, .int (Int32.ofNat m)] (mk N I J) = some (some (.int (Int32.ofNat (totN (hF H0 (D ++ [(1, m)]))))), mk N I' J) ∧ WO T n l f H0 K (D ++ [(1, m)]) I' ∧ RWq I I' ∧ I' 55 = I 55 := by
  obtain ⟨-, -, f3, f4, f5, f6, f7, f8, f9, f10, f11, f12, f13, -⟩ := wo_fa hW
  obtain ⟨l1, l2, l3, e5, -⟩ := wo_l hW
  obtain ⟨k1, k2⟩ := roomD (m := D.length) (by omega) (by omega)
  obtain ⟨I1, c1, c2, c3⟩ := wo_enact (d := d + 4) (N := N) (J := J) (p := (1, m)) hW (Or.inr (Or.inl ⟨rfl, hm⟩)) hL
  simp only [show Int32.ofNat 1 = 1 from rfl] at c1
  obtain ⟨-, -, -, -, -, -, -, -, g9, -⟩ := wo_fa c2
  have q1 := oN_neg (k := m) (by omega)
  have q2 : ¬ 3 < Int32.ofNat m := fun h => by have := (oN_lt (j := 3) (k := m) (by omega) (by omega)).mp h; omega
  refine ⟨I1, ?_, c2, fr_rw c3⟩
  simp only [K_some, K_void, K_none, wA_ref, wA_null, isNull_null, isNull_ref, c_int, c_long, c_ref, c_null, c_float, catS_nil, catS_cons, fit_int, fit_bool, fit_long, isO_mk, len_mk, fld_mk, gI_mk, gI0_mk, gZ_mk, gR_mk, isI_mk, isR_mk, tag_mk, lenE_mk, datR_mk, isOs, lenOs, fldS, lenS, gIs, gI0s, gZs, gRs, isIs, isRs, tagS, datRs, mkv, refV, fkS, isArr, tagOk, datI_mk, wrI_mk, wrA_mk, wrF_mk, wrJ_mk, List.length_cons, List.length_nil, List.getElem?_cons_zero, List.getElem?_cons_succ, List.getElem?_nil, ↓reduceIte, Nat.reduceAdd, Nat.reduceMul, Nat.reduceSub, Nat.reduceDiv, Nat.reduceMod, Nat.reduceLT, Nat.reduceLeDiff, Nat.reduceBEq, Nat.reduceEqDiff, Nat.zero_lt_succ, beq_self_eq_true, Bool.true_and, Bool.and_true, Bool.or_true, Bool.true_or, Bool.or_false, Bool.false_or, Bool.false_and, Bool.and_false, Bool.not_true, Bool.not_false, Bool.false_eq_true, Bool.true_eq_false, Bool.and_eq_true, Bool.or_eq_true, Bool.not_eq_true', decide_eq_true_eq, decide_eq_false_iff_not, decide_true, decide_false, and_self, true_and, and_true, or_true, true_or, or_false, false_or, and_false, false_and, or_self, reduceCtorEq, not_true_eq_false, not_false_eq_true, if_true, if_false, Int32.reduceAdd, Int32.reduceSub, Int32.reduceMul, Int32.reduceDiv, Int32.reduceMod, Int32.reduceLT, Int32.reduceLE, eqF1, eqF2, Int32.reduceOfNat, Int32.reduceOfInt, Int32.reduceToNatClampNeg, inb_lit, en_X9_say, e_X9_say_0, e_X9_say_1, e_X9_say_4, e_X9_say_7, e_X9_say_8, e_X9_say_9, e_X9_say_10, e_X9_say_13, e_X9_say_16, e_X9_say_19, e_X9_say_21, e_X9_say_22, e_X9_say_23, e_X9_say_26, e_X9_say_29, e_X9_say_30, e_X9_say_33, e_X9_say_36, e_X9_say_38, e_X9_say_39, e_X9_say_40, e_X9_say_43, e_X9_say_44, e_X9_say_45, e_X9_say_48, e_X9_say_49, e_X9_say_52, e_X9_say_55, e_X9_say_58, sh_1, sh_2, sh_3, sh_4, sh_7, sh_8, sh_9, sh_10, sh_11, sh_12, sh_13, sh_29, sh_35, sh_50, sh_53, sh_54, sh_55, sh_56, q9_isMatter, q1, q2, q1_isEmpty, e5, q0_hasRoom (a := 10) (b := 11) (c := 12) sh_10, f13, k1, c1, qG_total (a := 7) (b := 8) sh_7 sh_8 g9]
/-- make(i) -/
theorem z_make (hW : WO T n l f H0 K D I) (hL : D.length < 40) (hi : i < n) (hm : runF D f (78 + i) = -9) : ∃ I', C (d + 10) iX9_make [.ref 1, .int (Int32.ofNat i)] (mk N I J) = some (some (.int (tlF (runF D f) i 6)), mk N I' J) ∧ WO T n l f H0 K (D ++ [(2, i)]) I' ∧ RWq I I' ∧ I' 55 = I 55 := by
  have hF := wo_fa hW
  obtain ⟨a1, a2, a3, a4, a5, a6⟩ := fa_w hF hi
  obtain ⟨-, -, f3, f4, f5, f6, f7, f8, f9, f10, f11, f12, f13, -⟩ := hF
  have hi' : inb (Int32.ofNat i) n = true := inb_ofNat hi (by omega)
  have e1 : (Int32.ofNat i).toNatClampNeg = i := nat_ofNat (by omega)
  have w6 : i < 6 := by omega
  obtain ⟨k1, k2⟩ := roomD (m := D.length) (by omega) (by omega)
  obtain ⟨I1, c1, c2, c3⟩ := wo_enact (d := d + 4) (N := N) (J := J) (p := (2, i)) hW (Or.inr (Or.inr ⟨Or.inl rfl, hi⟩)) hL
  simp only [show Int32.ofNat 2 = 2 from rfl] at c1
  obtain ⟨-, -, -, -, b5, -⟩ := fa_w (wo_fa c2) hi
  have w1 : I1 (14 + i) 4 = tlF (runF D f) i 6 := by
    rw [b5, run_app]
    show mkF i (runF D f) (84 + i) = _
    unfold mkF tlF
    rw [if_pos rfl]
    simp
  refine ⟨I1, ?_, c2, fr_rw c3⟩
  simp only [K_some, K_void, K_none, wA_ref, wA_null, isNull_null, isNull_ref, c_int, c_long, c_ref, c_null, c_float, catS_nil, catS_cons, fit_int, fit_bool, fit_long, isO_mk, len_mk, fld_mk, gI_mk, gI0_mk, gZ_mk, gR_mk, isI_mk, isR_mk, tag_mk, lenE_mk, datR_mk, isOs, lenOs, fldS, lenS, gIs, gI0s, gZs, gRs, isIs, isRs, tagS, datRs, mkv, refV, fkS, isArr, tagOk, datI_mk, wrI_mk, wrA_mk, wrF_mk, wrJ_mk, List.length_cons, List.length_nil, List.getElem?_cons_zero, List.getElem?_cons_succ, List.getElem?_nil, ↓reduceIte, Nat.reduceAdd, Nat.reduceMul, Nat.reduceSub, Nat.reduceDiv, Nat.reduceMod, Nat.reduceLT, Nat.reduceLeDiff, Nat.reduceBEq, Nat.reduceEqDiff, Nat.zero_lt_succ, beq_self_eq_true, Bool.true_and, Bool.and_true, Bool.or_true, Bool.true_or, Bool.or_false, Bool.false_or, Bool.false_and, Bool.and_false, Bool.not_true, Bool.not_false, Bool.false_eq_true, Bool.true_eq_false, Bool.and_eq_true, Bool.or_eq_true, Bool.not_eq_true', decide_eq_true_eq, decide_eq_false_iff_not, decide_true, decide_false, and_self, true_and, and_true, or_true, true_or, or_false, false_or, and_false, false_and, or_self, reduceCtorEq, not_true_eq_false, not_false_eq_true, if_true, if_false, Int32.reduceAdd, Int32.reduceSub, Int32.reduceMul, Int32.reduceDiv, Int32.reduceMod, Int32.reduceLT, Int32.reduceLE, eqF1, eqF2, Int32.reduceOfNat, Int32.reduceOfInt, Int32.reduceToNatClampNeg, inb_lit, en_X9_make, e_X9_make_0, e_X9_make_1, e_X9_make_4, e_X9_make_5, e_X9_make_8, e_X9_make_9, e_X9_make_10, e_X9_make_13, e_X9_make_14, e_X9_make_15, e_X9_make_16, e_X9_make_19, e_X9_make_22, e_X9_make_24, e_X9_make_25, e_X9_make_26, e_X9_make_29, e_X9_make_32, e_X9_make_33, e_X9_make_36, e_X9_make_39, e_X9_make_41, e_X9_make_42, e_X9_make_43, e_X9_make_46, e_X9_make_47, e_X9_make_48, e_X9_make_51, e_X9_make_52, e_X9_make_55, sh_1, sh_2, sh_3, sh_4, sh_7, sh_8, sh_9, sh_10, sh_11, sh_12, sh_13, sh_29, sh_35, sh_50, sh_53, sh_54, sh_55, sh_56, q1_wheelOf f4 f5 hi', e1, sh_wheel w6, q8_isMade (sh_wheel w6), a4, hm, q0_hasRoom (a := 10) (b := 11) (c := 12) sh_10, f13, k1, c1, w1]
theorem z_makeNo (hW : WO T n l f H0 K D I) (hi : i < n) (hm : runF D f (78 + i) ≠ -9) : C (d + 10) iX9_make [.ref 1, .int (Int32.ofNat i)] (mk N I J) = some (some (.int (-4)), mk N I J) := by
  have hF := wo_fa hW
  obtain ⟨a1, a2, a3, a4, a5, a6⟩ := fa_w hF hi
  obtain ⟨-, -, f3, f4, f5, f6, f7, f8, f9, f10, f11, f12, f13, -⟩ := hF
  have hi' : inb (Int32.ofNat i) n = true := inb_ofNat hi (by omega)
  have e1 : (Int32.ofNat i).toNatClampNeg = i := nat_ofNat (by omega)
  have w6 : i < 6 := by omega
  simp only [K_some, K_void, K_none, wA_ref, wA_null, isNull_null, isNull_ref, c_int, c_long, c_ref, c_null, c_float, catS_nil, catS_cons, fit_int, fit_bool, fit_long, isO_mk, len_mk, fld_mk, gI_mk, gI0_mk, gZ_mk, gR_mk, isI_mk, isR_mk, tag_mk, lenE_mk, datR_mk, isOs, lenOs, fldS, lenS, gIs, gI0s, gZs, gRs, isIs, isRs, tagS, datRs, mkv, refV, fkS, isArr, tagOk, datI_mk, wrI_mk, wrA_mk, wrF_mk, wrJ_mk, List.length_cons, List.length_nil, List.getElem?_cons_zero, List.getElem?_cons_succ, List.getElem?_nil, ↓reduceIte, Nat.reduceAdd, Nat.reduceMul, Nat.reduceSub, Nat.reduceDiv, Nat.reduceMod, Nat.reduceLT, Nat.reduceLeDiff, Nat.reduceBEq, Nat.reduceEqDiff, Nat.zero_lt_succ, beq_self_eq_true, Bool.true_and, Bool.and_true, Bool.or_true, Bool.true_or, Bool.or_false, Bool.false_or, Bool.false_and, Bool.and_false, Bool.not_true, Bool.not_false, Bool.false_eq_true, Bool.true_eq_false, Bool.and_eq_true, Bool.or_eq_true, Bool.not_eq_true', decide_eq_true_eq, decide_eq_false_iff_not, decide_true, decide_false, and_self, true_and, and_true, or_true, true_or, or_false, false_or, and_false, false_and, or_self, reduceCtorEq, not_true_eq_false, not_false_eq_true, if_true, if_false, Int32.reduceAdd, Int32.reduceSub, Int32.reduceMul, Int32.reduceDiv, Int32.reduceMod, Int32.reduceLT, Int32.reduceLE, eqF1, eqF2, Int32.reduceOfNat, Int32.reduceOfInt, Int32.reduceToNatClampNeg, inb_lit, en_X9_make, e_X9_make_0, e_X9_make_1, e_X9_make_4, e_X9_make_5, e_X9_make_8, e_X9_make_9, e_X9_make_10, e_X9_make_13, e_X9_make_14, e_X9_make_15, e_X9_make_16, e_X9_make_19, e_X9_make_22, e_X9_make_24, e_X9_make_25, e_X9_make_26, e_X9_make_29, e_X9_make_32, e_X9_make_33, e_X9_make_36, e_X9_make_39, e_X9_make_41, e_X9_make_42, e_X9_make_43, e_X9_make_46, e_X9_make_47, e_X9_make_48, e_X9_make_51, e_X9_make_52, e_X9_make_55, sh_1, sh_2, sh_3, sh_4, sh_7, sh_8, sh_9, sh_10, sh_11, sh_12, sh_13, sh_29, sh_35, sh_50, sh_53, sh_54, sh_55, sh_56, q1_wheelOf f4 f5 hi', e1, sh_wheel w6, q8_isMade (sh_wheel w6), a4, hm]
/-- sell(i) -/
theorem z_sell (hW : WO T n l f H0 K D I) (hL : D.length < 40) (hi : i < n) (hm : ShP (runF D f) i) : ∃ I', C (d + 10) iX9_sell [.ref 1, .int (Int32.ofNat i)] (mk N I J) = some (some (.int (runF D f (84 + i))), mk N I' J) ∧ WO T n l f H0 K (D ++ [(3, i)]) I' ∧ RWq I I' ∧ I' 55 = I 55 := by
  have hF := wo_fa hW
  obtain ⟨a1, a2, a3, a4, a5, a6⟩ := fa_w hF hi
  obtain ⟨-, -, f3, f4, f5, f6, f7, f8, f9, f10, f11, f12, f13, f14, f15, -⟩ := hF
  have hi' : inb (Int32.ofNat i) n = true := inb_ofNat hi (by omega)
  have e1 : (Int32.ofNat i).toNatClampNeg = i := nat_ofNat (by omega)
  have w6 : i < 6 := by omega
  have hm1 : ShC I i = True := eq_true ((f15 i hi).mpr hm)
  obtain ⟨k1, k2⟩ := roomD (m := D.length) (by omega) (by omega)
  obtain ⟨I1, c1, c2, c3⟩ := wo_enact (d := d + 4) (N := N) (J := J) (p := (3, i)) hW (Or.inr (Or.inr ⟨Or.inr rfl, hi⟩)) hL
  simp only [show Int32.ofNat 3 = 3 from rfl] at c1
  obtain ⟨-, -, -, -, b5, -⟩ := fa_w (wo_fa c2) hi
  have w1 : I1 (14 + i) 4 = runF D f (84 + i) := by
    rw [b5, run_app]
    show slF i (runF D f) (84 + i) = _
    unfold slF
    rw [if_neg (by omega)]
  refine ⟨I1, ?_, c2, fr_rw c3⟩
  simp only [K_some, K_void, K_none, wA_ref, wA_null, isNull_null, isNull_ref, c_int, c_long, c_ref, c_null, c_float, catS_nil, catS_cons, fit_int, fit_bool, fit_long, isO_mk, len_mk, fld_mk, gI_mk, gI0_mk, gZ_mk, gR_mk, isI_mk, isR_mk, tag_mk, lenE_mk, datR_mk, isOs, lenOs, fldS, lenS, gIs, gI0s, gZs, gRs, isIs, isRs, tagS, datRs, mkv, refV, fkS, isArr, tagOk, datI_mk, wrI_mk, wrA_mk, wrF_mk, wrJ_mk, List.length_cons, List.length_nil, List.getElem?_cons_zero, List.getElem?_cons_succ, List.getElem?_nil, ↓reduceIte, Nat.reduceAdd, Nat.reduceMul, Nat.reduceSub, Nat.reduceDiv, Nat.reduceMod, Nat.reduceLT, Nat.reduceLeDiff, Nat.reduceBEq, Nat.reduceEqDiff, Nat.zero_lt_succ, beq_self_eq_true, Bool.true_and, Bool.and_true, Bool.or_true, Bool.true_or, Bool.or_false, Bool.false_or, Bool.false_and, Bool.and_false, Bool.not_true, Bool.not_false, Bool.false_eq_true, Bool.true_eq_false, Bool.and_eq_true, Bool.or_eq_true, Bool.not_eq_true', decide_eq_true_eq, decide_eq_false_iff_not, decide_true, decide_false, and_self, true_and, and_true, or_true, true_or, or_false, false_or, and_false, false_and, or_self, reduceCtorEq, not_true_eq_false, not_false_eq_true, if_true, if_false, Int32.reduceAdd, Int32.reduceSub, Int32.reduceMul, Int32.reduceDiv, Int32.reduceMod, Int32.reduceLT, Int32.reduceLE, eqF1, eqF2, Int32.reduceOfNat, Int32.reduceOfInt, Int32.reduceToNatClampNeg, inb_lit, en_X9_sell, e_X9_sell_0, e_X9_sell_1, e_X9_sell_4, e_X9_sell_5, e_X9_sell_8, e_X9_sell_9, e_X9_sell_10, e_X9_sell_13, e_X9_sell_14, e_X9_sell_15, e_X9_sell_16, e_X9_sell_19, e_X9_sell_20, e_X9_sell_23, e_X9_sell_26, e_X9_sell_28, e_X9_sell_29, e_X9_sell_30, e_X9_sell_33, e_X9_sell_36, e_X9_sell_37, e_X9_sell_40, e_X9_sell_43, e_X9_sell_45, e_X9_sell_46, e_X9_sell_47, e_X9_sell_50, e_X9_sell_51, e_X9_sell_52, e_X9_sell_55, e_X9_sell_56, e_X9_sell_59, sh_1, sh_2, sh_3, sh_4, sh_7, sh_8, sh_9, sh_10, sh_11, sh_12, sh_13, sh_29, sh_35, sh_50, sh_53, sh_54, sh_55, sh_56, q1_wheelOf f4 f5 hi', e1, sh_wheel w6, q1_onShelf w6, hm1, q0_hasRoom (a := 10) (b := 11) (c := 12) sh_10, f13, k1, c1, w1]
theorem z_sellNo (hW : WO T n l f H0 K D I) (hi : i < n) (hm : ¬ ShP (runF D f) i) : C (d + 10) iX9_sell [.ref 1, .int (Int32.ofNat i)] (mk N I J) = some (some (.int (-4)), mk N I J) := by
  have hF := wo_fa hW
  obtain ⟨-, -, f3, f4, f5, f6, f7, f8, f9, f10, f11, f12, f13, f14, f15, -⟩ := hF
  have hi' : inb (Int32.ofNat i) n = true := inb_ofNat hi (by omega)
  have e1 : (Int32.ofNat i).toNatClampNeg = i := nat_ofNat (by omega)
  have w6 : i < 6 := by omega
  have hm1 : ShC I i = False := eq_false (fun h => hm ((f15 i hi).mp h))
  simp only [K_some, K_void, K_none, wA_ref, wA_null, isNull_null, isNull_ref, c_int, c_long, c_ref, c_null, c_float, catS_nil, catS_cons, fit_int, fit_bool, fit_long, isO_mk, len_mk, fld_mk, gI_mk, gI0_mk, gZ_mk, gR_mk, isI_mk, isR_mk, tag_mk, lenE_mk, datR_mk, isOs, lenOs, fldS, lenS, gIs, gI0s, gZs, gRs, isIs, isRs, tagS, datRs, mkv, refV, fkS, isArr, tagOk, datI_mk, wrI_mk, wrA_mk, wrF_mk, wrJ_mk, List.length_cons, List.length_nil, List.getElem?_cons_zero, List.getElem?_cons_succ, List.getElem?_nil, ↓reduceIte, Nat.reduceAdd, Nat.reduceMul, Nat.reduceSub, Nat.reduceDiv, Nat.reduceMod, Nat.reduceLT, Nat.reduceLeDiff, Nat.reduceBEq, Nat.reduceEqDiff, Nat.zero_lt_succ, beq_self_eq_true, Bool.true_and, Bool.and_true, Bool.or_true, Bool.true_or, Bool.or_false, Bool.false_or, Bool.false_and, Bool.and_false, Bool.not_true, Bool.not_false, Bool.false_eq_true, Bool.true_eq_false, Bool.and_eq_true, Bool.or_eq_true, Bool.not_eq_true', decide_eq_true_eq, decide_eq_false_iff_not, decide_true, decide_false, and_self, true_and, and_true, or_true, true_or, or_false, false_or, and_false, false_and, or_self, reduceCtorEq, not_true_eq_false, not_false_eq_true, if_true, if_false, Int32.reduceAdd, Int32.reduceSub, Int32.reduceMul, Int32.reduceDiv, Int32.reduceMod, Int32.reduceLT, Int32.reduceLE, eqF1, eqF2, Int32.reduceOfNat, Int32.reduceOfInt, Int32.reduceToNatClampNeg, inb_lit, en_X9_sell, e_X9_sell_0, e_X9_sell_1, e_X9_sell_4, e_X9_sell_5, e_X9_sell_8, e_X9_sell_9, e_X9_sell_10, e_X9_sell_13, e_X9_sell_14, e_X9_sell_15, e_X9_sell_16, e_X9_sell_19, e_X9_sell_20, e_X9_sell_23, e_X9_sell_26, e_X9_sell_28, e_X9_sell_29, e_X9_sell_30, e_X9_sell_33, e_X9_sell_36, e_X9_sell_37, e_X9_sell_40, e_X9_sell_43, e_X9_sell_45, e_X9_sell_46, e_X9_sell_47, e_X9_sell_50, e_X9_sell_51, e_X9_sell_52, e_X9_sell_55, e_X9_sell_56, e_X9_sell_59, sh_1, sh_2, sh_3, sh_4, sh_7, sh_8, sh_9, sh_10, sh_11, sh_12, sh_13, sh_29, sh_35, sh_50, sh_53, sh_54, sh_55, sh_56, q1_wheelOf f4 f5 hi', e1, sh_wheel w6, q1_onShelf w6, hm1]
end
