/-! REPLAYED: undo, keep, on -/
theorem take_app {D1 D2 : List (Nat × Nat)} {p : Nat × Nat} : (D1 ++ p :: D2)[D1.length]? = some p := by
  rw [List.getElem?_append_right (Nat.le_refl _), Nat.sub_self]; rfl
def wf0 (I : IT) (a : Nat) : IT := up (up (up I a 3 (-9)) a 4 (-9)) a 5 0
def rpI (H : Nat → Fin 13) (I : IT) : IT := wf0 (wf0 (wf0 (wf0 (wf0 (wf0 (up (upA I 8 (hv H (I 8))) 4 7 0) 14) 15) 16) 17) 18) 19
theorem wf0_ne {I : IT} {a b : Nat} (h : b ≠ a) : wf0 I a b = I b := by
  unfold wf0; rw [up_ne h, up_ne h, up_ne h]
theorem wf0_at {I : IT} {a : Nat} : wf0 I a a 0 = I a 0 ∧ wf0 I a a 1 = I a 1 ∧ wf0 I a a 2 = I a 2 ∧ wf0 I a a 3 = -9 ∧ wf0 I a a 4 = -9 ∧ wf0 I a a 5 = 0 := by
  unfold wf0; simp [up_at]
theorem rp_w {H : Nat → Fin 13} {I : IT} {i : Nat} (hi : i < 6) : rpI H I (14 + i) 0 = I (14 + i) 0 ∧ rpI H I (14 + i) 1 = I (14 + i) 1 ∧ rpI H I (14 + i) 2 = I (14 + i) 2 ∧ rpI H I (14 + i) 3 = -9 ∧ rpI H I (14 + i) 4 = -9 ∧ rpI H I (14 + i) 5 = 0 := by
  unfold rpI wf0
  obtain rfl | rfl | rfl | rfl | rfl | rfl : i = 0 ∨ i = 1 ∨ i = 2 ∨ i = 3 ∨ i = 4 ∨ i = 5 := by omega
  all_goals simp [up_at, upA_at2]
theorem rp_ne {H : Nat → Fin 13} {I : IT} {b : Nat} (h : b ≠ 4 ∧ b ≠ 8 ∧ (b < 14 ∨ 19 < b)) : rpI H I b = I b := by
  unfold rpI
  rw [wf0_ne (by omega), wf0_ne (by omega), wf0_ne (by omega), wf0_ne (by omega), wf0_ne (by omega), wf0_ne (by omega), up_ne (by omega), upA_ne (by omega)]
theorem fc_rp {H : Nat → Fin 13} {I : IT} {f : FV} {n : Nat} (hn : n ≤ 6) (hH : HH (bgF f) H) (hS : SC I f n) : FC (rpI H I) (bgF f) n := by
  obtain ⟨s1, s2, s3⟩ := hS
  have b0 : ∀ k, k < 69 → bgF f k = f k := fun k hk => by
    unfold bgF; rw [if_neg (by omega), if_neg (by omega), if_neg (by omega), if_neg (by omega)]
  have e4 : ∀ q, rpI H I 4 q = up I 4 7 0 4 q := fun q => by
    unfold rpI
    rw [wf0_ne (by omega), wf0_ne (by omega), wf0_ne (by omega), wf0_ne (by omega), wf0_ne (by omega), wf0_ne (by omega)]
    simp [up_at, upA_at2]
  refine ⟨?_, ?_, ?_, fun k hk => ?_, fun i hi => ?_⟩
  · rw [e4, b0 8 (by omega), ← s1]; simp [up_at]
  · rw [e4, b0 9 (by omega), ← s2]; simp [up_at]
  · rw [e4]; simp [up_at, bgF]
  · rw [hH k hk]
    unfold rpI
    rw [wf0_ne (by omega), wf0_ne (by omega), wf0_ne (by omega), wf0_ne (by omega), wf0_ne (by omega), wf0_ne (by omega), up_ne (by omega), upA_same]
    exact hv_at hk
  · obtain ⟨a1, a2, a3⟩ := s3 i hi
    obtain ⟨w1, w2, w3, w4, w5, w6⟩ := rp_w (H := H) (I := I) (show i < 6 by omega)
    rw [w1, w2, w3, w4, w5, w6, a1, a2, a3]
    refine ⟨(b0 _ (by omega)).symm, (b0 _ (by omega)).symm, (b0 _ (by omega)).symm, ?_, ?_, ?_⟩
    · unfold bgF; rw [if_neg (by omega), if_neg (by omega), if_pos (by omega)]
    · unfold bgF; rw [if_neg (by omega), if_neg (by omega), if_pos (by omega)]
    · unfold bgF; rw [if_neg (by omega), if_neg (by omega), if_neg (by omega), if_pos (by omega)]
section
variable {d N a b k n m i μ l : Nat} {I : IT} {J : JT} {r s v x y z w : Int32} {M : Mem} {H : Nat → Fin 13} {g f : FV} {D D' : List (Nat × Nat)} {K : Nat → Option (List (Nat × Nat))} {p : Nat × Nat} {I' : IT} {T : IT} {H0 : Nat → Fin 13}
/-- only what acts touch -/
abbrev fa (b : Nat) : Prop := b ≠ 4 ∧ b ≠ 8 ∧ (b < 14 ∨ 19 < b)
theorem rep_loop (hn : n ≤ 6) (h9 : f 9 = Int32.ofNat n) : ∀ (D2 D1 : List (Nat × Nat)) (I : IT), okD n (D1 ++ D2) → DC I 10 (D1 ++ D2) → FC I (runF D1 f) n → (∃ H, HH (runF D1 f) H) → ∃ I1, R (d + 5) iX1_replay 44 [.ref 4, .int (Int32.ofNat D1.length)] [] (mk N I J) = some (none, mk N I1 J) ∧ FC I1 (runF (D1 ++ D2) f) n ∧ ∀ b, fa b → I1 b = I b := by
  intro D2
  induction D2 with
  | nil =>
    intro D1 I hok hD hC hH
    rw [List.append_nil] at hok hD ⊢
    have hl := hok.1
    have h1 : ¬ Int32.ofNat D1.length < Int32.ofNat D1.length := fun h => by have := (oN_lt (by omega) (by omega)).mp h; omega
    refine ⟨I, ?_, hC, fun b _ => rfl⟩
    rw [e_X1_replay_44]
    simp only [K_some, K_void, K_none, wA_ref, wA_null, isNull_null, isNull_ref, c_int, c_long, c_ref, c_null, c_float, catS_nil, catS_cons, fit_int, fit_bool, fit_long, isO_mk, len_mk, fld_mk, gI_mk, gI0_mk, gZ_mk, gR_mk, isI_mk, isR_mk, tag_mk, lenE_mk, datR_mk, isOs, lenOs, fldS, lenS, gIs, gI0s, gZs, gRs, isIs, isRs, tagS, datRs, mkv, refV, fkS, isArr, tagOk, datI_mk, wrI_mk, wrA_mk, wrF_mk, wrJ_mk, List.length_cons, List.length_nil, List.getElem?_cons_zero, List.getElem?_cons_succ, List.getElem?_nil, ↓reduceIte, Nat.reduceAdd, Nat.reduceMul, Nat.reduceSub, Nat.reduceDiv, Nat.reduceMod, Nat.reduceLT, Nat.reduceLeDiff, Nat.reduceBEq, Nat.reduceEqDiff, Nat.zero_lt_succ, beq_self_eq_true, Bool.true_and, Bool.and_true, Bool.or_true, Bool.true_or, Bool.or_false, Bool.false_or, Bool.false_and, Bool.and_false, Bool.not_true, Bool.not_false, Bool.false_eq_true, Bool.true_eq_false, Bool.and_eq_true, Bool.or_eq_true, Bool.not_eq_true', decide_eq_true_eq, decide_eq_false_iff_not, decide_true, decide_false, and_self, true_and, and_true, or_true, true_or, or_false, false_or, and_false, false_and, or_self, reduceCtorEq, not_true_eq_false, not_false_eq_true, if_true, if_false, Int32.reduceAdd, Int32.reduceSub, Int32.reduceMul, Int32.reduceDiv, Int32.reduceMod, Int32.reduceLT, Int32.reduceLE, eqF1, eqF2, Int32.reduceOfNat, Int32.reduceOfInt, Int32.reduceToNatClampNeg, inb_lit, e_X1_replay_0, e_X1_replay_1, e_X1_replay_4, e_X1_replay_5, e_X1_replay_8, e_X1_replay_11, e_X1_replay_12, e_X1_replay_13, e_X1_replay_16, e_X1_replay_17, e_X1_replay_18, e_X1_replay_19, e_X1_replay_20, e_X1_replay_23, e_X1_replay_24, e_X1_replay_27, e_X1_replay_28, e_X1_replay_31, e_X1_replay_32, e_X1_replay_33, e_X1_replay_36, e_X1_replay_39, e_X1_replay_42, e_X1_replay_43, e_X1_replay_45, e_X1_replay_46, e_X1_replay_49, e_X1_replay_52, e_X1_replay_55, e_X1_replay_56, e_X1_replay_58, e_X1_replay_61, e_X1_replay_62, e_X1_replay_63, e_X1_replay_66, e_X1_replay_69, e_X1_replay_70, e_X1_replay_71, e_X1_replay_72, e_X1_replay_75, e_X1_replay_78, e_X1_replay_79, e_X1_replay_80, e_X1_replay_83, e_X1_replay_86, e_X1_replay_89, sh_4, sh_1, sh_2, sh_3, sh_7, sh_8, sh_9, sh_10, sh_11, sh_12, sh_13, sh_29, sh_35, sh_50, sh_53, sh_54, sh_55, sh_56, hD.1, h1]
  | cons p D2 ih =>
    intro D1 I hok hD hC hH
    obtain ⟨H, hH⟩ := hH
    have hl := hok.1
    have hll : (D1 ++ p :: D2).length = D1.length + (D2.length + 1) := by simp
    have hp : wfD n p := hok.2 p (by simp)
    have h1 : Int32.ofNat D1.length < Int32.ofNat (D1 ++ p :: D2).length := (oN_lt (by omega) (by omega)).mpr (by omega)
    have h2 : Int32.ofNat D1.length < 40 := (oN_lt (j := D1.length) (k := 40) (by omega) (by omega)).mpr (by omega)
    have h3 : inb (Int32.ofNat D1.length) 40 = true := inb_ofNat (by omega) (by omega)
    have h4 : (Int32.ofNat D1.length).toNatClampNeg = D1.length := nat_ofNat (by omega)
    obtain ⟨w1, w2⟩ := hD.2 D1.length p take_app
    simp only [Nat.reduceAdd] at w1 w2
    have hH2 : ∀ k, k < 8 → I 8 k = vi (H k) := fun k hk => by rw [hC.2.2.2.1 k hk, hH k hk]
    have s2 : I 4 6 = Int32.ofNat n := by rw [hC.2.1, run_st (n := n) (fun q hq => hok.2 q (by simp [hq])) (by omega), h9]
    have e := q1_act (d := d + 1) (N := N) (J := J) hn s2 hp hH2
    have as : D1 ++ p :: D2 = (D1 ++ [p]) ++ D2 := by simp
    rw [as] at hok hD ⊢
    obtain ⟨I1, c1, c2, c3⟩ := ih (D1 ++ [p]) (acI p H I) hok (dc_congr (ac_fr hn hp (by omega)) (ac_fr hn hp (by omega)) (ac_fr hn hp (by omega)) hD) (by rw [run_app]; exact fc_ac hn hp hC hH) ⟨goH p H, by rw [run_app]; exact hh_go hn hp hH⟩
    refine ⟨I1, ?_, c2, fun b hb => by rw [c3 b hb, ac_fr hn hp hb]⟩
    rw [← as] at hD
    rw [List.length_append, List.length_singleton] at c1
    rw [e_X1_replay_44]
    simp only [K_some, K_void, K_none, wA_ref, wA_null, isNull_null, isNull_ref, c_int, c_long, c_ref, c_null, c_float, catS_nil, catS_cons, fit_int, fit_bool, fit_long, isO_mk, len_mk, fld_mk, gI_mk, gI0_mk, gZ_mk, gR_mk, isI_mk, isR_mk, tag_mk, lenE_mk, datR_mk, isOs, lenOs, fldS, lenS, gIs, gI0s, gZs, gRs, isIs, isRs, tagS, datRs, mkv, refV, fkS, isArr, tagOk, datI_mk, wrI_mk, wrA_mk, wrF_mk, wrJ_mk, List.length_cons, List.length_nil, List.getElem?_cons_zero, List.getElem?_cons_succ, List.getElem?_nil, ↓reduceIte, Nat.reduceAdd, Nat.reduceMul, Nat.reduceSub, Nat.reduceDiv, Nat.reduceMod, Nat.reduceLT, Nat.reduceLeDiff, Nat.reduceBEq, Nat.reduceEqDiff, Nat.zero_lt_succ, beq_self_eq_true, Bool.true_and, Bool.and_true, Bool.or_true, Bool.true_or, Bool.or_false, Bool.false_or, Bool.false_and, Bool.and_false, Bool.not_true, Bool.not_false, Bool.false_eq_true, Bool.true_eq_false, Bool.and_eq_true, Bool.or_eq_true, Bool.not_eq_true', decide_eq_true_eq, decide_eq_false_iff_not, decide_true, decide_false, and_self, true_and, and_true, or_true, true_or, or_false, false_or, and_false, false_and, or_self, reduceCtorEq, not_true_eq_false, not_false_eq_true, if_true, if_false, Int32.reduceAdd, Int32.reduceSub, Int32.reduceMul, Int32.reduceDiv, Int32.reduceMod, Int32.reduceLT, Int32.reduceLE, eqF1, eqF2, Int32.reduceOfNat, Int32.reduceOfInt, Int32.reduceToNatClampNeg, inb_lit, e_X1_replay_0, e_X1_replay_1, e_X1_replay_4, e_X1_replay_5, e_X1_replay_8, e_X1_replay_11, e_X1_replay_12, e_X1_replay_13, e_X1_replay_16, e_X1_replay_17, e_X1_replay_18, e_X1_replay_19, e_X1_replay_20, e_X1_replay_23, e_X1_replay_24, e_X1_replay_27, e_X1_replay_28, e_X1_replay_31, e_X1_replay_32, e_X1_replay_33, e_X1_replay_36, e_X1_replay_39, e_X1_replay_42, e_X1_replay_43, e_X1_replay_45, e_X1_replay_46, e_X1_replay_49, e_X1_replay_52, e_X1_replay_55, e_X1_replay_56, e_X1_replay_58, e_X1_replay_61, e_X1_replay_62, e_X1_replay_63, e_X1_replay_66, e_X1_replay_69, e_X1_replay_70, e_X1_replay_71, e_X1_replay_72, e_X1_replay_75, e_X1_replay_78, e_X1_replay_79, e_X1_replay_80, e_X1_replay_83, e_X1_replay_86, e_X1_replay_89, sh_4, sh_1, sh_2, sh_3, sh_7, sh_8, sh_9, sh_10, sh_11, sh_12, sh_13, sh_29, sh_35, sh_50, sh_53, sh_54, sh_55, sh_56, hD.1, h1, h2, h3, h4, w1, w2, e, oN_succ]
    exact c1
theorem q1_replay (hS : Sta n f) (hok : okD n D) (hD : DC I 10 D) (h6 : ∀ k, k < 8 → I 6 k = f k) (hs : SC I f n) : ∃ I1, C (d + 6) iX1_replay [.ref 4] (mk N I J) = some (none, mk N I1 J) ∧ FC I1 (runF D f) n ∧ DC I1 10 D ∧ ∀ b, fa b → I1 b = I b := by
  obtain ⟨H, hH, hf⟩ := hh_bg hS
  have h6' : ∀ k, k < 8 → I 6 k = vi (H k) := fun k hk => by rw [h6 k hk, hf k hk]
  obtain ⟨I1, c1, c2, c3⟩ := rep_loop (d := d) (N := N) (J := J) (f := f) hS.1 hS.2.1 D [] (rpI H I) hok (dc_congr (rp_ne (by omega)) (rp_ne (by omega)) (rp_ne (by omega)) hD) (fc_rp hS.1 hH hs) ⟨H, hH⟩
  rw [List.length_nil, show Int32.ofNat 0 = 0 from rfl] at c1
  have c4 : ∀ b, fa b → I1 b = I b := fun b hb => by rw [c3 b hb, rp_ne hb]
  refine ⟨I1, ?_, c2, dc_congr (c4 _ (by unfold fa; omega)) (c4 _ (by unfold fa; omega)) (c4 _ (by unfold fa; omega)) hD, c4⟩
  unfold rpI wf0 at c1
  simp only [K_some, K_void, K_none, wA_ref, wA_null, isNull_null, isNull_ref, c_int, c_long, c_ref, c_null, c_float, catS_nil, catS_cons, fit_int, fit_bool, fit_long, isO_mk, len_mk, fld_mk, gI_mk, gI0_mk, gZ_mk, gR_mk, isI_mk, isR_mk, tag_mk, lenE_mk, datR_mk, isOs, lenOs, fldS, lenS, gIs, gI0s, gZs, gRs, isIs, isRs, tagS, datRs, mkv, refV, fkS, isArr, tagOk, datI_mk, wrI_mk, wrA_mk, wrF_mk, wrJ_mk, List.length_cons, List.length_nil, List.getElem?_cons_zero, List.getElem?_cons_succ, List.getElem?_nil, ↓reduceIte, Nat.reduceAdd, Nat.reduceMul, Nat.reduceSub, Nat.reduceDiv, Nat.reduceMod, Nat.reduceLT, Nat.reduceLeDiff, Nat.reduceBEq, Nat.reduceEqDiff, Nat.zero_lt_succ, beq_self_eq_true, Bool.true_and, Bool.and_true, Bool.or_true, Bool.true_or, Bool.or_false, Bool.false_or, Bool.false_and, Bool.and_false, Bool.not_true, Bool.not_false, Bool.false_eq_true, Bool.true_eq_false, Bool.and_eq_true, Bool.or_eq_true, Bool.not_eq_true', decide_eq_true_eq, decide_eq_false_iff_not, decide_true, decide_false, and_self, true_and, and_true, or_true, true_or, or_false, false_or, and_false, false_and, or_self, reduceCtorEq, not_true_eq_false, not_false_eq_true, if_true, if_false, Int32.reduceAdd, Int32.reduceSub, Int32.reduceMul, Int32.reduceDiv, Int32.reduceMod, Int32.reduceLT, Int32.reduceLE, eqF1, eqF2, Int32.reduceOfNat, Int32.reduceOfInt, Int32.reduceToNatClampNeg, inb_lit, en_X1_replay, e_X1_replay_0, e_X1_replay_1, e_X1_replay_4, e_X1_replay_5, e_X1_replay_8, e_X1_replay_11, e_X1_replay_12, e_X1_replay_13, e_X1_replay_16, e_X1_replay_17, e_X1_replay_18, e_X1_replay_19, e_X1_replay_20, e_X1_replay_23, e_X1_replay_24, e_X1_replay_27, e_X1_replay_28, e_X1_replay_31, e_X1_replay_32, e_X1_replay_33, e_X1_replay_36, e_X1_replay_39, e_X1_replay_42, e_X1_replay_43, e_X1_replay_45, e_X1_replay_46, e_X1_replay_49, e_X1_replay_52, e_X1_replay_55, e_X1_replay_56, e_X1_replay_58, e_X1_replay_61, e_X1_replay_62, e_X1_replay_63, e_X1_replay_66, e_X1_replay_69, e_X1_replay_70, e_X1_replay_71, e_X1_replay_72, e_X1_replay_75, e_X1_replay_78, e_X1_replay_79, e_X1_replay_80, e_X1_replay_83, e_X1_replay_86, e_X1_replay_89, sh_4, sh_5, sh_6, sh_7, sh_8, sh_9, sh_14, sh_15, sh_16, sh_17, sh_18, sh_19, sh_1, sh_2, sh_3, sh_10, sh_11, sh_12, sh_13, sh_29, sh_35, sh_50, sh_53, sh_54, sh_55, sh_56, qG_take (a := 7) (b := 8) (a' := 5) (b' := 6) sh_7 sh_8 sh_5 sh_6 h6', q8_forget (a := 14) sh_14, q8_forget (a := 15) sh_15, q8_forget (a := 16) sh_16, q8_forget (a := 17) sh_17, q8_forget (a := 18) sh_18, q8_forget (a := 19) sh_19]
  exact c1
theorem sc_of (h : FarmIs I n f D K) : SC I f n := by
  obtain ⟨h1, h2, h3, h4, -⟩ := h
  obtain ⟨c1, c2, c3, c4, c5⟩ := h4
  refine ⟨by rw [c1, run_st h2.2 (by omega)], by rw [c2, run_st h2.2 (by omega)], fun i hi => ?_⟩
  have hn := h1.1
  obtain ⟨a1, a2, a3, -⟩ := c5 i hi
  exact ⟨by rw [a1, run_st h2.2 (by omega)], by rw [a2, run_st h2.2 (by omega)], by rw [a3, run_st h2.2 (by omega)]⟩
theorem wo_rep {D' : List (Nat × Nat)} (hW : WO T n l f H0 K D I) (hok : okD n D') {Ia : IT} (hD : DC Ia 10 D') (hI : ∀ b, b < 10 ∨ 12 < b → Ia b = I b) : ∃ I1, C (d + 6) iX1_replay [.ref 4] (mk N Ia J) = some (none, mk N I1 J) ∧ WO T n l f H0 K D' I1 ∧ ∀ b, fr b → I1 b = I b := by
  obtain ⟨h0, w2, w3, w4, w5, w6⟩ := hW
  have hs := sc_of h0
  obtain ⟨h1, h2, h3, h4, h5, h6, h7⟩ := h0
  have hn := h1.1
  obtain ⟨I1, c1, c2, c3, c4⟩ := q1_replay (d := d) (N := N) (J := J) (f := f) h1 hok hD (by rw [hI 6 (by omega)]; exact h3) (by
    unfold SC at hs ⊢
    rw [hI 4 (by omega)]
    exact ⟨hs.1, hs.2.1, fun i hi => by rw [hI (14 + i) (by omega)]; exact hs.2.2 i hi⟩)
  have c5 : ∀ b, fr b → I1 b = I b := fun b hb => by rw [c4 b ⟨hb.1, hb.2.1, hb.2.2.2⟩, hI b (by unfold fr at hb; omega)]
  refine ⟨I1, c1, ⟨⟨h1, hok, ?_, c2, c3, trivial, fun j hj => ?_⟩, w2, w3, w4, ?_, fun b hb => ?_⟩, c5⟩
  · rw [c5 6 (by unfold fr; omega)]; exact h3
  · have := h7 j hj
    unfold KP DC at this ⊢
    rw [c5 (20 + 3 * j) (by unfold fr; omega), c5 (20 + 3 * j + 1) (by unfold fr; omega), c5 (20 + 3 * j + 2) (by unfold fr; omega)]
    exact this
  · exact ci_congr (fun a h1 h2 => c5 a (by unfold fr; omega)) w5
  · unfold fx at hb
    rw [c5 b (by unfold fr; omega)]; exact w6 b hb
theorem oN_sub {a b : Nat} (h : b ≤ a) (ha : a < 2147483648) : Int32.ofNat a - Int32.ofNat b = Int32.ofNat (a - b) := by
  apply Int32.toInt_inj.mp
  rw [ti_sub (by rw [oN_int ha, oN_int (by omega)]; omega) (by rw [oN_int ha, oN_int (by omega)]; omega), oN_int ha, oN_int (by omega), oN_int (by omega)]
  omega
/-- undo(m) -/
theorem z_undo (hW : WO T n l f H0 K D I) (hm : m ≤ D.length) : ∃ I', C (d + 10) iX9_undo [.ref 1, .int (Int32.ofNat m)] (mk N I J) = some (some (.int (Int32.ofNat (D.length - m))), mk N I' J) ∧ WO T n l f H0 K (D.take m) I' ∧ RWq I I' ∧ I' 55 = I 55 := by
  obtain ⟨h0, -, f3, f4, f5, f6, f7, f8, f9, f10, f11, f12, f13, f14, -⟩ := wo_fa hW
  obtain ⟨h1, h2, h3, h4, h5, h6, h7⟩ := h0
  have ht : (D.take m).length = m := by simp; omega
  have hok : okD n (D.take m) := ⟨by omega, fun p hp => h2.2 p (List.mem_of_mem_take hp)⟩
  have hsub : ∀ j p, (D.take m)[j]? = some p → D[j]? = some p := fun j p hp => by
    rw [List.getElem?_take] at hp
    split at hp
    · exact hp
    · cases hp
  have hD : DC (up I 10 2 (Int32.ofNat m)) 10 (D.take m) := by
    refine ⟨by rw [ht]; simp [up_at], fun j p hp => ?_⟩
    rw [up_ne (by omega), up_ne (by omega)]
    exact h5.2 j p (hsub j p hp)
  obtain ⟨I1, c1, c2, c3⟩ := wo_rep (d := d + 3) (N := N) (J := J) hW hok hD (fun b hb => up_ne (by omega))
  have q1 := oN_neg (k := m) (by omega)
  have q2 : ¬ Int32.ofNat D.length < Int32.ofNat m := fun h => by have := (oN_lt (by omega) (by omega)).mp h; omega
  have q3 := oN_sub hm (show D.length < 2147483648 by omega)
  refine ⟨I1, ?_, c2, fr_rw c3⟩
  simp only [K_some, K_void, K_none, wA_ref, wA_null, isNull_null, isNull_ref, c_int, c_long, c_ref, c_null, c_float, catS_nil, catS_cons, fit_int, fit_bool, fit_long, isO_mk, len_mk, fld_mk, gI_mk, gI0_mk, gZ_mk, gR_mk, isI_mk, isR_mk, tag_mk, lenE_mk, datR_mk, isOs, lenOs, fldS, lenS, gIs, gI0s, gZs, gRs, isIs, isRs, tagS, datRs, mkv, refV, fkS, isArr, tagOk, datI_mk, wrI_mk, wrA_mk, wrF_mk, wrJ_mk, List.length_cons, List.length_nil, List.getElem?_cons_zero, List.getElem?_cons_succ, List.getElem?_nil, ↓reduceIte, Nat.reduceAdd, Nat.reduceMul, Nat.reduceSub, Nat.reduceDiv, Nat.reduceMod, Nat.reduceLT, Nat.reduceLeDiff, Nat.reduceBEq, Nat.reduceEqDiff, Nat.zero_lt_succ, beq_self_eq_true, Bool.true_and, Bool.and_true, Bool.or_true, Bool.true_or, Bool.or_false, Bool.false_or, Bool.false_and, Bool.and_false, Bool.not_true, Bool.not_false, Bool.false_eq_true, Bool.true_eq_false, Bool.and_eq_true, Bool.or_eq_true, Bool.not_eq_true', decide_eq_true_eq, decide_eq_false_iff_not, decide_true, decide_false, and_self, true_and, and_true, or_true, true_or, or_false, false_or, and_false, false_and, or_self, reduceCtorEq, not_true_eq_false, not_false_eq_true, if_true, if_false, Int32.reduceAdd, Int32.reduceSub, Int32.reduceMul, Int32.reduceDiv, Int32.reduceMod, Int32.reduceLT, Int32.reduceLE, eqF1, eqF2, Int32.reduceOfNat, Int32.reduceOfInt, Int32.reduceToNatClampNeg, inb_lit, en_X9_undo, e_X9_undo_0, e_X9_undo_1, e_X9_undo_4, e_X9_undo_7, e_X9_undo_10, e_X9_undo_11, e_X9_undo_12, e_X9_undo_13, e_X9_undo_14, e_X9_undo_17, e_X9_undo_20, e_X9_undo_21, e_X9_undo_22, e_X9_undo_23, e_X9_undo_26, e_X9_undo_29, e_X9_undo_30, e_X9_undo_33, e_X9_undo_34, e_X9_undo_37, e_X9_undo_40, e_X9_undo_41, e_X9_undo_42, e_X9_undo_43, sh_1, sh_2, sh_3, sh_4, sh_7, sh_8, sh_9, sh_10, sh_11, sh_12, sh_13, sh_29, sh_35, sh_50, sh_53, sh_54, sh_55, sh_56, f13, q9_within, q1, q2, c1, q3]
end
