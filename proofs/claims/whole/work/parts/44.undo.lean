/-! REPLAYED: undo, keep, on -/
theorem take_app {D1 D2 : List (Nat × Nat)} {p : Nat × Nat} : (D1 ++ p :: D2)[D1.length]? = some p := by
  rw [List.getElem?_append_right (Nat.le_refl _), Nat.sub_self]; rfl
def wf0 (I : IT) (a : Nat) : IT := up (up (up I a 3 (-9)) a 4 (-9)) a 5 0
def rpI (H : Nat → Fin 13) (I : IT) : IT := wf0 (wf0 (wf0 (wf0 (wf0 (wf0 (up (upA I 8 (hv H (I 8))) 4 7 0) 14) 15) 16) 17) 18) 19
theorem wf0_ne {I : IT} {a b : Nat} (h : b ≠ a) : wf0 I a b = I b := by
  unfold wf0; rw [up_ne h, up_ne h, up_ne h]
theorem wf0_at {I : IT} {a : Nat} : wf0 I a a 0 = I a 0 ∧ wf0 I a a 1 = I a 1 ∧ wf0 I a a 2 = I a 2 ∧ wf0 I a a 3 = -9 ∧ wf0 I a a 4 = -9 ∧ wf0 I a a 5 = 0 := by
  unfold wf0; simp [up_at]
theorem rp_w {H : Nat → Fin 13} {I : IT} {i : Nat} (hi : i < 6) : rpI H I (14 + i) 0 = I (14 + i) 0 ∧ rpI H I (14 + i) 1 = I (14 + i) 1 ∧ rpI H I (14 + i) 2 = I (14 + i) 2 ∧ rpI H I (14 + i) 3 = -9 ∧ rpI H I (14 + i) 4 = -9 ∧ rpI H I (14 + i) 5 = 0 := by
  unfold rpI wf0
  obtain rfl | rfl | rfl | rfl | rfl | rfl : i = 0 ∨ i = 1 ∨ i = 2 ∨ i = 3 ∨ i = 4 ∨ i = 5 := by omega
  all_goals simp [up_at, upA_at2]
theorem rp_ne {H : Nat → Fin 13} {I : IT} {b : Nat} (h : b ≠ 4 ∧ b ≠ 8 ∧ (b < 14 ∨ 19 < b)) : rpI H I b = I b := by
  unfold rpI
  rw [wf0_ne (by omega), wf0_ne (by omega), wf0_ne (by omega), wf0_ne (by omega), wf0_ne (by omega), wf0_ne (by omega), up_ne (by omega), upA_ne (by omega)]
theorem fc_rp {H : Nat → Fin 13} {I : IT} {f : FV} {n : Nat} (hn : n ≤ 6) (hH : HH (bgF f) H) (hS : SC I f n) : FC (rpI H I) (bgF f) n := by
  obtain ⟨s1, s2, s3⟩ := hS
  have b0 : ∀ k, k < 69 → bgF f k = f k := fun k hk => by
    unfold bgF; rw [if_neg (by omega), if_neg (by omega), if_neg (by omega), if_neg (by omega)]
  have e4 : ∀ q, rpI H I 4 q = up I 4 7 0 4 q := fun q => by
    unfold rpI
    rw [wf0_ne (by omega), wf0_ne (by omega), wf0_ne (by omega), wf0_ne (by omega), wf0_ne (by omega), wf0_ne (by omega)]
    simp [up_at, upA_at2]
  refine ⟨?_, ?_, ?_, fun k hk => ?_, fun i hi => ?_⟩
  · rw [e4, b0 8 (by omega), ← s1]; simp [up_at]
  · rw [e4, b0 9 (by omega), ← s2]; simp [up_at]
  · rw [e4]; simp [up_at, bgF]
  · rw [hH k hk]
    unfold rpI
    rw [wf0_ne (by omega), wf0_ne (by omega), wf0_ne (by omega), wf0_ne (by omega), wf0_ne (by omega), wf0_ne (by omega), up_ne (by omega), upA_same]
    exact hv_at hk
  · obtain ⟨a1, a2, a3⟩ := s3 i hi
    obtain ⟨w1, w2, w3, w4, w5, w6⟩ := rp_w (H := H) (I := I) (show i < 6 by omega)
    rw [w1, w2, w3, w4, w5, w6, a1, a2, a3]
    refine ⟨(b0 _ (by omega)).symm, (b0 _ (by omega)).symm, (b0 _ (by omega)).symm, ?_, ?_, ?_⟩
    · unfold bgF; rw [if_neg (by omega), if_neg (by omega), if_pos (by omega)]
    · unfold bgF; rw [if_neg (by omega), if_neg (by omega), if_pos (by omega)]
    · unfold bgF; rw [if_neg (by omega), if_neg (by omega), if_neg (by omega), if_pos (by omega)]
section
variable {d N a b k n m i μ l : Nat} {I : IT} {J : JT} {r s v x y z w : Int32} {M : Mem} {H : Nat → Fin 13} {g f : FV} {D D' : List (Nat × Nat)} {K : Nat → Option (List (Nat × Nat))} {p : Nat × Nat}
/-- only what acts touch -/
abbrev fa (b : Nat) : Prop := b ≠ 4 ∧ b ≠ 8 ∧ (b < 14 ∨ 19 < b)
theorem rep_loop (hn : n ≤ 6) (h9 : f 9 = Int32.ofNat n) : ∀ (D2 D1 : List (Nat × Nat)) (I : IT), okD n (D1 ++ D2) → DC I 10 (D1 ++ D2) → FC I (runF D1 f) n → (∃ H, HH (runF D1 f) H) → ∃ I1, R (d + 5) iX1_replay 44 [.ref 4, .int (Int32.ofNat D1.length)] [] (mk N I J) = some (none, mk N I1 J) ∧ FC I1 (runF (D1 ++ D2) f) n ∧ ∀ b, fa b → I1 b = I b := by
  intro D2
  induction D2 with
  | nil =>
    intro D1 I hok hD hC hH
    rw [List.append_nil] at hok hD ⊢
    have hl := hok.1
    have h1 : ¬ Int32.ofNat D1.length < Int32.ofNat D1.length := fun h => by have := (oN_lt (by omega) (by omega)).mp h; omega
    refine ⟨I, ?_, hC, fun b _ => rfl⟩
    rw [e_X1_replay_44]
    simp only [K_some, K_void, K_none, wA_ref, wA_null, isNull_null, isNull_ref, c_int, c_long, c_ref, c_null, c_float, catS_nil, catS_cons, fit_int, fit_bool, fit_long, isO_mk, len_mk, fld_mk, gI_mk, gI0_mk, gZ_mk, gR_mk, isI_mk, isR_mk, tag_mk, lenE_mk, datR_mk, isOs, lenOs, fldS, lenS, gIs, gI0s, gZs, gRs, isIs, isRs, tagS, datRs, mkv, refV, fkS, isArr, tagOk, datI_mk, wrI_mk, wrA_mk, wrF_mk, wrJ_mk, List.length_cons, List.length_nil, List.getElem?_cons_zero, List.getElem?_cons_succ, List.getElem?_nil, ↓reduceIte, Nat.reduceAdd, Nat.reduceMul, Nat.reduceSub, Nat.reduceDiv, Nat.reduceMod, Nat.reduceLT, Nat.reduceLeDiff, Nat.reduceBEq, Nat.reduceEqDiff, Nat.zero_lt_succ, beq_self_eq_true, Bool.true_and, Bool.and_true, Bool.or_true, Bool.true_or, Bool.or_false, Bool.false_or, Bool.false_and, Bool.and_false, Bool.not_true, Bool.not_false, Bool.false_eq_true, Bool.true_eq_false, Bool.and_eq_true, Bool.or_eq_true, Bool.not_eq_true', decide_eq_true_eq, decide_eq_false_iff_not, decide_true, decide_false, and_self, true_and, and_true, or_true, true_or, or_false, false_or, and_false, false_and, or_self, reduceCtorEq, not_true_eq_false, not_false_eq_true, if_true, if_false, Int32.reduceAdd, Int32.reduceSub, Int32.reduceMul, Int32.reduceDiv, Int32.reduceMod, Int32.reduceLT, Int32.reduceLE, eqF1, eqF2, Int32.reduceOfNat, Int32.reduceOfInt, Int32.reduceToNatClampNeg, inb_lit, e_X1_replay_0, e_X1_replay_1, e_X1_replay_4, e_X1_replay_5, e_X1_replay_8, e_X1_replay_11, e_X1_replay_12, e_X1_replay_13, e_X1_replay_16, e_X1_replay_17, e_X1_replay_18, e_X1_replay_19, e_X1_replay_20, e_X1_replay_23, e_X1_replay_24, e_X1_replay_27, e_X1_replay_28, e_X1_replay_31, e_X1_replay_32, e_X1_replay_33, e_X1_replay_36, e_X1_replay_39, e_X1_replay_42, e_X1_replay_43, e_X1_replay_45, e_X1_replay_46, e_X1_replay_49, e_X1_replay_52, e_X1_replay_55, e_X1_replay_56, e_X1_replay_58, e_X1_replay_61, e_X1_replay_62, e_X1_replay_63, e_X1_replay_66, e_X1_replay_69, e_X1_replay_70, e_X1_replay_71, e_X1_replay_72, e_X1_replay_75, e_X1_replay_78, e_X1_replay_79, e_X1_replay_80, e_X1_replay_83, e_X1_replay_86, e_X1_replay_89, sh_4, sh_1, sh_2, sh_3, sh_7, sh_8, sh_9, sh_10, sh_11, sh_12, sh_13, sh_29, sh_35, sh_50, sh_53, sh_54, sh_55, sh_56, sh_77, sh_78, sh_79, sh_80, sh_81, sh_82, sh_83, sh_84, sh_85, sh_86, sh_88, hD.1, h1]
  | cons p D2 ih =>
    intro D1 I hok hD hC hH
    obtain ⟨H, hH⟩ := hH
    have hl := hok.1
    have hll : (D1 ++ p :: D2).length = D1.length + (D2.length + 1) := by simp
    have hp : wfD n p := hok.2 p (by simp)
    have h1 : Int32.ofNat D1.length < Int32.ofNat (D1 ++ p :: D2).length := (oN_lt (by omega) (by omega)).mpr (by omega)
    have h2 : Int32.ofNat D1.length < 40 := (oN_lt (j := D1.length) (k := 40) (by omega) (by omega)).mpr (by omega)
    have h3 : inb (Int32.ofNat D1.length) 40 = true := inb_ofNat (by omega) (by omega)
    have h4 : (Int32.ofNat D1.length).toNatClampNeg = D1.length := nat_ofNat (by omega)
    obtain ⟨w1, w2⟩ := hD.2 D1.length p take_app
    simp only [Nat.reduceAdd] at w1 w2
    have hH2 : ∀ k, k < 8 → I 8 k = vi (H k) := fun k hk => by rw [hC.2.2.2.1 k hk, hH k hk]
    have s2 : I 4 6 = Int32.ofNat n := by rw [hC.2.1, run_st (n := n) (fun q hq => hok.2 q (by simp [hq])) (by omega), h9]
    have e := q1_act (d := d + 1) (N := N) (J := J) hn s2 hp hH2
    have as : D1 ++ p :: D2 = (D1 ++ [p]) ++ D2 := by simp
    rw [as] at hok hD ⊢
    obtain ⟨I1, c1, c2, c3⟩ := ih (D1 ++ [p]) (acI p H I) hok (dc_congr (ac_fr hn hp (by omega)) (ac_fr hn hp (by omega)) (ac_fr hn hp (by omega)) hD) (by rw [run_app]; exact fc_ac hn hp hC hH) ⟨goH p H, by rw [run_app]; exact hh_go hn hp hH⟩
    refine ⟨I1, ?_, c2, fun b hb => by rw [c3 b hb, ac_fr hn hp hb]⟩
    rw [← as] at hD
    rw [List.length_append, List.length_singleton] at c1
    rw [e_X1_replay_44]
    simp only [K_some, K_void, K_none, wA_ref, wA_null, isNull_null, isNull_ref, c_int, c_long, c_ref, c_null, c_float, catS_nil, catS_cons, fit_int, fit_bool, fit_long, isO_mk, len_mk, fld_mk, gI_mk, gI0_mk, gZ_mk, gR_mk, isI_mk, isR_mk, tag_mk, lenE_mk, datR_mk, isOs, lenOs, fldS, lenS, gIs, gI0s, gZs, gRs, isIs, isRs, tagS, datRs, mkv, refV, fkS, isArr, tagOk, datI_mk, wrI_mk, wrA_mk, wrF_mk, wrJ_mk, List.length_cons, List.length_nil, List.getElem?_cons_zero, List.getElem?_cons_succ, List.getElem?_nil, ↓reduceIte, Nat.reduceAdd, Nat.reduceMul, Nat.reduceSub, Nat.reduceDiv, Nat.reduceMod, Nat.reduceLT, Nat.reduceLeDiff, Nat.reduceBEq, Nat.reduceEqDiff, Nat.zero_lt_succ, beq_self_eq_true, Bool.true_and, Bool.and_true, Bool.or_true, Bool.true_or, Bool.or_false, Bool.false_or, Bool.false_and, Bool.and_false, Bool.not_true, Bool.not_false, Bool.false_eq_true, Bool.true_eq_false, Bool.and_eq_true, Bool.or_eq_true, Bool.not_eq_true', decide_eq_true_eq, decide_eq_false_iff_not, decide_true, decide_false, and_self, true_and, and_true, or_true, true_or, or_false, false_or, and_false, false_and, or_self, reduceCtorEq, not_true_eq_false, not_false_eq_true, if_true, if_false, Int32.reduceAdd, Int32.reduceSub, Int32.reduceMul, Int32.reduceDiv, Int32.reduceMod, Int32.reduceLT, Int32.reduceLE, eqF1, eqF2, Int32.reduceOfNat, Int32.reduceOfInt, Int32.reduceToNatClampNeg, inb_lit, e_X1_replay_0, e_X1_replay_1, e_X1_replay_4, e_X1_replay_5, e_X1_replay_8, e_X1_replay_11, e_X1_replay_12, e_X1_replay_13, e_X1_replay_16, e_X1_replay_17, e_X1_replay_18, e_X1_replay_19, e_X1_replay_20, e_X1_replay_23, e_X1_replay_24, e_X1_replay_27, e_X1_replay_28, e_X1_replay_31, e_X1_replay_32, e_X1_replay_33, e_X1_replay_36, e_X1_replay_39, e_X1_replay_42, e_X1_replay_43, e_X1_replay_45, e_X1_replay_46, e_X1_replay_49, e_X1_replay_52, e_X1_replay_55, e_X1_replay_56, e_X1_replay_58, e_X1_replay_61, e_X1_replay_62, e_X1_replay_63, e_X1_replay_66, e_X1_replay_69, e_X1_replay_70, e_X1_replay_71, e_X1_replay_72, e_X1_replay_75, e_X1_replay_78, e_X1_replay_79, e_X1_replay_80, e_X1_replay_83, e_X1_replay_86, e_X1_replay_89, sh_4, sh_1, sh_2, sh_3, sh_7, sh_8, sh_9, sh_10, sh_11, sh_12, sh_13, sh_29, sh_35, sh_50, sh_53, sh_54, sh_55, sh_56, sh_77, sh_78, sh_79, sh_80, sh_81, sh_82, sh_83, sh_84, sh_85, sh_86, sh_88, hD.1, h1, h2, h3, h4, w1, w2, e, oN_succ]
    exact c1
theorem q1_replay (hS : Sta n f) (hok : okD n D) (hD : DC I 10 D) (h6 : ∀ k, k < 8 → I 6 k = f k) (hs : SC I f n) : ∃ I1, C (d + 6) iX1_replay [.ref 4] (mk N I J) = some (none, mk N I1 J) ∧ FC I1 (runF D f) n ∧ DC I1 10 D ∧ ∀ b, fa b → I1 b = I b := by
  obtain ⟨H, hH, hf⟩ := hh_bg hS
  have h6' : ∀ k, k < 8 → I 6 k = vi (H k) := fun k hk => by rw [h6 k hk, hf k hk]
  obtain ⟨I1, c1, c2, c3⟩ := rep_loop (d := d) (N := N) (J := J) (f := f) hS.1 hS.2.1 D [] (rpI H I) hok (dc_congr (rp_ne (by omega)) (rp_ne (by omega)) (rp_ne (by omega)) hD) (fc_rp hS.1 hH hs) ⟨H, hH⟩
  rw [List.length_nil, show Int32.ofNat 0 = 0 from rfl] at c1
  have c4 : ∀ b, fa b → I1 b = I b := fun b hb => by rw [c3 b hb, rp_ne hb]
  refine ⟨I1, ?_, c2, dc_congr (c4 _ (by unfold fa; omega)) (c4 _ (by unfold fa; omega)) (c4 _ (by unfold fa; omega)) hD, c4⟩
  unfold rpI wf0 at c1
  simp only [K_some, K_void, K_none, wA_ref, wA_null, isNull_null, isNull_ref, c_int, c_long, c_ref, c_null, c_float, catS_nil, catS_cons, fit_int, fit_bool, fit_long, isO_mk, len_mk, fld_mk, gI_mk, gI0_mk, gZ_mk, gR_mk, isI_mk, isR_mk, tag_mk, lenE_mk, datR_mk, isOs, lenOs, fldS, lenS, gIs, gI0s, gZs, gRs, isIs, isRs, tagS, datRs, mkv, refV, fkS, isArr, tagOk, datI_mk, wrI_mk, wrA_mk, wrF_mk, wrJ_mk, List.length_cons, List.length_nil, List.getElem?_cons_zero, List.getElem?_cons_succ, List.getElem?_nil, ↓reduceIte, Nat.reduceAdd, Nat.reduceMul, Nat.reduceSub, Nat.reduceDiv, Nat.reduceMod, Nat.reduceLT, Nat.reduceLeDiff, Nat.reduceBEq, Nat.reduceEqDiff, Nat.zero_lt_succ, beq_self_eq_true, Bool.true_and, Bool.and_true, Bool.or_true, Bool.true_or, Bool.or_false, Bool.false_or, Bool.false_and, Bool.and_false, Bool.not_true, Bool.not_false, Bool.false_eq_true, Bool.true_eq_false, Bool.and_eq_true, Bool.or_eq_true, Bool.not_eq_true', decide_eq_true_eq, decide_eq_false_iff_not, decide_true, decide_false, and_self, true_and, and_true, or_true, true_or, or_false, false_or, and_false, false_and, or_self, reduceCtorEq, not_true_eq_false, not_false_eq_true, if_true, if_false, Int32.reduceAdd, Int32.reduceSub, Int32.reduceMul, Int32.reduceDiv, Int32.reduceMod, Int32.reduceLT, Int32.reduceLE, eqF1, eqF2, Int32.reduceOfNat, Int32.reduceOfInt, Int32.reduceToNatClampNeg, inb_lit, en_X1_replay, e_X1_replay_0, e_X1_replay_1, e_X1_replay_4, e_X1_replay_5, e_X1_replay_8, e_X1_replay_11, e_X1_replay_12, e_X1_replay_13, e_X1_replay_16, e_X1_replay_17, e_X1_replay_18, e_X1_replay_19, e_X1_replay_20, e_X1_replay_23, e_X1_replay_24, e_X1_replay_27, e_X1_replay_28, e_X1_replay_31, e_X1_replay_32, e_X1_replay_33, e_X1_replay_36, e_X1_replay_39, e_X1_replay_42, e_X1_replay_43, e_X1_replay_45, e_X1_replay_46, e_X1_replay_49, e_X1_replay_52, e_X1_replay_55, e_X1_replay_56, e_X1_replay_58, e_X1_replay_61, e_X1_replay_62, e_X1_replay_63, e_X1_replay_66, e_X1_replay_69, e_X1_replay_70, e_X1_replay_71, e_X1_replay_72, e_X1_replay_75, e_X1_replay_78, e_X1_replay_79, e_X1_replay_80, e_X1_replay_83, e_X1_replay_86, e_X1_replay_89, sh_4, sh_5, sh_6, sh_7, sh_8, sh_9, sh_14, sh_15, sh_16, sh_17, sh_18, sh_19, sh_1, sh_2, sh_3, sh_10, sh_11, sh_12, sh_13, sh_29, sh_35, sh_50, sh_53, sh_54, sh_55, sh_56, sh_77, sh_78, sh_79, sh_80, sh_81, sh_82, sh_83, sh_84, sh_85, sh_86, sh_88, qG_take (a := 7) (b := 8) (a' := 5) (b' := 6) sh_7 sh_8 sh_5 sh_6 h6', q8_forget (a := 14) sh_14, q8_forget (a := 15) sh_15, q8_forget (a := 16) sh_16, q8_forget (a := 17) sh_17, q8_forget (a := 18) sh_18, q8_forget (a := 19) sh_19]
  exact c1
theorem sc_of (h : FarmIs I n f D K) : SC I f n := by
  obtain ⟨h1, h2, h3, h4, -⟩ := h
  obtain ⟨c1, c2, c3, c4, c5⟩ := h4
  refine ⟨by rw [c1, run_st h2.2 (by omega)], by rw [c2, run_st h2.2 (by omega)], fun i hi => ?_⟩
  have hn := h1.1
  obtain ⟨a1, a2, a3, -⟩ := c5 i hi
  exact ⟨by rw [a1, run_st h2.2 (by omega)], by rw [a2, run_st h2.2 (by omega)], by rw [a3, run_st h2.2 (by omega)]⟩
theorem qa_begin (hA : sh N a = .inl (0, 96)) : C (d + 1) iX10_begin [.ref a] (mk N I J) = some (none, mk N (upA I a (bgF (I a))) J) := by
  simp only [K_some, K_void, K_none, wA_ref, wA_null, isNull_null, isNull_ref, c_int, c_long, c_ref, c_null, c_float, catS_nil, catS_cons, fit_int, fit_bool, fit_long, isO_mk, len_mk, fld_mk, gI_mk, gI0_mk, gZ_mk, gR_mk, isI_mk, isR_mk, tag_mk, lenE_mk, datR_mk, isOs, lenOs, fldS, lenS, gIs, gI0s, gZs, gRs, isIs, isRs, tagS, datRs, mkv, refV, fkS, isArr, tagOk, datI_mk, wrI_mk, wrA_mk, wrF_mk, wrJ_mk, List.length_cons, List.length_nil, List.getElem?_cons_zero, List.getElem?_cons_succ, List.getElem?_nil, ↓reduceIte, Nat.reduceAdd, Nat.reduceMul, Nat.reduceSub, Nat.reduceDiv, Nat.reduceMod, Nat.reduceLT, Nat.reduceLeDiff, Nat.reduceBEq, Nat.reduceEqDiff, Nat.zero_lt_succ, beq_self_eq_true, Bool.true_and, Bool.and_true, Bool.or_true, Bool.true_or, Bool.or_false, Bool.false_or, Bool.false_and, Bool.and_false, Bool.not_true, Bool.not_false, Bool.false_eq_true, Bool.true_eq_false, Bool.and_eq_true, Bool.or_eq_true, Bool.not_eq_true', decide_eq_true_eq, decide_eq_false_iff_not, decide_true, decide_false, and_self, true_and, and_true, or_true, true_or, or_false, false_or, and_false, false_and, or_self, reduceCtorEq, not_true_eq_false, not_false_eq_true, if_true, if_false, Int32.reduceAdd, Int32.reduceSub, Int32.reduceMul, Int32.reduceDiv, Int32.reduceMod, Int32.reduceLT, Int32.reduceLE, eqF1, eqF2, Int32.reduceOfNat, Int32.reduceOfInt, Int32.reduceToNatClampNeg, inb_lit, en_X10_begin, e_X10_begin_0, e_X10_begin_1, e_X10_begin_3, e_X10_begin_4, e_X10_begin_5, e_X10_begin_6, e_X10_begin_7, e_X10_begin_8, e_X10_begin_10, e_X10_begin_13, e_X10_begin_14, e_X10_begin_16, e_X10_begin_17, e_X10_begin_18, e_X10_begin_19, e_X10_begin_20, e_X10_begin_21, e_X10_begin_22, e_X10_begin_23, e_X10_begin_24, e_X10_begin_27, e_X10_begin_30, e_X10_begin_31, e_X10_begin_32, e_X10_begin_33, e_X10_begin_35, e_X10_begin_38, e_X10_begin_39, e_X10_begin_41, e_X10_begin_42, e_X10_begin_43, e_X10_begin_45, e_X10_begin_46, e_X10_begin_47, e_X10_begin_49, e_X10_begin_50, e_X10_begin_51, e_X10_begin_53, e_X10_begin_54, e_X10_begin_55, e_X10_begin_57, e_X10_begin_58, e_X10_begin_59, e_X10_begin_60, e_X10_begin_61, e_X10_begin_64, e_X10_begin_67, up_at, upA_at2, upJ_at, hA]
  congr 3
  funext b q
  rw [upA_at2]
  by_cases hb : b = a
  · subst hb
    rw [if_pos rfl]
    by_cases hq : 69 ≤ q ∧ q < 96
    · obtain ⟨j, rfl⟩ : ∃ j, q = 69 + j := ⟨q - 69, by omega⟩
      have hj : j < 27 := by omega
      clear hq
      unfold bgF
      obtain rfl | rfl | rfl | rfl | rfl | rfl | rfl | rfl | rfl | rfl | rfl | rfl | rfl | rfl | rfl | rfl | rfl | rfl | rfl | rfl | rfl | rfl | rfl | rfl | rfl | rfl | rfl : j = 0 ∨ j = 1 ∨ j = 2 ∨ j = 3 ∨ j = 4 ∨ j = 5 ∨ j = 6 ∨ j = 7 ∨ j = 8 ∨ j = 9 ∨ j = 10 ∨ j = 11 ∨ j = 12 ∨ j = 13 ∨ j = 14 ∨ j = 15 ∨ j = 16 ∨ j = 17 ∨ j = 18 ∨ j = 19 ∨ j = 20 ∨ j = 21 ∨ j = 22 ∨ j = 23 ∨ j = 24 ∨ j = 25 ∨ j = 26 := by omega
      all_goals simp [up_at]
    · unfold bgF
      rw [if_neg (by omega), if_neg (by omega), if_neg (by omega), if_neg (by omega)]
      simp only [up_at, true_and]
      repeat rw [if_neg (by omega)]
  · rw [if_neg hb]
    simp only [up_at, hb, false_and, if_false]
theorem und_loop (hn : n ≤ 6) (h9 : f 9 = Int32.ofNat n) (hx : m ≤ 40) : ∀ (D2 D1 : List (Nat × Nat)) (I : IT), (D1 ++ D2).length = m → okD n (D1 ++ D2) → (∀ k, relF n k → I 78 k = runF D1 f k) → (∀ j p, (D1 ++ D2)[j]? = some p → I 78 (29 + j) = Int32.ofNat (10 * p.1 + p.2)) → ∃ h', R (d + 5) iX10_undo 38 [.ref 77, .int (Int32.ofNat m), .int v, .int (Int32.ofNat D1.length)] [] (mk N I J) = R (d + 5) iX10_undo 65 [.ref 77, .int (Int32.ofNat m), .int v, .int (Int32.ofNat m)] [] (mk N (upA I 78 h') J) ∧ (∀ k, relF n k → h' k = runF (D1 ++ D2) f k) ∧ ∀ k, 28 ≤ k → k < 69 → h' k = I 78 k := by
  intro D2
  induction D2 with
  | nil =>
    intro D1 I hm hok hR hE
    rw [List.append_nil] at hm hok ⊢
    subst hm
    have h1 : ¬ Int32.ofNat D1.length < Int32.ofNat D1.length := fun h => by have := (oN_lt (by omega) (by omega)).mp h; omega
    refine ⟨I 78, ?_, hR, fun k _ _ => rfl⟩
    rw [e_X10_undo_38]
    simp only [K_some, K_void, K_none, wA_ref, wA_null, isNull_null, isNull_ref, c_int, c_long, c_ref, c_null, c_float, catS_nil, catS_cons, fit_int, fit_bool, fit_long, isO_mk, len_mk, fld_mk, gI_mk, gI0_mk, gZ_mk, gR_mk, isI_mk, isR_mk, tag_mk, lenE_mk, datR_mk, isOs, lenOs, fldS, lenS, gIs, gI0s, gZs, gRs, isIs, isRs, tagS, datRs, mkv, refV, fkS, isArr, tagOk, datI_mk, wrI_mk, wrA_mk, wrF_mk, wrJ_mk, List.length_cons, List.length_nil, List.getElem?_cons_zero, List.getElem?_cons_succ, List.getElem?_nil, ↓reduceIte, Nat.reduceAdd, Nat.reduceMul, Nat.reduceSub, Nat.reduceDiv, Nat.reduceMod, Nat.reduceLT, Nat.reduceLeDiff, Nat.reduceBEq, Nat.reduceEqDiff, Nat.zero_lt_succ, beq_self_eq_true, Bool.true_and, Bool.and_true, Bool.or_true, Bool.true_or, Bool.or_false, Bool.false_or, Bool.false_and, Bool.and_false, Bool.not_true, Bool.not_false, Bool.false_eq_true, Bool.true_eq_false, Bool.and_eq_true, Bool.or_eq_true, Bool.not_eq_true', decide_eq_true_eq, decide_eq_false_iff_not, decide_true, decide_false, and_self, true_and, and_true, or_true, true_or, or_false, false_or, and_false, false_and, or_self, reduceCtorEq, not_true_eq_false, not_false_eq_true, if_true, if_false, Int32.reduceAdd, Int32.reduceSub, Int32.reduceMul, Int32.reduceDiv, Int32.reduceMod, Int32.reduceLT, Int32.reduceLE, eqF1, eqF2, Int32.reduceOfNat, Int32.reduceOfInt, Int32.reduceToNatClampNeg, inb_lit, e_X10_undo_0, e_X10_undo_1, e_X10_undo_2, e_X10_undo_3, e_X10_undo_4, e_X10_undo_7, e_X10_undo_9, e_X10_undo_10, e_X10_undo_11, e_X10_undo_14, e_X10_undo_17, e_X10_undo_18, e_X10_undo_19, e_X10_undo_20, e_X10_undo_23, e_X10_undo_25, e_X10_undo_26, e_X10_undo_27, e_X10_undo_28, e_X10_undo_29, e_X10_undo_30, e_X10_undo_33, e_X10_undo_36, e_X10_undo_37, e_X10_undo_39, e_X10_undo_40, e_X10_undo_43, e_X10_undo_44, e_X10_undo_47, e_X10_undo_48, e_X10_undo_51, e_X10_undo_53, e_X10_undo_54, e_X10_undo_55, e_X10_undo_56, e_X10_undo_59, e_X10_undo_62, e_X10_undo_66, e_X10_undo_69, e_X10_undo_71, e_X10_undo_72, e_X10_undo_73, e_X10_undo_74, h1, upA_self]
  | cons p D2 ih =>
    intro D1 I hm hok hR hE
    have hll : (D1 ++ p :: D2).length = D1.length + (D2.length + 1) := by simp
    have hp : wfD n p := hok.2 p (by simp)
    have h1 : Int32.ofNat D1.length < Int32.ofNat m := (oN_lt (by omega) (by omega)).mpr (by omega)
    have g1 : inb (Int32.ofNat (29 + D1.length)) 96 = true := inb_ofNat (by omega) (by omega)
    have g2 : (Int32.ofNat (29 + D1.length)).toNatClampNeg = 29 + D1.length := nat_ofNat (by omega)
    have w := hE D1.length p take_app
    have e := qa_goDeed (d := d + 1) (N := N) (J := J) (a := 78) (I := I) sh_78 hn hp (by
      by_cases h0 : n = 0
      · exact Or.inl h0
      · right; rw [hR 9 (by unfold relF; omega), run_st (n := n) (fun q hq => hok.2 q (by simp [hq])) (by omega), h9]; exact (oN_lt (j := 0) (k := n) (by omega) (by omega)).mpr (by omega))
    have as : D1 ++ p :: D2 = (D1 ++ [p]) ++ D2 := by simp
    rw [as] at hm hok hE ⊢
    obtain ⟨h', c1, c2, c3⟩ := ih (D1 ++ [p]) (upA I 78 (goF p (I 78))) hm hok (by rw [upA_same, run_app]; exact fm_go hn hp hR) (fun j q hq => by
      have hj := (List.getElem?_eq_some_iff.mp hq).1
      rw [upA_same, go_st hp (by omega)]; exact hE j q hq)
    refine ⟨h', ?_, c2, fun k k1 k2 => by rw [c3 k k1 k2, upA_same, go_st hp k2]⟩
    rw [List.length_append, List.length_singleton, upA_upA] at c1
    rw [e_X10_undo_38]
    simp only [K_some, K_void, K_none, wA_ref, wA_null, isNull_null, isNull_ref, c_int, c_long, c_ref, c_null, c_float, catS_nil, catS_cons, fit_int, fit_bool, fit_long, isO_mk, len_mk, fld_mk, gI_mk, gI0_mk, gZ_mk, gR_mk, isI_mk, isR_mk, tag_mk, lenE_mk, datR_mk, isOs, lenOs, fldS, lenS, gIs, gI0s, gZs, gRs, isIs, isRs, tagS, datRs, mkv, refV, fkS, isArr, tagOk, datI_mk, wrI_mk, wrA_mk, wrF_mk, wrJ_mk, List.length_cons, List.length_nil, List.getElem?_cons_zero, List.getElem?_cons_succ, List.getElem?_nil, ↓reduceIte, Nat.reduceAdd, Nat.reduceMul, Nat.reduceSub, Nat.reduceDiv, Nat.reduceMod, Nat.reduceLT, Nat.reduceLeDiff, Nat.reduceBEq, Nat.reduceEqDiff, Nat.zero_lt_succ, beq_self_eq_true, Bool.true_and, Bool.and_true, Bool.or_true, Bool.true_or, Bool.or_false, Bool.false_or, Bool.false_and, Bool.and_false, Bool.not_true, Bool.not_false, Bool.false_eq_true, Bool.true_eq_false, Bool.and_eq_true, Bool.or_eq_true, Bool.not_eq_true', decide_eq_true_eq, decide_eq_false_iff_not, decide_true, decide_false, and_self, true_and, and_true, or_true, true_or, or_false, false_or, and_false, false_and, or_self, reduceCtorEq, not_true_eq_false, not_false_eq_true, if_true, if_false, Int32.reduceAdd, Int32.reduceSub, Int32.reduceMul, Int32.reduceDiv, Int32.reduceMod, Int32.reduceLT, Int32.reduceLE, eqF1, eqF2, Int32.reduceOfNat, Int32.reduceOfInt, Int32.reduceToNatClampNeg, inb_lit, e_X10_undo_0, e_X10_undo_1, e_X10_undo_2, e_X10_undo_3, e_X10_undo_4, e_X10_undo_7, e_X10_undo_9, e_X10_undo_10, e_X10_undo_11, e_X10_undo_14, e_X10_undo_17, e_X10_undo_18, e_X10_undo_19, e_X10_undo_20, e_X10_undo_23, e_X10_undo_25, e_X10_undo_26, e_X10_undo_27, e_X10_undo_28, e_X10_undo_29, e_X10_undo_30, e_X10_undo_33, e_X10_undo_36, e_X10_undo_37, e_X10_undo_39, e_X10_undo_40, e_X10_undo_43, e_X10_undo_44, e_X10_undo_47, e_X10_undo_48, e_X10_undo_51, e_X10_undo_53, e_X10_undo_54, e_X10_undo_55, e_X10_undo_56, e_X10_undo_59, e_X10_undo_62, e_X10_undo_66, e_X10_undo_69, e_X10_undo_71, e_X10_undo_72, e_X10_undo_73, e_X10_undo_74, sh_77, sh_78, sh_1, sh_2, sh_3, sh_4, sh_7, sh_8, sh_9, sh_10, sh_11, sh_12, sh_13, sh_29, sh_35, sh_50, sh_53, sh_54, sh_55, sh_56, sh_79, sh_80, sh_81, sh_82, sh_83, sh_84, sh_85, sh_86, sh_88, h1, g1, g2, addl_29, w, e, oN_succ]
    exact c1
/-- undo(n) -/
theorem ag_undo (hI : Inv I J) : Agr N I J iX9_undo iX10_undo [.int x] := by
  obtain ⟨n, f, D, K, H, g, hF⟩ := fa_of hI
  obtain ⟨h0, -, f3, f4, f5, f6, f7, f8, f9, f10, f11, f12, f13, f14, f15, f16⟩ := hF
  by_cases hx : ¬ x < 0 ∧ ¬ Int32.ofNat D.length < x
  · obtain ⟨q1, q2⟩ := hx
    obtain ⟨m, hm, rfl⟩ := lt40 (b := 0) q1 q2 (by omega)
    have h0' := h0
    obtain ⟨h1, h2, h3, h4, h5, h6, h7⟩ := h0'
    have ht : (D.take m).length = m := by simp; omega
    have hok : okD n (D.take m) := ⟨by omega, fun p hp => h2.2 p (List.mem_of_mem_take hp)⟩
    have hsub : ∀ j p, (D.take m)[j]? = some p → D[j]? = some p := fun j p hp => by
      rw [List.getElem?_take] at hp
      split at hp
      · exact hp
      · cases hp
    have hs := sc_of h0
    have hD : DC (up I 10 2 (Int32.ofNat m)) 10 (D.take m) := by
      refine ⟨by rw [ht]; simp [up_at], fun j p hp => ?_⟩
      rw [up_ne (by omega), up_ne (by omega)]
      exact h5.2 j p (hsub j p hp)
    obtain ⟨I1, c1, c2, c3, c4⟩ := q1_replay (d := 13) (N := N) (J := J) (f := f) h1 hok hD (by rw [up_ne (by omega)]; exact h3) (by
      unfold SC at hs ⊢
      rw [up_ne (by omega)]
      exact ⟨hs.1, hs.2.1, fun i hi => by rw [up_ne (by omega)]; exact hs.2.2 i hi⟩)
    have c5 : ∀ b, fr b → I1 b = I b := fun b hb => by rw [c4 b ⟨hb.1, hb.2.1, hb.2.2.2⟩, up_ne (by unfold fr at hb; omega)]
    have e78 : I1 78 = I 78 := c5 78 (by unfold fr; omega)
    have bR : ∀ k, relF n k → bgF (I 78) k = runF [] f k := fun k hk => by
      have hst : ∀ q, q < 28 → relF n q → I 78 q = f q := fun q hq hr => by
        have := h6.1 q hr
        rw [run_st h2.2 (by omega)] at this
        exact this
      rw [run_nil]
      unfold bgF
      unfold relF at hk
      (repeat' split) <;> first | rfl | skip
      · exact hst _ (by omega) (by unfold relF; omega)
      · exact hst _ (by omega) (by unfold relF; omega)
    obtain ⟨h', m1, m2, m3⟩ := und_loop (d := 14) (N := N) (J := J) (f := f) (m := m) (v := Int32.ofNat D.length - Int32.ofNat m) f4 h1.2.1 (by omega) (D.take m) [] (upA I1 78 (bgF (I1 78))) ht hok (by rw [upA_same, e78]; exact bR) (fun j p hp => by
      have hj := (List.getElem?_eq_some_iff.mp hp).1
      have hj2 : j < m := by rw [← ht]; exact hj
      rw [upA_same, e78]
      rw [show bgF (I 78) (29 + j) = I 78 (29 + j) by unfold bgF; rw [if_neg (by omega), if_neg (by omega), if_neg (by omega), if_neg (by omega)]]
      exact h6.2.2 j p (hsub j p hp))
    rw [List.length_nil, show Int32.ofNat 0 = 0 from rfl] at m1
    rw [upA_upA] at m1
    have hM : FM (fun q => if q = 28 then Int32.ofNat m else h' q) (runF (D.take m) f) n (D.take m) := by
      refine ⟨fun k hk => ?_, by rw [ht]; rfl, fun j p hp => ?_⟩
      · show (if k = 28 then _ else h' k) = _
        rw [if_neg (by unfold relF at hk; omega)]; exact m2 k hk
      · have hj := (List.getElem?_eq_some_iff.mp hp).1
        have hj2 : j < m := by rw [← ht]; exact hj
        show (if 29 + j = 28 then _ else h' (29 + j)) = _
        rw [if_neg (by omega), m3 _ (by omega) (by omega), upA_same, e78]
        rw [show bgF (I 78) (29 + j) = I 78 (29 + j) by unfold bgF; rw [if_neg (by omega), if_neg (by omega), if_neg (by omega), if_neg (by omega)]]
        exact h6.2.2 j p (hsub j p hp)
    have hF2 := farm_set h0 hok c2 c3 c5 hM
    have m4 : I1 78 28 = Int32.ofNat D.length := by rw [e78]; exact f12
    refine agr (v := .int (Int32.ofNat D.length - Int32.ofNat m)) (I1 := I1) (J1 := J) (I2 := upA I1 78 (fun q => if q = 28 then Int32.ofNat m else h' q)) (J2 := J) ?_ ?_ (inv_farm hI c5 ⟨n, f, _, K, hF2⟩) ?_
    · simp only [K_some, K_void, K_none, wA_ref, wA_null, isNull_null, isNull_ref, c_int, c_long, c_ref, c_null, c_float, catS_nil, catS_cons, fit_int, fit_bool, fit_long, isO_mk, len_mk, fld_mk, gI_mk, gI0_mk, gZ_mk, gR_mk, isI_mk, isR_mk, tag_mk, lenE_mk, datR_mk, isOs, lenOs, fldS, lenS, gIs, gI0s, gZs, gRs, isIs, isRs, tagS, datRs, mkv, refV, fkS, isArr, tagOk, datI_mk, wrI_mk, wrA_mk, wrF_mk, wrJ_mk, List.length_cons, List.length_nil, List.getElem?_cons_zero, List.getElem?_cons_succ, List.getElem?_nil, ↓reduceIte, Nat.reduceAdd, Nat.reduceMul, Nat.reduceSub, Nat.reduceDiv, Nat.reduceMod, Nat.reduceLT, Nat.reduceLeDiff, Nat.reduceBEq, Nat.reduceEqDiff, Nat.zero_lt_succ, beq_self_eq_true, Bool.true_and, Bool.and_true, Bool.or_true, Bool.true_or, Bool.or_false, Bool.false_or, Bool.false_and, Bool.and_false, Bool.not_true, Bool.not_false, Bool.false_eq_true, Bool.true_eq_false, Bool.and_eq_true, Bool.or_eq_true, Bool.not_eq_true', decide_eq_true_eq, decide_eq_false_iff_not, decide_true, decide_false, and_self, true_and, and_true, or_true, true_or, or_false, false_or, and_false, false_and, or_self, reduceCtorEq, not_true_eq_false, not_false_eq_true, if_true, if_false, Int32.reduceAdd, Int32.reduceSub, Int32.reduceMul, Int32.reduceDiv, Int32.reduceMod, Int32.reduceLT, Int32.reduceLE, eqF1, eqF2, Int32.reduceOfNat, Int32.reduceOfInt, Int32.reduceToNatClampNeg, inb_lit, en_X9_undo, e_X9_undo_0, e_X9_undo_1, e_X9_undo_4, e_X9_undo_7, e_X9_undo_10, e_X9_undo_11, e_X9_undo_12, e_X9_undo_13, e_X9_undo_14, e_X9_undo_17, e_X9_undo_20, e_X9_undo_21, e_X9_undo_22, e_X9_undo_23, e_X9_undo_26, e_X9_undo_29, e_X9_undo_30, e_X9_undo_33, e_X9_undo_34, e_X9_undo_37, e_X9_undo_40, e_X9_undo_41, e_X9_undo_42, e_X9_undo_43, sh_1, sh_2, sh_3, sh_4, sh_7, sh_8, sh_9, sh_10, sh_11, sh_12, sh_13, sh_29, sh_35, sh_50, sh_53, sh_54, sh_55, sh_56, sh_77, sh_78, sh_79, sh_80, sh_81, sh_82, sh_83, sh_84, sh_85, sh_86, sh_88, f13, q9_within, q1, q2, c1]
    · simp only [K_some, K_void, K_none, wA_ref, wA_null, isNull_null, isNull_ref, c_int, c_long, c_ref, c_null, c_float, catS_nil, catS_cons, fit_int, fit_bool, fit_long, isO_mk, len_mk, fld_mk, gI_mk, gI0_mk, gZ_mk, gR_mk, isI_mk, isR_mk, tag_mk, lenE_mk, datR_mk, isOs, lenOs, fldS, lenS, gIs, gI0s, gZs, gRs, isIs, isRs, tagS, datRs, mkv, refV, fkS, isArr, tagOk, datI_mk, wrI_mk, wrA_mk, wrF_mk, wrJ_mk, List.length_cons, List.length_nil, List.getElem?_cons_zero, List.getElem?_cons_succ, List.getElem?_nil, ↓reduceIte, Nat.reduceAdd, Nat.reduceMul, Nat.reduceSub, Nat.reduceDiv, Nat.reduceMod, Nat.reduceLT, Nat.reduceLeDiff, Nat.reduceBEq, Nat.reduceEqDiff, Nat.zero_lt_succ, beq_self_eq_true, Bool.true_and, Bool.and_true, Bool.or_true, Bool.true_or, Bool.or_false, Bool.false_or, Bool.false_and, Bool.and_false, Bool.not_true, Bool.not_false, Bool.false_eq_true, Bool.true_eq_false, Bool.and_eq_true, Bool.or_eq_true, Bool.not_eq_true', decide_eq_true_eq, decide_eq_false_iff_not, decide_true, decide_false, and_self, true_and, and_true, or_true, true_or, or_false, false_or, and_false, false_and, or_self, reduceCtorEq, not_true_eq_false, not_false_eq_true, if_true, if_false, Int32.reduceAdd, Int32.reduceSub, Int32.reduceMul, Int32.reduceDiv, Int32.reduceMod, Int32.reduceLT, Int32.reduceLE, eqF1, eqF2, Int32.reduceOfNat, Int32.reduceOfInt, Int32.reduceToNatClampNeg, inb_lit, en_X10_undo, e_X10_undo_0, e_X10_undo_1, e_X10_undo_2, e_X10_undo_3, e_X10_undo_4, e_X10_undo_7, e_X10_undo_9, e_X10_undo_10, e_X10_undo_11, e_X10_undo_14, e_X10_undo_17, e_X10_undo_18, e_X10_undo_19, e_X10_undo_20, e_X10_undo_23, e_X10_undo_25, e_X10_undo_26, e_X10_undo_27, e_X10_undo_28, e_X10_undo_29, e_X10_undo_30, e_X10_undo_33, e_X10_undo_36, e_X10_undo_37, e_X10_undo_39, e_X10_undo_40, e_X10_undo_43, e_X10_undo_44, e_X10_undo_47, e_X10_undo_48, e_X10_undo_51, e_X10_undo_53, e_X10_undo_54, e_X10_undo_55, e_X10_undo_56, e_X10_undo_59, e_X10_undo_62, e_X10_undo_66, e_X10_undo_69, e_X10_undo_71, e_X10_undo_72, e_X10_undo_73, e_X10_undo_74, sh_77, sh_78, sh_1, sh_2, sh_3, sh_4, sh_7, sh_8, sh_9, sh_10, sh_11, sh_12, sh_13, sh_29, sh_35, sh_50, sh_53, sh_54, sh_55, sh_56, sh_79, sh_80, sh_81, sh_82, sh_83, sh_84, sh_85, sh_86, sh_88, m4, qm_in, lt64_0, lt64, q1, q2, qa_begin (a := 78) sh_78]
      refine m1.trans ?_
      simp only [K_some, K_void, K_none, wA_ref, wA_null, isNull_null, isNull_ref, c_int, c_long, c_ref, c_null, c_float, catS_nil, catS_cons, fit_int, fit_bool, fit_long, isO_mk, len_mk, fld_mk, gI_mk, gI0_mk, gZ_mk, gR_mk, isI_mk, isR_mk, tag_mk, lenE_mk, datR_mk, isOs, lenOs, fldS, lenS, gIs, gI0s, gZs, gRs, isIs, isRs, tagS, datRs, mkv, refV, fkS, isArr, tagOk, datI_mk, wrI_mk, wrA_mk, wrF_mk, wrJ_mk, List.length_cons, List.length_nil, List.getElem?_cons_zero, List.getElem?_cons_succ, List.getElem?_nil, ↓reduceIte, Nat.reduceAdd, Nat.reduceMul, Nat.reduceSub, Nat.reduceDiv, Nat.reduceMod, Nat.reduceLT, Nat.reduceLeDiff, Nat.reduceBEq, Nat.reduceEqDiff, Nat.zero_lt_succ, beq_self_eq_true, Bool.true_and, Bool.and_true, Bool.or_true, Bool.true_or, Bool.or_false, Bool.false_or, Bool.false_and, Bool.and_false, Bool.not_true, Bool.not_false, Bool.false_eq_true, Bool.true_eq_false, Bool.and_eq_true, Bool.or_eq_true, Bool.not_eq_true', decide_eq_true_eq, decide_eq_false_iff_not, decide_true, decide_false, and_self, true_and, and_true, or_true, true_or, or_false, false_or, and_false, false_and, or_self, reduceCtorEq, not_true_eq_false, not_false_eq_true, if_true, if_false, Int32.reduceAdd, Int32.reduceSub, Int32.reduceMul, Int32.reduceDiv, Int32.reduceMod, Int32.reduceLT, Int32.reduceLE, eqF1, eqF2, Int32.reduceOfNat, Int32.reduceOfInt, Int32.reduceToNatClampNeg, inb_lit, e_X10_undo_0, e_X10_undo_1, e_X10_undo_2, e_X10_undo_3, e_X10_undo_4, e_X10_undo_7, e_X10_undo_9, e_X10_undo_10, e_X10_undo_11, e_X10_undo_14, e_X10_undo_17, e_X10_undo_18, e_X10_undo_19, e_X10_undo_20, e_X10_undo_23, e_X10_undo_25, e_X10_undo_26, e_X10_undo_27, e_X10_undo_28, e_X10_undo_29, e_X10_undo_30, e_X10_undo_33, e_X10_undo_36, e_X10_undo_37, e_X10_undo_39, e_X10_undo_40, e_X10_undo_43, e_X10_undo_44, e_X10_undo_47, e_X10_undo_48, e_X10_undo_51, e_X10_undo_53, e_X10_undo_54, e_X10_undo_55, e_X10_undo_56, e_X10_undo_59, e_X10_undo_62, e_X10_undo_65, e_X10_undo_66, e_X10_undo_69, e_X10_undo_71, e_X10_undo_72, e_X10_undo_73, e_X10_undo_74, sh_77, sh_78, sh_1, sh_2, sh_3, sh_4, sh_7, sh_8, sh_9, sh_10, sh_11, sh_12, sh_13, sh_29, sh_35, sh_50, sh_53, sh_54, sh_55, sh_56, sh_79, sh_80, sh_81, sh_82, sh_83, sh_84, sh_85, sh_86, sh_88, up_A, upA_upA, upA_same]
    · rw [upA_ne (by omega), c5 0 (by unfold fr; omega)]
  · have h3 : x < 0 ∨ Int32.ofNat D.length < x := by
      by_cases h : x < 0
      · exact Or.inl h
      · exact Or.inr (Classical.byContradiction fun h2 => hx ⟨h, h2⟩)
    refine agr (v := .int (-1)) (I1 := I) (J1 := J) (I2 := I) (J2 := J) ?_ ?_ hI rfl
    · rcases h3 with h | h
      · simp only [K_some, K_void, K_none, wA_ref, wA_null, isNull_null, isNull_ref, c_int, c_long, c_ref, c_null, c_float, catS_nil, catS_cons, fit_int, fit_bool, fit_long, isO_mk, len_mk, fld_mk, gI_mk, gI0_mk, gZ_mk, gR_mk, isI_mk, isR_mk, tag_mk, lenE_mk, datR_mk, isOs, lenOs, fldS, lenS, gIs, gI0s, gZs, gRs, isIs, isRs, tagS, datRs, mkv, refV, fkS, isArr, tagOk, datI_mk, wrI_mk, wrA_mk, wrF_mk, wrJ_mk, List.length_cons, List.length_nil, List.getElem?_cons_zero, List.getElem?_cons_succ, List.getElem?_nil, ↓reduceIte, Nat.reduceAdd, Nat.reduceMul, Nat.reduceSub, Nat.reduceDiv, Nat.reduceMod, Nat.reduceLT, Nat.reduceLeDiff, Nat.reduceBEq, Nat.reduceEqDiff, Nat.zero_lt_succ, beq_self_eq_true, Bool.true_and, Bool.and_true, Bool.or_true, Bool.true_or, Bool.or_false, Bool.false_or, Bool.false_and, Bool.and_false, Bool.not_true, Bool.not_false, Bool.false_eq_true, Bool.true_eq_false, Bool.and_eq_true, Bool.or_eq_true, Bool.not_eq_true', decide_eq_true_eq, decide_eq_false_iff_not, decide_true, decide_false, and_self, true_and, and_true, or_true, true_or, or_false, false_or, and_false, false_and, or_self, reduceCtorEq, not_true_eq_false, not_false_eq_true, if_true, if_false, Int32.reduceAdd, Int32.reduceSub, Int32.reduceMul, Int32.reduceDiv, Int32.reduceMod, Int32.reduceLT, Int32.reduceLE, eqF1, eqF2, Int32.reduceOfNat, Int32.reduceOfInt, Int32.reduceToNatClampNeg, inb_lit, en_X9_undo, e_X9_undo_0, e_X9_undo_1, e_X9_undo_4, e_X9_undo_7, e_X9_undo_10, e_X9_undo_11, e_X9_undo_12, e_X9_undo_13, e_X9_undo_14, e_X9_undo_17, e_X9_undo_20, e_X9_undo_21, e_X9_undo_22, e_X9_undo_23, e_X9_undo_26, e_X9_undo_29, e_X9_undo_30, e_X9_undo_33, e_X9_undo_34, e_X9_undo_37, e_X9_undo_40, e_X9_undo_41, e_X9_undo_42, e_X9_undo_43, sh_1, sh_2, sh_3, sh_4, sh_7, sh_8, sh_9, sh_10, sh_11, sh_12, sh_13, sh_29, sh_35, sh_50, sh_53, sh_54, sh_55, sh_56, sh_77, sh_78, sh_79, sh_80, sh_81, sh_82, sh_83, sh_84, sh_85, sh_86, sh_88, f13, q9_within, h]
      · by_cases h0 : x < 0 <;> simp only [K_some, K_void, K_none, wA_ref, wA_null, isNull_null, isNull_ref, c_int, c_long, c_ref, c_null, c_float, catS_nil, catS_cons, fit_int, fit_bool, fit_long, isO_mk, len_mk, fld_mk, gI_mk, gI0_mk, gZ_mk, gR_mk, isI_mk, isR_mk, tag_mk, lenE_mk, datR_mk, isOs, lenOs, fldS, lenS, gIs, gI0s, gZs, gRs, isIs, isRs, tagS, datRs, mkv, refV, fkS, isArr, tagOk, datI_mk, wrI_mk, wrA_mk, wrF_mk, wrJ_mk, List.length_cons, List.length_nil, List.getElem?_cons_zero, List.getElem?_cons_succ, List.getElem?_nil, ↓reduceIte, Nat.reduceAdd, Nat.reduceMul, Nat.reduceSub, Nat.reduceDiv, Nat.reduceMod, Nat.reduceLT, Nat.reduceLeDiff, Nat.reduceBEq, Nat.reduceEqDiff, Nat.zero_lt_succ, beq_self_eq_true, Bool.true_and, Bool.and_true, Bool.or_true, Bool.true_or, Bool.or_false, Bool.false_or, Bool.false_and, Bool.and_false, Bool.not_true, Bool.not_false, Bool.false_eq_true, Bool.true_eq_false, Bool.and_eq_true, Bool.or_eq_true, Bool.not_eq_true', decide_eq_true_eq, decide_eq_false_iff_not, decide_true, decide_false, and_self, true_and, and_true, or_true, true_or, or_false, false_or, and_false, false_and, or_self, reduceCtorEq, not_true_eq_false, not_false_eq_true, if_true, if_false, Int32.reduceAdd, Int32.reduceSub, Int32.reduceMul, Int32.reduceDiv, Int32.reduceMod, Int32.reduceLT, Int32.reduceLE, eqF1, eqF2, Int32.reduceOfNat, Int32.reduceOfInt, Int32.reduceToNatClampNeg, inb_lit, en_X9_undo, e_X9_undo_0, e_X9_undo_1, e_X9_undo_4, e_X9_undo_7, e_X9_undo_10, e_X9_undo_11, e_X9_undo_12, e_X9_undo_13, e_X9_undo_14, e_X9_undo_17, e_X9_undo_20, e_X9_undo_21, e_X9_undo_22, e_X9_undo_23, e_X9_undo_26, e_X9_undo_29, e_X9_undo_30, e_X9_undo_33, e_X9_undo_34, e_X9_undo_37, e_X9_undo_40, e_X9_undo_41, e_X9_undo_42, e_X9_undo_43, sh_1, sh_2, sh_3, sh_4, sh_7, sh_8, sh_9, sh_10, sh_11, sh_12, sh_13, sh_29, sh_35, sh_50, sh_53, sh_54, sh_55, sh_56, sh_77, sh_78, sh_79, sh_80, sh_81, sh_82, sh_83, sh_84, sh_85, sh_86, sh_88, f13, q9_within, h, h0]
    · rcases h3 with h | h
      · simp only [K_some, K_void, K_none, wA_ref, wA_null, isNull_null, isNull_ref, c_int, c_long, c_ref, c_null, c_float, catS_nil, catS_cons, fit_int, fit_bool, fit_long, isO_mk, len_mk, fld_mk, gI_mk, gI0_mk, gZ_mk, gR_mk, isI_mk, isR_mk, tag_mk, lenE_mk, datR_mk, isOs, lenOs, fldS, lenS, gIs, gI0s, gZs, gRs, isIs, isRs, tagS, datRs, mkv, refV, fkS, isArr, tagOk, datI_mk, wrI_mk, wrA_mk, wrF_mk, wrJ_mk, List.length_cons, List.length_nil, List.getElem?_cons_zero, List.getElem?_cons_succ, List.getElem?_nil, ↓reduceIte, Nat.reduceAdd, Nat.reduceMul, Nat.reduceSub, Nat.reduceDiv, Nat.reduceMod, Nat.reduceLT, Nat.reduceLeDiff, Nat.reduceBEq, Nat.reduceEqDiff, Nat.zero_lt_succ, beq_self_eq_true, Bool.true_and, Bool.and_true, Bool.or_true, Bool.true_or, Bool.or_false, Bool.false_or, Bool.false_and, Bool.and_false, Bool.not_true, Bool.not_false, Bool.false_eq_true, Bool.true_eq_false, Bool.and_eq_true, Bool.or_eq_true, Bool.not_eq_true', decide_eq_true_eq, decide_eq_false_iff_not, decide_true, decide_false, and_self, true_and, and_true, or_true, true_or, or_false, false_or, and_false, false_and, or_self, reduceCtorEq, not_true_eq_false, not_false_eq_true, if_true, if_false, Int32.reduceAdd, Int32.reduceSub, Int32.reduceMul, Int32.reduceDiv, Int32.reduceMod, Int32.reduceLT, Int32.reduceLE, eqF1, eqF2, Int32.reduceOfNat, Int32.reduceOfInt, Int32.reduceToNatClampNeg, inb_lit, en_X10_undo, e_X10_undo_0, e_X10_undo_1, e_X10_undo_2, e_X10_undo_3, e_X10_undo_4, e_X10_undo_7, e_X10_undo_9, e_X10_undo_10, e_X10_undo_11, e_X10_undo_14, e_X10_undo_17, e_X10_undo_18, e_X10_undo_19, e_X10_undo_20, e_X10_undo_23, e_X10_undo_25, e_X10_undo_26, e_X10_undo_27, e_X10_undo_28, e_X10_undo_29, e_X10_undo_30, e_X10_undo_33, e_X10_undo_36, e_X10_undo_37, e_X10_undo_39, e_X10_undo_40, e_X10_undo_43, e_X10_undo_44, e_X10_undo_47, e_X10_undo_48, e_X10_undo_51, e_X10_undo_53, e_X10_undo_54, e_X10_undo_55, e_X10_undo_56, e_X10_undo_59, e_X10_undo_62, e_X10_undo_66, e_X10_undo_69, e_X10_undo_71, e_X10_undo_72, e_X10_undo_73, e_X10_undo_74, sh_77, sh_78, sh_1, sh_2, sh_3, sh_4, sh_7, sh_8, sh_9, sh_10, sh_11, sh_12, sh_13, sh_29, sh_35, sh_50, sh_53, sh_54, sh_55, sh_56, sh_79, sh_80, sh_81, sh_82, sh_83, sh_84, sh_85, sh_86, sh_88, f12, qm_in, lt64_0, lt64, h]
      · by_cases h0 : x < 0 <;> simp only [K_some, K_void, K_none, wA_ref, wA_null, isNull_null, isNull_ref, c_int, c_long, c_ref, c_null, c_float, catS_nil, catS_cons, fit_int, fit_bool, fit_long, isO_mk, len_mk, fld_mk, gI_mk, gI0_mk, gZ_mk, gR_mk, isI_mk, isR_mk, tag_mk, lenE_mk, datR_mk, isOs, lenOs, fldS, lenS, gIs, gI0s, gZs, gRs, isIs, isRs, tagS, datRs, mkv, refV, fkS, isArr, tagOk, datI_mk, wrI_mk, wrA_mk, wrF_mk, wrJ_mk, List.length_cons, List.length_nil, List.getElem?_cons_zero, List.getElem?_cons_succ, List.getElem?_nil, ↓reduceIte, Nat.reduceAdd, Nat.reduceMul, Nat.reduceSub, Nat.reduceDiv, Nat.reduceMod, Nat.reduceLT, Nat.reduceLeDiff, Nat.reduceBEq, Nat.reduceEqDiff, Nat.zero_lt_succ, beq_self_eq_true, Bool.true_and, Bool.and_true, Bool.or_true, Bool.true_or, Bool.or_false, Bool.false_or, Bool.false_and, Bool.and_false, Bool.not_true, Bool.not_false, Bool.false_eq_true, Bool.true_eq_false, Bool.and_eq_true, Bool.or_eq_true, Bool.not_eq_true', decide_eq_true_eq, decide_eq_false_iff_not, decide_true, decide_false, and_self, true_and, and_true, or_true, true_or, or_false, false_or, and_false, false_and, or_self, reduceCtorEq, not_true_eq_false, not_false_eq_true, if_true, if_false, Int32.reduceAdd, Int32.reduceSub, Int32.reduceMul, Int32.reduceDiv, Int32.reduceMod, Int32.reduceLT, Int32.reduceLE, eqF1, eqF2, Int32.reduceOfNat, Int32.reduceOfInt, Int32.reduceToNatClampNeg, inb_lit, en_X10_undo, e_X10_undo_0, e_X10_undo_1, e_X10_undo_2, e_X10_undo_3, e_X10_undo_4, e_X10_undo_7, e_X10_undo_9, e_X10_undo_10, e_X10_undo_11, e_X10_undo_14, e_X10_undo_17, e_X10_undo_18, e_X10_undo_19, e_X10_undo_20, e_X10_undo_23, e_X10_undo_25, e_X10_undo_26, e_X10_undo_27, e_X10_undo_28, e_X10_undo_29, e_X10_undo_30, e_X10_undo_33, e_X10_undo_36, e_X10_undo_37, e_X10_undo_39, e_X10_undo_40, e_X10_undo_43, e_X10_undo_44, e_X10_undo_47, e_X10_undo_48, e_X10_undo_51, e_X10_undo_53, e_X10_undo_54, e_X10_undo_55, e_X10_undo_56, e_X10_undo_59, e_X10_undo_62, e_X10_undo_66, e_X10_undo_69, e_X10_undo_71, e_X10_undo_72, e_X10_undo_73, e_X10_undo_74, sh_77, sh_78, sh_1, sh_2, sh_3, sh_4, sh_7, sh_8, sh_9, sh_10, sh_11, sh_12, sh_13, sh_29, sh_35, sh_50, sh_53, sh_54, sh_55, sh_56, sh_79, sh_80, sh_81, sh_82, sh_83, sh_84, sh_85, sh_86, sh_88, f12, qm_in, lt64_0, lt64, h, h0]
end
