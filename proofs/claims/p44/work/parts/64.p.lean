/-! FARMS READ: the whole of it on both sides -/
def rdV (T : Nat → Int32) (m : Nat) : Int32 × FV × Nat := if (hdr T m (fun _ => 0)).1 = true then whl T m 7 0 (hdr T m (fun _ => 0)).2.1 (hdr T m (fun _ => 0)).2.2 else (Int32.ofNat (hdr T m (fun _ => 0)).2.1, (fun _ => 0), 0)
theorem hdL_q {T : Nat → Int32} {m p : Nat} {V : FV} {q : Nat} (hq : q ≠ 8) : (hdL T m p V).2.2 q = V q := by
  unfold hdL
  (repeat' split) <;> first | rfl | (show put 8 _ V q = V q; unfold put; rw [if_neg hq])
theorem whl_ok {T : Nat → Int32} {m : Nat} : ∀ {j k p : Nat} {V : FV}, k + j = 7 → Vok V k → (whl T m j k p V).1 = -9 → (whl T m j k p V).2.2 ≤ 7 → Vok (whl T m j k p V).2.1 (whl T m j k p V).2.2
  | 0, k, p, V, hk, h, _, _ => h
  | j + 1, k, p, V, hk, h, hv, h7 => by
    unfold whl at hv h7 ⊢
    by_cases c : skp T (m - p) p < m
    · rw [if_pos c] at hv h7 ⊢
      by_cases c6 : k = 6
      · rw [if_pos c6]; exact h
      · rw [if_neg c6] at hv h7 ⊢
        by_cases ck : kbF (T (skp T (m - p) p)) = -9
        · rw [if_pos ck]; exact h
        · rw [if_neg ck] at hv h7 ⊢
          by_cases c1 : fg1 T m (skp T (m - p) p + 1) = true
          · rw [if_pos c1] at hv h7 ⊢
            by_cases c2 : fgB T m (skp T (m - p) p + 2) = true
            · rw [if_pos c2] at hv h7 ⊢
              refine whl_ok (by omega) ?_ hv h7
              obtain ⟨x, hx, e, -⟩ := fg_v (fg1_0 c1).1
              obtain ⟨v1, ⟨l, l1, l2, l3⟩, v3⟩ := h
              refine ⟨fun q hq => ?_, ⟨l, l1, l2, ?_⟩, fun i hi => ?_⟩
              · unfold put; rw [if_neg (by omega), if_neg (by omega), if_neg (by omega)]; exact v1 q hq
              · unfold put; rw [if_neg (by omega), if_neg (by omega), if_neg (by omega)]; exact l3
              · unfold put
                rw [if_neg (by omega)]
                by_cases z : i = k
                · rw [if_pos (by omega)]; exact ⟨x, hx, e⟩
                · rw [if_neg (by omega), if_neg (by omega)]; exact v3 i (by omega)
            · rw [if_neg c2]; exact h
          · rw [if_neg c1]; exact h
    · rw [if_neg c]; exact h
theorem whl_k {T : Nat → Int32} {m : Nat} (hm : m ≤ 60) : ∀ {j k p : Nat} {V : FV}, k + j = 7 → p ≤ m → (whl T m j k p V).1 = -9 → j ≠ 0 → 0 < (whl T m j k p V).2.2 ∧ (whl T m j k p V).2.2 ≤ 6
  | 0, k, p, V, _, _, _, hj => absurd rfl hj
  | j + 1, k, p, V, hk, hp, hv, _ => by
    have sk := skp_le (T := T) (j := m - p) (p := p)
    unfold whl at hv ⊢
    by_cases c : skp T (m - p) p < m
    · rw [if_pos c] at hv ⊢
      by_cases c6 : k = 6
      · rw [if_pos c6] at hv
        rw [n9p (by omega)] at hv; exact hv.elim
      · rw [if_neg c6] at hv ⊢
        by_cases ck : kbF (T (skp T (m - p) p)) = -9
        · rw [if_pos ck] at hv
          rw [n9p (by omega)] at hv; exact hv.elim
        · rw [if_neg ck] at hv ⊢
          by_cases c1 : fg1 T m (skp T (m - p) p + 1) = true
          · rw [if_pos c1] at hv ⊢
            by_cases c2 : fgB T m (skp T (m - p) p + 2) = true
            · rw [if_pos c2] at hv ⊢
              obtain ⟨x, hx, e, h2, -⟩ := fg_v c2
              exact whl_k hm (by omega) (by omega) hv (by omega)
            · rw [if_neg c2] at hv
              rw [n9p (by omega)] at hv; exact hv.elim
          · rw [if_neg c1] at hv
            rw [n9p (by omega)] at hv; exact hv.elim
    · rw [if_neg c] at hv ⊢
      by_cases z : k = 0
      · simp only [z, if_true] at hv
        rw [n9p (by omega)] at hv; exact hv.elim
      · show 0 < k ∧ k ≤ 6
        omega
theorem rdV_ok {T : Nat → Int32} {m : Nat} (hm : m ≤ 60) (h : (rdV T m).1 = -9) : Vok (rdV T m).2.1 (rdV T m).2.2 ∧ 0 < (rdV T m).2.2 ∧ (rdV T m).2.2 ≤ 6 := by
  have hk := hdr_ok (T := T) (m := m) (V := fun _ => 0)
  unfold rdV at h ⊢
  by_cases c : (hdr T m (fun _ => 0)).1 = true
  · rw [if_pos c] at h ⊢
    have k6 := whl_k hm (j := 7) (k := 0) (by omega) hk.1 h (by omega)
    exact ⟨whl_ok (by omega) (hk.2 c) h (by omega), k6⟩
  · rw [if_neg c] at h
    rw [n9p (by have := hk.1; omega)] at h; exact h.elim
section
variable {d N a b c k n m i μ l B t q S p : Nat} {I I0 : IT} {J : JT} {r v x y z w L κ σ : Int32} {A P Q : Int64} {u u6 u7 u8 : Value} {M : Mem} {H : Nat → Fin 13} {e T : Nat → Int32} {g f V : FV} {D D' : List (Nat × Nat)} {K : Nat → Option (List (Nat × Nat))} {I' : IT} {H0 : Nat → Fin 13}
theorem q4_brothers (hT : Tx I k m T) (h6 : I 29 6 = Int32.ofNat (skp T m 0)) : ∃ I', C (d + 5) iX4_readBrothers [.ref 29, .ref (69 + 2 * k)] (mk N I J) = some (some (.int (if (hdr T m (fun _ => 0)).1 = true then -9 else Int32.ofNat (hdr T m (fun _ => 0)).2.1)), mk N I' J) ∧ ((hdr T m (fun _ => 0)).1 = true → (∀ q, q < 8 → I' 31 q = (hdr T m (fun _ => 0)).2.2 q) ∧ I' 29 4 = (hdr T m (fun _ => 0)).2.2 8 ∧ I' 29 6 = Int32.ofNat (hdr T m (fun _ => 0)).2.1) ∧ (∀ b, frc b → I' b = I b) ∧ I' 29 5 = I 29 5 := by
  have sk := skp_le (T := T) (j := m) (p := 0)
  have hT0 := hT
  obtain ⟨hk, hm, h1, h2, h3, h4⟩ := hT
  have eh : hdr T m (fun _ => 0) = (if skp T m 0 < m ∧ T (skp T m 0) = 97 then (if (hd8 T m 8 0 (skp T m 0 + 1) (fun _ => 0)).1 = true then hdL T m (hd8 T m 8 0 (skp T m 0 + 1) (fun _ => 0)).2.1 (hd8 T m 8 0 (skp T m 0 + 1) (fun _ => 0)).2.2 else hd8 T m 8 0 (skp T m 0 + 1) (fun _ => 0)) else (false, skp T m 0, (fun _ => 0))) := by rfl
  rw [eh]
  generalize skp T m 0 = p at h6 sk
  by_cases hp : p < m
  · have q1 : Int32.ofNat p < Int32.ofNat m := (oN_lt (by omega) (by omega)).mpr (by omega)
    have q2 : inb (Int32.ofNat p) 60 = true := inb_ofNat (by omega) (by omega)
    have q3 : (Int32.ofNat p).toNatClampNeg = p := nat_ofNat (by omega)
    by_cases h97 : T p = 97
    · rw [if_pos (And.intro hp h97)]
      obtain ⟨I1, a1, a2, a3, a4⟩ := cb_loop (d := d) (N := N) (J := J) 8 0 (p + 1) (up I 29 6 (Int32.ofNat (p + 1))) (fun _ => 0) (by omega) (by omega) (tx_29 hT0) (up_same _ _ _ _) (fun q hq => by omega)
      rw [show Int32.ofNat 0 = 0 from rfl] at a1 a2
      rw [up_at, if_neg (by omega)] at a4
      have o8 := hd8_ok (T := T) (m := m) (j := 8) (t := 0) (p := p + 1) (V := fun _ => 0) (fun q hq => by omega) (by omega)
      have fr : ∀ b, frc b → I1 b = I b := fun b hb => by rw [a3 b hb, up_ne (by unfold frc at hb; omega)]
      by_cases c : (hd8 T m 8 0 (p + 1) (fun _ => 0)).1 = true
      · obtain ⟨b1, b2, b3⟩ := a1 c
        rw [if_pos c]
        obtain ⟨I2, l1, l2, l3, l4, l5⟩ := q4_limit (d := d) (N := N) (J := J) (V := (hd8 T m 8 0 (p + 1) (fun _ => 0)).2.2) (tx_frc (tx_29 hT0) a3) o8.1 b3
        refine ⟨I2, ?_, fun hh => ?_, fun b hb => by rw [l4 b hb, fr b hb], by rw [l5, a4]⟩
        · simp only [K_some, K_void, K_none, wA_ref, wA_null, isNull_null, isNull_ref, c_int, c_long, c_ref, c_null, c_float, catS_nil, catS_cons, fit_int, fit_bool, fit_long, isO_mk, len_mk, fld_mk, gI_mk, gI0_mk, gZ_mk, gR_mk, isI_mk, isR_mk, tag_mk, lenE_mk, datR_mk, isOs, lenOs, fldS, lenS, gIs, gI0s, gZs, gRs, isIs, isRs, tagS, datRs, mkv, refV, fkS, isArr, tagOk, datI_mk, wrI_mk, wrA_mk, wrF_mk, wrJ_mk, List.length_cons, List.length_nil, List.getElem?_cons_zero, List.getElem?_cons_succ, List.getElem?_nil, ↓reduceIte, Nat.reduceAdd, Nat.reduceMul, Nat.reduceSub, Nat.reduceDiv, Nat.reduceMod, Nat.reduceLT, Nat.reduceLeDiff, Nat.reduceBEq, Nat.reduceEqDiff, Nat.zero_lt_succ, beq_self_eq_true, Bool.true_and, Bool.and_true, Bool.or_true, Bool.true_or, Bool.or_false, Bool.false_or, Bool.false_and, Bool.and_false, Bool.not_true, Bool.not_false, Bool.false_eq_true, Bool.true_eq_false, Bool.and_eq_true, Bool.or_eq_true, Bool.not_eq_true', decide_eq_true_eq, decide_eq_false_iff_not, decide_true, decide_false, and_self, true_and, and_true, or_true, true_or, or_false, false_or, and_false, false_and, or_self, reduceCtorEq, not_true_eq_false, not_false_eq_true, if_true, if_false, Int32.reduceAdd, Int32.reduceSub, Int32.reduceMul, Int32.reduceDiv, Int32.reduceMod, Int32.reduceLT, Int32.reduceLE, eqF1, eqF2, Int32.reduceOfNat, Int32.reduceOfInt, Int32.reduceToNatClampNeg, inb_lit, en_X4_readBrothers, e_X4_readBrothers_0, e_X4_readBrothers_1, e_X4_readBrothers_4, e_X4_readBrothers_5, e_X4_readBrothers_8, e_X4_readBrothers_11, e_X4_readBrothers_12, e_X4_readBrothers_13, e_X4_readBrothers_16, e_X4_readBrothers_19, e_X4_readBrothers_21, e_X4_readBrothers_24, e_X4_readBrothers_25, e_X4_readBrothers_28, e_X4_readBrothers_29, e_X4_readBrothers_30, e_X4_readBrothers_31, e_X4_readBrothers_34, e_X4_readBrothers_35, e_X4_readBrothers_36, e_X4_readBrothers_39, e_X4_readBrothers_40, e_X4_readBrothers_42, e_X4_readBrothers_44, e_X4_readBrothers_47, e_X4_readBrothers_48, e_X4_readBrothers_49, e_X4_readBrothers_52, e_X4_readBrothers_55, e_X4_readBrothers_56, e_X4_readBrothers_59, e_X4_readBrothers_60, e_X4_readBrothers_61, e_X4_readBrothers_64, e_X4_readBrothers_65, e_X4_readBrothers_66, e_X4_readBrothers_67, e_X4_readBrothers_68, e_X4_readBrothers_69, e_X4_readBrothers_70, e_X4_readBrothers_71, e_X4_readBrothers_72, e_X4_readBrothers_75, e_X4_readBrothers_78, e_X4_readBrothers_81, e_X4_readBrothers_85, e_X4_readBrothers_86, e_X4_readBrothers_89, sh_29, sh_30, sh_1, sh_2, sh_3, sh_4, sh_7, sh_8, sh_9, sh_10, sh_11, sh_12, sh_13, sh_35, sh_50, sh_53, sh_54, sh_55, sh_56, sh_text hk, h1, h6, q1, q3, q5_get (sh_text hk) (sh_textB hk) (show 60 ≤ 4096 by omega) q2, h3 p hp, h97, oN_succ]
          refine b1.trans ?_
          rw [e_X4_readBrothers_84 wA_ref]
          simp only [K_some, K_void, K_none, wA_ref, wA_null, isNull_null, isNull_ref, c_int, c_long, c_ref, c_null, c_float, catS_nil, catS_cons, fit_int, fit_bool, fit_long, isO_mk, len_mk, fld_mk, gI_mk, gI0_mk, gZ_mk, gR_mk, isI_mk, isR_mk, tag_mk, lenE_mk, datR_mk, isOs, lenOs, fldS, lenS, gIs, gI0s, gZs, gRs, isIs, isRs, tagS, datRs, mkv, refV, fkS, isArr, tagOk, datI_mk, wrI_mk, wrA_mk, wrF_mk, wrJ_mk, List.length_cons, List.length_nil, List.getElem?_cons_zero, List.getElem?_cons_succ, List.getElem?_nil, ↓reduceIte, Nat.reduceAdd, Nat.reduceMul, Nat.reduceSub, Nat.reduceDiv, Nat.reduceMod, Nat.reduceLT, Nat.reduceLeDiff, Nat.reduceBEq, Nat.reduceEqDiff, Nat.zero_lt_succ, beq_self_eq_true, Bool.true_and, Bool.and_true, Bool.or_true, Bool.true_or, Bool.or_false, Bool.false_or, Bool.false_and, Bool.and_false, Bool.not_true, Bool.not_false, Bool.false_eq_true, Bool.true_eq_false, Bool.and_eq_true, Bool.or_eq_true, Bool.not_eq_true', decide_eq_true_eq, decide_eq_false_iff_not, decide_true, decide_false, and_self, true_and, and_true, or_true, true_or, or_false, false_or, and_false, false_and, or_self, reduceCtorEq, not_true_eq_false, not_false_eq_true, if_true, if_false, Int32.reduceAdd, Int32.reduceSub, Int32.reduceMul, Int32.reduceDiv, Int32.reduceMod, Int32.reduceLT, Int32.reduceLE, eqF1, eqF2, Int32.reduceOfNat, Int32.reduceOfInt, Int32.reduceToNatClampNeg, inb_lit, e_X4_readBrothers_0, e_X4_readBrothers_1, e_X4_readBrothers_4, e_X4_readBrothers_5, e_X4_readBrothers_8, e_X4_readBrothers_11, e_X4_readBrothers_12, e_X4_readBrothers_13, e_X4_readBrothers_16, e_X4_readBrothers_19, e_X4_readBrothers_21, e_X4_readBrothers_24, e_X4_readBrothers_25, e_X4_readBrothers_28, e_X4_readBrothers_29, e_X4_readBrothers_30, e_X4_readBrothers_31, e_X4_readBrothers_34, e_X4_readBrothers_35, e_X4_readBrothers_36, e_X4_readBrothers_39, e_X4_readBrothers_40, e_X4_readBrothers_42, e_X4_readBrothers_44, e_X4_readBrothers_47, e_X4_readBrothers_48, e_X4_readBrothers_49, e_X4_readBrothers_52, e_X4_readBrothers_55, e_X4_readBrothers_56, e_X4_readBrothers_59, e_X4_readBrothers_60, e_X4_readBrothers_61, e_X4_readBrothers_64, e_X4_readBrothers_65, e_X4_readBrothers_66, e_X4_readBrothers_67, e_X4_readBrothers_68, e_X4_readBrothers_69, e_X4_readBrothers_70, e_X4_readBrothers_71, e_X4_readBrothers_72, e_X4_readBrothers_75, e_X4_readBrothers_78, e_X4_readBrothers_81, e_X4_readBrothers_85, e_X4_readBrothers_86, e_X4_readBrothers_89, sh_29, sh_30, sh_1, sh_2, sh_3, sh_4, sh_7, sh_8, sh_9, sh_10, sh_11, sh_12, sh_13, sh_35, sh_50, sh_53, sh_54, sh_55, sh_56, l1]
        · obtain ⟨m1, m2⟩ := l2 hh
          exact ⟨fun q hq => by rw [l3, hdL_q (by omega)]; exact b2 q hq, m1, m2⟩
      · rw [if_neg c, if_neg c]
        refine ⟨I1, ?_, fun hh => absurd hh c, fr, a4⟩
        simp only [K_some, K_void, K_none, wA_ref, wA_null, isNull_null, isNull_ref, c_int, c_long, c_ref, c_null, c_float, catS_nil, catS_cons, fit_int, fit_bool, fit_long, isO_mk, len_mk, fld_mk, gI_mk, gI0_mk, gZ_mk, gR_mk, isI_mk, isR_mk, tag_mk, lenE_mk, datR_mk, isOs, lenOs, fldS, lenS, gIs, gI0s, gZs, gRs, isIs, isRs, tagS, datRs, mkv, refV, fkS, isArr, tagOk, datI_mk, wrI_mk, wrA_mk, wrF_mk, wrJ_mk, List.length_cons, List.length_nil, List.getElem?_cons_zero, List.getElem?_cons_succ, List.getElem?_nil, ↓reduceIte, Nat.reduceAdd, Nat.reduceMul, Nat.reduceSub, Nat.reduceDiv, Nat.reduceMod, Nat.reduceLT, Nat.reduceLeDiff, Nat.reduceBEq, Nat.reduceEqDiff, Nat.zero_lt_succ, beq_self_eq_true, Bool.true_and, Bool.and_true, Bool.or_true, Bool.true_or, Bool.or_false, Bool.false_or, Bool.false_and, Bool.and_false, Bool.not_true, Bool.not_false, Bool.false_eq_true, Bool.true_eq_false, Bool.and_eq_true, Bool.or_eq_true, Bool.not_eq_true', decide_eq_true_eq, decide_eq_false_iff_not, decide_true, decide_false, and_self, true_and, and_true, or_true, true_or, or_false, false_or, and_false, false_and, or_self, reduceCtorEq, not_true_eq_false, not_false_eq_true, if_true, if_false, Int32.reduceAdd, Int32.reduceSub, Int32.reduceMul, Int32.reduceDiv, Int32.reduceMod, Int32.reduceLT, Int32.reduceLE, eqF1, eqF2, Int32.reduceOfNat, Int32.reduceOfInt, Int32.reduceToNatClampNeg, inb_lit, en_X4_readBrothers, e_X4_readBrothers_0, e_X4_readBrothers_1, e_X4_readBrothers_4, e_X4_readBrothers_5, e_X4_readBrothers_8, e_X4_readBrothers_11, e_X4_readBrothers_12, e_X4_readBrothers_13, e_X4_readBrothers_16, e_X4_readBrothers_19, e_X4_readBrothers_21, e_X4_readBrothers_24, e_X4_readBrothers_25, e_X4_readBrothers_28, e_X4_readBrothers_29, e_X4_readBrothers_30, e_X4_readBrothers_31, e_X4_readBrothers_34, e_X4_readBrothers_35, e_X4_readBrothers_36, e_X4_readBrothers_39, e_X4_readBrothers_40, e_X4_readBrothers_42, e_X4_readBrothers_44, e_X4_readBrothers_47, e_X4_readBrothers_48, e_X4_readBrothers_49, e_X4_readBrothers_52, e_X4_readBrothers_55, e_X4_readBrothers_56, e_X4_readBrothers_59, e_X4_readBrothers_60, e_X4_readBrothers_61, e_X4_readBrothers_64, e_X4_readBrothers_65, e_X4_readBrothers_66, e_X4_readBrothers_67, e_X4_readBrothers_68, e_X4_readBrothers_69, e_X4_readBrothers_70, e_X4_readBrothers_71, e_X4_readBrothers_72, e_X4_readBrothers_75, e_X4_readBrothers_78, e_X4_readBrothers_81, e_X4_readBrothers_85, e_X4_readBrothers_86, e_X4_readBrothers_89, sh_29, sh_30, sh_1, sh_2, sh_3, sh_4, sh_7, sh_8, sh_9, sh_10, sh_11, sh_12, sh_13, sh_35, sh_50, sh_53, sh_54, sh_55, sh_56, sh_text hk, h1, h6, q1, q3, q5_get (sh_text hk) (sh_textB hk) (show 60 ≤ 4096 by omega) q2, h3 p hp, h97, oN_succ]
        exact a2 c
    · rw [if_neg (show ¬ (p < m ∧ T p = 97) from fun h => h97 h.2)]
      refine ⟨I, ?_, fun h => (by cases h), fun _ _ => rfl, rfl⟩
      simp only [K_some, K_void, K_none, wA_ref, wA_null, isNull_null, isNull_ref, c_int, c_long, c_ref, c_null, c_float, catS_nil, catS_cons, fit_int, fit_bool, fit_long, isO_mk, len_mk, fld_mk, gI_mk, gI0_mk, gZ_mk, gR_mk, isI_mk, isR_mk, tag_mk, lenE_mk, datR_mk, isOs, lenOs, fldS, lenS, gIs, gI0s, gZs, gRs, isIs, isRs, tagS, datRs, mkv, refV, fkS, isArr, tagOk, datI_mk, wrI_mk, wrA_mk, wrF_mk, wrJ_mk, List.length_cons, List.length_nil, List.getElem?_cons_zero, List.getElem?_cons_succ, List.getElem?_nil, ↓reduceIte, Nat.reduceAdd, Nat.reduceMul, Nat.reduceSub, Nat.reduceDiv, Nat.reduceMod, Nat.reduceLT, Nat.reduceLeDiff, Nat.reduceBEq, Nat.reduceEqDiff, Nat.zero_lt_succ, beq_self_eq_true, Bool.true_and, Bool.and_true, Bool.or_true, Bool.true_or, Bool.or_false, Bool.false_or, Bool.false_and, Bool.and_false, Bool.not_true, Bool.not_false, Bool.false_eq_true, Bool.true_eq_false, Bool.and_eq_true, Bool.or_eq_true, Bool.not_eq_true', decide_eq_true_eq, decide_eq_false_iff_not, decide_true, decide_false, and_self, true_and, and_true, or_true, true_or, or_false, false_or, and_false, false_and, or_self, reduceCtorEq, not_true_eq_false, not_false_eq_true, if_true, if_false, Int32.reduceAdd, Int32.reduceSub, Int32.reduceMul, Int32.reduceDiv, Int32.reduceMod, Int32.reduceLT, Int32.reduceLE, eqF1, eqF2, Int32.reduceOfNat, Int32.reduceOfInt, Int32.reduceToNatClampNeg, inb_lit, en_X4_readBrothers, e_X4_readBrothers_0, e_X4_readBrothers_1, e_X4_readBrothers_4, e_X4_readBrothers_5, e_X4_readBrothers_8, e_X4_readBrothers_11, e_X4_readBrothers_12, e_X4_readBrothers_13, e_X4_readBrothers_16, e_X4_readBrothers_19, e_X4_readBrothers_21, e_X4_readBrothers_24, e_X4_readBrothers_25, e_X4_readBrothers_28, e_X4_readBrothers_29, e_X4_readBrothers_30, e_X4_readBrothers_31, e_X4_readBrothers_34, e_X4_readBrothers_35, e_X4_readBrothers_36, e_X4_readBrothers_39, e_X4_readBrothers_40, e_X4_readBrothers_42, e_X4_readBrothers_44, e_X4_readBrothers_47, e_X4_readBrothers_48, e_X4_readBrothers_49, e_X4_readBrothers_52, e_X4_readBrothers_55, e_X4_readBrothers_56, e_X4_readBrothers_59, e_X4_readBrothers_60, e_X4_readBrothers_61, e_X4_readBrothers_64, e_X4_readBrothers_65, e_X4_readBrothers_66, e_X4_readBrothers_67, e_X4_readBrothers_68, e_X4_readBrothers_69, e_X4_readBrothers_70, e_X4_readBrothers_71, e_X4_readBrothers_72, e_X4_readBrothers_75, e_X4_readBrothers_78, e_X4_readBrothers_81, e_X4_readBrothers_85, e_X4_readBrothers_86, e_X4_readBrothers_89, sh_29, sh_30, sh_1, sh_2, sh_3, sh_4, sh_7, sh_8, sh_9, sh_10, sh_11, sh_12, sh_13, sh_35, sh_50, sh_53, sh_54, sh_55, sh_56, sh_text hk, h1, h6, q1, q3, q5_get (sh_text hk) (sh_textB hk) (show 60 ≤ 4096 by omega) q2, h3 p hp, h97]
      try rfl
  · rw [if_neg (show ¬ (p < m ∧ T p = 97) from fun h => hp h.1)]
    have q1 : ¬ Int32.ofNat p < Int32.ofNat m := fun h => by have := (oN_lt (by omega) (by omega)).mp h; omega
    refine ⟨I, ?_, fun h => (by cases h), fun _ _ => rfl, rfl⟩
    simp only [K_some, K_void, K_none, wA_ref, wA_null, isNull_null, isNull_ref, c_int, c_long, c_ref, c_null, c_float, catS_nil, catS_cons, fit_int, fit_bool, fit_long, isO_mk, len_mk, fld_mk, gI_mk, gI0_mk, gZ_mk, gR_mk, isI_mk, isR_mk, tag_mk, lenE_mk, datR_mk, isOs, lenOs, fldS, lenS, gIs, gI0s, gZs, gRs, isIs, isRs, tagS, datRs, mkv, refV, fkS, isArr, tagOk, datI_mk, wrI_mk, wrA_mk, wrF_mk, wrJ_mk, List.length_cons, List.length_nil, List.getElem?_cons_zero, List.getElem?_cons_succ, List.getElem?_nil, ↓reduceIte, Nat.reduceAdd, Nat.reduceMul, Nat.reduceSub, Nat.reduceDiv, Nat.reduceMod, Nat.reduceLT, Nat.reduceLeDiff, Nat.reduceBEq, Nat.reduceEqDiff, Nat.zero_lt_succ, beq_self_eq_true, Bool.true_and, Bool.and_true, Bool.or_true, Bool.true_or, Bool.or_false, Bool.false_or, Bool.false_and, Bool.and_false, Bool.not_true, Bool.not_false, Bool.false_eq_true, Bool.true_eq_false, Bool.and_eq_true, Bool.or_eq_true, Bool.not_eq_true', decide_eq_true_eq, decide_eq_false_iff_not, decide_true, decide_false, and_self, true_and, and_true, or_true, true_or, or_false, false_or, and_false, false_and, or_self, reduceCtorEq, not_true_eq_false, not_false_eq_true, if_true, if_false, Int32.reduceAdd, Int32.reduceSub, Int32.reduceMul, Int32.reduceDiv, Int32.reduceMod, Int32.reduceLT, Int32.reduceLE, eqF1, eqF2, Int32.reduceOfNat, Int32.reduceOfInt, Int32.reduceToNatClampNeg, inb_lit, en_X4_readBrothers, e_X4_readBrothers_0, e_X4_readBrothers_1, e_X4_readBrothers_4, e_X4_readBrothers_5, e_X4_readBrothers_8, e_X4_readBrothers_11, e_X4_readBrothers_12, e_X4_readBrothers_13, e_X4_readBrothers_16, e_X4_readBrothers_19, e_X4_readBrothers_21, e_X4_readBrothers_24, e_X4_readBrothers_25, e_X4_readBrothers_28, e_X4_readBrothers_29, e_X4_readBrothers_30, e_X4_readBrothers_31, e_X4_readBrothers_34, e_X4_readBrothers_35, e_X4_readBrothers_36, e_X4_readBrothers_39, e_X4_readBrothers_40, e_X4_readBrothers_42, e_X4_readBrothers_44, e_X4_readBrothers_47, e_X4_readBrothers_48, e_X4_readBrothers_49, e_X4_readBrothers_52, e_X4_readBrothers_55, e_X4_readBrothers_56, e_X4_readBrothers_59, e_X4_readBrothers_60, e_X4_readBrothers_61, e_X4_readBrothers_64, e_X4_readBrothers_65, e_X4_readBrothers_66, e_X4_readBrothers_67, e_X4_readBrothers_68, e_X4_readBrothers_69, e_X4_readBrothers_70, e_X4_readBrothers_71, e_X4_readBrothers_72, e_X4_readBrothers_75, e_X4_readBrothers_78, e_X4_readBrothers_81, e_X4_readBrothers_85, e_X4_readBrothers_86, e_X4_readBrothers_89, sh_29, sh_30, sh_1, sh_2, sh_3, sh_4, sh_7, sh_8, sh_9, sh_10, sh_11, sh_12, sh_13, sh_35, sh_50, sh_53, sh_54, sh_55, sh_56, sh_text hk, h1, h6, q1]
    try rfl
theorem cw_loop : ∀ (j n p : Nat) (I : IT) (V : FV), n + j = 7 → p ≤ m → Tx I k m T → I 29 6 = Int32.ofNat p → RCk I V n → ∃ I', R (d + 5) iX4_readWheels 2 [.ref 29, .ref (69 + 2 * k), .int (Int32.ofNat n)] [] (mk N I J) = some (some (.int (whl T m j n p V).1), mk N I' J) ∧ ((whl T m j n p V).1 = -9 → RCk I' (whl T m j n p V).2.1 (whl T m j n p V).2.2) ∧ ∀ b, frc b → I' b = I b := by
  intro j
  induction j with
  | zero =>
    intro n p I V hn hp hT h6 hR
    obtain rfl : n = 7 := by omega
    refine ⟨I, ?_, fun _ => hR, fun _ _ => rfl⟩
    rw [e_X4_readWheels_2]
    simp only [K_some, K_void, K_none, wA_ref, wA_null, isNull_null, isNull_ref, c_int, c_long, c_ref, c_null, c_float, catS_nil, catS_cons, fit_int, fit_bool, fit_long, isO_mk, len_mk, fld_mk, gI_mk, gI0_mk, gZ_mk, gR_mk, isI_mk, isR_mk, tag_mk, lenE_mk, datR_mk, isOs, lenOs, fldS, lenS, gIs, gI0s, gZs, gRs, isIs, isRs, tagS, datRs, mkv, refV, fkS, isArr, tagOk, datI_mk, wrI_mk, wrA_mk, wrF_mk, wrJ_mk, List.length_cons, List.length_nil, List.getElem?_cons_zero, List.getElem?_cons_succ, List.getElem?_nil, ↓reduceIte, Nat.reduceAdd, Nat.reduceMul, Nat.reduceSub, Nat.reduceDiv, Nat.reduceMod, Nat.reduceLT, Nat.reduceLeDiff, Nat.reduceBEq, Nat.reduceEqDiff, Nat.zero_lt_succ, beq_self_eq_true, Bool.true_and, Bool.and_true, Bool.or_true, Bool.true_or, Bool.or_false, Bool.false_or, Bool.false_and, Bool.and_false, Bool.not_true, Bool.not_false, Bool.false_eq_true, Bool.true_eq_false, Bool.and_eq_true, Bool.or_eq_true, Bool.not_eq_true', decide_eq_true_eq, decide_eq_false_iff_not, decide_true, decide_false, and_self, true_and, and_true, or_true, true_or, or_false, false_or, and_false, false_and, or_self, reduceCtorEq, not_true_eq_false, not_false_eq_true, if_true, if_false, Int32.reduceAdd, Int32.reduceSub, Int32.reduceMul, Int32.reduceDiv, Int32.reduceMod, Int32.reduceLT, Int32.reduceLE, eqF1, eqF2, Int32.reduceOfNat, Int32.reduceOfInt, Int32.reduceToNatClampNeg, inb_lit, e_X4_readWheels_0, e_X4_readWheels_1, e_X4_readWheels_3, e_X4_readWheels_5, e_X4_readWheels_8, e_X4_readWheels_9, e_X4_readWheels_10, e_X4_readWheels_13, e_X4_readWheels_14, e_X4_readWheels_17, e_X4_readWheels_18, e_X4_readWheels_21, e_X4_readWheels_24, e_X4_readWheels_25, e_X4_readWheels_28, e_X4_readWheels_29, e_X4_readWheels_32, e_X4_readWheels_35, e_X4_readWheels_37, e_X4_readWheels_38, e_X4_readWheels_39, e_X4_readWheels_41, e_X4_readWheels_44, e_X4_readWheels_45, e_X4_readWheels_46, e_X4_readWheels_47, e_X4_readWheels_50, e_X4_readWheels_53, e_X4_readWheels_54, e_X4_readWheels_57, e_X4_readWheels_58, e_X4_readWheels_59, e_X4_readWheels_60, e_X4_readWheels_61, e_X4_readWheels_62, e_X4_readWheels_65, e_X4_readWheels_68, e_X4_readWheels_71, e_X4_readWheels_73, whl]
  | succ j ih =>
    intro n p I V hn hp hT h6 hR
    have sk := skp_le (T := T) (j := m - p) (p := p)
    have hT0 := hT
    obtain ⟨hk, hm, h1, h2, h3, h4⟩ := hT
    have nl : (6 < Int32.ofNat n) = False := eq_false fun h => by have := (oN_lt (j := 6) (k := n) (by omega) (by omega)).mp h; omega
    have n6 : (Int32.ofNat n = 6) = (n = 6) := propext (oN_inj (j := n) (k := 6) (by omega) (by omega))
    have n0 : (Int32.ofNat n = 0) = (n = 0) := propext (oN_inj (j := n) (k := 0) (by omega) (by omega))
    have skq := q4_skip (d := d + 2) (N := N) (J := J) hT0 hp h6
    unfold whl
    generalize skp T (m - p) p = p' at skq sk
    have hT1 : Tx (up I 29 6 (Int32.ofNat p')) k m T := tx_29 hT0
    have x61 : up I 29 6 (Int32.ofNat p') 29 6 = Int32.ofNat p' := up_same _ _ _ _
    have e1 : ∀ q, q ≠ 6 → up I 29 6 (Int32.ofNat p') 29 q = I 29 q := fun q hq => by rw [up_at, if_neg (fun h => hq h.2)]
    have h1' : up I 29 6 (Int32.ofNat p') (69 + 2 * k) 2 = Int32.ofNat m := hT1.2.2.1
    obtain ⟨r1, r2, r3, r4⟩ := hR
    have hR1 : RCk (up I 29 6 (Int32.ofNat p')) V n := ⟨fun q hq => by rw [up_ne (by omega)]; exact r1 q hq, by rw [e1 4 (by omega)]; exact r2, by rw [e1 5 (by omega)]; exact r3, fun i hi => by rw [up_ne (by omega), up_ne (by omega), up_ne (by omega)]; exact r4 i hi⟩
    have fr1 : ∀ b, frc b → up I 29 6 (Int32.ofNat p') b = I b := fun b hb => up_ne (by unfold frc at hb; omega)
    by_cases c : p' < m
    · rw [if_pos c]
      have q1 : Int32.ofNat p' < Int32.ofNat m := (oN_lt (by omega) (by omega)).mpr (by omega)
      by_cases c6 : n = 6
      · rw [if_pos c6]
        refine ⟨up I 29 6 (Int32.ofNat p'), ?_, fun h => absurd h (by rw [n9p (by omega)]; exact not_false), fr1⟩
        rw [e_X4_readWheels_2]
        simp only [K_some, K_void, K_none, wA_ref, wA_null, isNull_null, isNull_ref, c_int, c_long, c_ref, c_null, c_float, catS_nil, catS_cons, fit_int, fit_bool, fit_long, isO_mk, len_mk, fld_mk, gI_mk, gI0_mk, gZ_mk, gR_mk, isI_mk, isR_mk, tag_mk, lenE_mk, datR_mk, isOs, lenOs, fldS, lenS, gIs, gI0s, gZs, gRs, isIs, isRs, tagS, datRs, mkv, refV, fkS, isArr, tagOk, datI_mk, wrI_mk, wrA_mk, wrF_mk, wrJ_mk, List.length_cons, List.length_nil, List.getElem?_cons_zero, List.getElem?_cons_succ, List.getElem?_nil, ↓reduceIte, Nat.reduceAdd, Nat.reduceMul, Nat.reduceSub, Nat.reduceDiv, Nat.reduceMod, Nat.reduceLT, Nat.reduceLeDiff, Nat.reduceBEq, Nat.reduceEqDiff, Nat.zero_lt_succ, beq_self_eq_true, Bool.true_and, Bool.and_true, Bool.or_true, Bool.true_or, Bool.or_false, Bool.false_or, Bool.false_and, Bool.and_false, Bool.not_true, Bool.not_false, Bool.false_eq_true, Bool.true_eq_false, Bool.and_eq_true, Bool.or_eq_true, Bool.not_eq_true', decide_eq_true_eq, decide_eq_false_iff_not, decide_true, decide_false, and_self, true_and, and_true, or_true, true_or, or_false, false_or, and_false, false_and, or_self, reduceCtorEq, not_true_eq_false, not_false_eq_true, if_true, if_false, Int32.reduceAdd, Int32.reduceSub, Int32.reduceMul, Int32.reduceDiv, Int32.reduceMod, Int32.reduceLT, Int32.reduceLE, eqF1, eqF2, Int32.reduceOfNat, Int32.reduceOfInt, Int32.reduceToNatClampNeg, inb_lit, e_X4_readWheels_0, e_X4_readWheels_1, e_X4_readWheels_3, e_X4_readWheels_5, e_X4_readWheels_8, e_X4_readWheels_9, e_X4_readWheels_10, e_X4_readWheels_13, e_X4_readWheels_14, e_X4_readWheels_17, e_X4_readWheels_18, e_X4_readWheels_21, e_X4_readWheels_24, e_X4_readWheels_25, e_X4_readWheels_28, e_X4_readWheels_29, e_X4_readWheels_32, e_X4_readWheels_35, e_X4_readWheels_37, e_X4_readWheels_38, e_X4_readWheels_39, e_X4_readWheels_41, e_X4_readWheels_44, e_X4_readWheels_45, e_X4_readWheels_46, e_X4_readWheels_47, e_X4_readWheels_50, e_X4_readWheels_53, e_X4_readWheels_54, e_X4_readWheels_57, e_X4_readWheels_58, e_X4_readWheels_59, e_X4_readWheels_60, e_X4_readWheels_61, e_X4_readWheels_62, e_X4_readWheels_65, e_X4_readWheels_68, e_X4_readWheels_71, e_X4_readWheels_73, sh_29, sh_1, sh_2, sh_3, sh_4, sh_7, sh_8, sh_9, sh_10, sh_11, sh_12, sh_13, sh_35, sh_50, sh_53, sh_54, sh_55, sh_56, nl, skq, sh_text hk, x61, h1', q1, n6, c6]
      · rw [if_neg c6]
        obtain ⟨I1, w1, w2, w3, w4, w5, w6, w7⟩ := q4_wheel (d := d + 1) (N := N) (J := J) (n := n) hT1 c x61 (by omega)
        by_cases cw : ¬ kbF (T p') = -9 ∧ fg1 T m (p' + 1) = true ∧ fgB T m (p' + 2) = true
        · obtain ⟨x, hx, ex, hp2, -⟩ := fg_v cw.2.2
          rw [if_pos cw] at w1
          obtain ⟨y1, y2, y3⟩ := w7 cw
          rw [if_neg cw.1, if_pos cw.2.1, if_pos cw.2.2] at w6 ⊢
          obtain ⟨I', a1, a2, a3⟩ := ih (n + 1) (p' + 3) (up I1 29 5 (Int32.ofNat (n + 1))) (put (22 + n) (T (p' + 2) - 48) (put (16 + n) (T (p' + 1) - 48) (put (10 + n) (kbF (T p')) V))) (by omega) (by omega) (tx_29 (tx_frc hT1 w2)) (by rw [up_at, if_neg (by omega)]; exact w6) ⟨fun q hq => by
              rw [up_ne (by omega), w3]
              unfold put
              rw [if_neg (by omega), if_neg (by omega), if_neg (by omega)]
              exact hR1.1 q hq, by
              rw [up_at, if_neg (by omega), w4]
              unfold put
              rw [if_neg (by omega), if_neg (by omega), if_neg (by omega)]
              exact hR1.2.1, by rw [up_same], fun i hi => by
              rw [up_ne (by omega), up_ne (by omega), up_ne (by omega), y1, y2, y3]
              unfold put
              by_cases z : i = n
              · subst z
                refine ⟨?_, ?_, ?_⟩
                · rw [if_pos rfl, if_neg (by omega), if_neg (by omega), if_pos rfl]
                · rw [if_pos rfl, if_neg (by omega), if_pos rfl]
                · rw [if_pos rfl, if_pos rfl]
              · obtain ⟨b1, b2, b3⟩ := hR1.2.2.2 i (by omega)
                refine ⟨?_, ?_, ?_⟩
                · rw [if_neg z, if_neg (by omega), if_neg (by omega), if_neg (by omega)]; exact b1
                · rw [if_neg z, if_neg (by omega), if_neg (by omega), if_neg (by omega)]; exact b2
                · rw [if_neg z, if_neg (by omega), if_neg (by omega), if_neg (by omega)]; exact b3⟩
          refine ⟨I', ?_, a2, fun b hb => by rw [a3 b hb, up_ne (by unfold frc at hb; omega), w2 b hb, fr1 b hb]⟩
          rw [e_X4_readWheels_2]
          simp only [K_some, K_void, K_none, wA_ref, wA_null, isNull_null, isNull_ref, c_int, c_long, c_ref, c_null, c_float, catS_nil, catS_cons, fit_int, fit_bool, fit_long, isO_mk, len_mk, fld_mk, gI_mk, gI0_mk, gZ_mk, gR_mk, isI_mk, isR_mk, tag_mk, lenE_mk, datR_mk, isOs, lenOs, fldS, lenS, gIs, gI0s, gZs, gRs, isIs, isRs, tagS, datRs, mkv, refV, fkS, isArr, tagOk, datI_mk, wrI_mk, wrA_mk, wrF_mk, wrJ_mk, List.length_cons, List.length_nil, List.getElem?_cons_zero, List.getElem?_cons_succ, List.getElem?_nil, ↓reduceIte, Nat.reduceAdd, Nat.reduceMul, Nat.reduceSub, Nat.reduceDiv, Nat.reduceMod, Nat.reduceLT, Nat.reduceLeDiff, Nat.reduceBEq, Nat.reduceEqDiff, Nat.zero_lt_succ, beq_self_eq_true, Bool.true_and, Bool.and_true, Bool.or_true, Bool.true_or, Bool.or_false, Bool.false_or, Bool.false_and, Bool.and_false, Bool.not_true, Bool.not_false, Bool.false_eq_true, Bool.true_eq_false, Bool.and_eq_true, Bool.or_eq_true, Bool.not_eq_true', decide_eq_true_eq, decide_eq_false_iff_not, decide_true, decide_false, and_self, true_and, and_true, or_true, true_or, or_false, false_or, and_false, false_and, or_self, reduceCtorEq, not_true_eq_false, not_false_eq_true, if_true, if_false, Int32.reduceAdd, Int32.reduceSub, Int32.reduceMul, Int32.reduceDiv, Int32.reduceMod, Int32.reduceLT, Int32.reduceLE, eqF1, eqF2, Int32.reduceOfNat, Int32.reduceOfInt, Int32.reduceToNatClampNeg, inb_lit, e_X4_readWheels_0, e_X4_readWheels_1, e_X4_readWheels_3, e_X4_readWheels_5, e_X4_readWheels_8, e_X4_readWheels_9, e_X4_readWheels_10, e_X4_readWheels_13, e_X4_readWheels_14, e_X4_readWheels_17, e_X4_readWheels_18, e_X4_readWheels_21, e_X4_readWheels_24, e_X4_readWheels_25, e_X4_readWheels_28, e_X4_readWheels_29, e_X4_readWheels_32, e_X4_readWheels_35, e_X4_readWheels_37, e_X4_readWheels_38, e_X4_readWheels_39, e_X4_readWheels_41, e_X4_readWheels_44, e_X4_readWheels_45, e_X4_readWheels_46, e_X4_readWheels_47, e_X4_readWheels_50, e_X4_readWheels_53, e_X4_readWheels_54, e_X4_readWheels_57, e_X4_readWheels_58, e_X4_readWheels_59, e_X4_readWheels_60, e_X4_readWheels_61, e_X4_readWheels_62, e_X4_readWheels_65, e_X4_readWheels_68, e_X4_readWheels_71, e_X4_readWheels_73, sh_29, sh_1, sh_2, sh_3, sh_4, sh_7, sh_8, sh_9, sh_10, sh_11, sh_12, sh_13, sh_35, sh_50, sh_53, sh_54, sh_55, sh_56, nl, skq, sh_text hk, x61, h1', q1, n6, c6, w1, oN_succ]
          exact a1
        · rw [if_neg cw] at w1
          refine ⟨I1, ?_, fun h => ?_, fun b hb => by rw [w2 b hb, fr1 b hb]⟩
          · rw [e_X4_readWheels_2]
            simp only [K_some, K_void, K_none, wA_ref, wA_null, isNull_null, isNull_ref, c_int, c_long, c_ref, c_null, c_float, catS_nil, catS_cons, fit_int, fit_bool, fit_long, isO_mk, len_mk, fld_mk, gI_mk, gI0_mk, gZ_mk, gR_mk, isI_mk, isR_mk, tag_mk, lenE_mk, datR_mk, isOs, lenOs, fldS, lenS, gIs, gI0s, gZs, gRs, isIs, isRs, tagS, datRs, mkv, refV, fkS, isArr, tagOk, datI_mk, wrI_mk, wrA_mk, wrF_mk, wrJ_mk, List.length_cons, List.length_nil, List.getElem?_cons_zero, List.getElem?_cons_succ, List.getElem?_nil, ↓reduceIte, Nat.reduceAdd, Nat.reduceMul, Nat.reduceSub, Nat.reduceDiv, Nat.reduceMod, Nat.reduceLT, Nat.reduceLeDiff, Nat.reduceBEq, Nat.reduceEqDiff, Nat.zero_lt_succ, beq_self_eq_true, Bool.true_and, Bool.and_true, Bool.or_true, Bool.true_or, Bool.or_false, Bool.false_or, Bool.false_and, Bool.and_false, Bool.not_true, Bool.not_false, Bool.false_eq_true, Bool.true_eq_false, Bool.and_eq_true, Bool.or_eq_true, Bool.not_eq_true', decide_eq_true_eq, decide_eq_false_iff_not, decide_true, decide_false, and_self, true_and, and_true, or_true, true_or, or_false, false_or, and_false, false_and, or_self, reduceCtorEq, not_true_eq_false, not_false_eq_true, if_true, if_false, Int32.reduceAdd, Int32.reduceSub, Int32.reduceMul, Int32.reduceDiv, Int32.reduceMod, Int32.reduceLT, Int32.reduceLE, eqF1, eqF2, Int32.reduceOfNat, Int32.reduceOfInt, Int32.reduceToNatClampNeg, inb_lit, e_X4_readWheels_0, e_X4_readWheels_1, e_X4_readWheels_3, e_X4_readWheels_5, e_X4_readWheels_8, e_X4_readWheels_9, e_X4_readWheels_10, e_X4_readWheels_13, e_X4_readWheels_14, e_X4_readWheels_17, e_X4_readWheels_18, e_X4_readWheels_21, e_X4_readWheels_24, e_X4_readWheels_25, e_X4_readWheels_28, e_X4_readWheels_29, e_X4_readWheels_32, e_X4_readWheels_35, e_X4_readWheels_37, e_X4_readWheels_38, e_X4_readWheels_39, e_X4_readWheels_41, e_X4_readWheels_44, e_X4_readWheels_45, e_X4_readWheels_46, e_X4_readWheels_47, e_X4_readWheels_50, e_X4_readWheels_53, e_X4_readWheels_54, e_X4_readWheels_57, e_X4_readWheels_58, e_X4_readWheels_59, e_X4_readWheels_60, e_X4_readWheels_61, e_X4_readWheels_62, e_X4_readWheels_65, e_X4_readWheels_68, e_X4_readWheels_71, e_X4_readWheels_73, sh_29, sh_1, sh_2, sh_3, sh_4, sh_7, sh_8, sh_9, sh_10, sh_11, sh_12, sh_13, sh_35, sh_50, sh_53, sh_54, sh_55, sh_56, nl, skq, sh_text hk, x61, h1', q1, n6, c6, w1, w6]
            congr 3
            by_cases g1 : kbF (T p') = -9
            · rw [if_pos g1, if_pos g1]
            · rw [if_neg g1, if_neg g1]
              by_cases g2 : fg1 T m (p' + 1) = true
              · rw [if_pos g2, if_pos g2]
                by_cases g3 : fgB T m (p' + 2) = true
                · exact absurd ⟨g1, g2, g3⟩ cw
                · rw [if_neg g3, if_neg g3]
              · rw [if_neg g2, if_neg g2]
          · exfalso
            by_cases g1 : kbF (T p') = -9
            · rw [if_pos g1] at h; rw [n9p (by omega)] at h; exact h
            · rw [if_neg g1] at h
              by_cases g2 : fg1 T m (p' + 1) = true
              · rw [if_pos g2] at h
                by_cases g3 : fgB T m (p' + 2) = true
                · exact absurd ⟨g1, g2, g3⟩ cw
                · rw [if_neg g3] at h; rw [n9p (by omega)] at h; exact h
              · rw [if_neg g2] at h; rw [n9p (by omega)] at h; exact h
    · rw [if_neg c]
      have q1 : ¬ Int32.ofNat p' < Int32.ofNat m := fun h => by have := (oN_lt (by omega) (by omega)).mp h; omega
      refine ⟨up I 29 6 (Int32.ofNat p'), ?_, fun _ => hR1, fr1⟩
      rw [e_X4_readWheels_2]
      by_cases z : n = 0
      · simp only [K_some, K_void, K_none, wA_ref, wA_null, isNull_null, isNull_ref, c_int, c_long, c_ref, c_null, c_float, catS_nil, catS_cons, fit_int, fit_bool, fit_long, isO_mk, len_mk, fld_mk, gI_mk, gI0_mk, gZ_mk, gR_mk, isI_mk, isR_mk, tag_mk, lenE_mk, datR_mk, isOs, lenOs, fldS, lenS, gIs, gI0s, gZs, gRs, isIs, isRs, tagS, datRs, mkv, refV, fkS, isArr, tagOk, datI_mk, wrI_mk, wrA_mk, wrF_mk, wrJ_mk, List.length_cons, List.length_nil, List.getElem?_cons_zero, List.getElem?_cons_succ, List.getElem?_nil, ↓reduceIte, Nat.reduceAdd, Nat.reduceMul, Nat.reduceSub, Nat.reduceDiv, Nat.reduceMod, Nat.reduceLT, Nat.reduceLeDiff, Nat.reduceBEq, Nat.reduceEqDiff, Nat.zero_lt_succ, beq_self_eq_true, Bool.true_and, Bool.and_true, Bool.or_true, Bool.true_or, Bool.or_false, Bool.false_or, Bool.false_and, Bool.and_false, Bool.not_true, Bool.not_false, Bool.false_eq_true, Bool.true_eq_false, Bool.and_eq_true, Bool.or_eq_true, Bool.not_eq_true', decide_eq_true_eq, decide_eq_false_iff_not, decide_true, decide_false, and_self, true_and, and_true, or_true, true_or, or_false, false_or, and_false, false_and, or_self, reduceCtorEq, not_true_eq_false, not_false_eq_true, if_true, if_false, Int32.reduceAdd, Int32.reduceSub, Int32.reduceMul, Int32.reduceDiv, Int32.reduceMod, Int32.reduceLT, Int32.reduceLE, eqF1, eqF2, Int32.reduceOfNat, Int32.reduceOfInt, Int32.reduceToNatClampNeg, inb_lit, e_X4_readWheels_0, e_X4_readWheels_1, e_X4_readWheels_3, e_X4_readWheels_5, e_X4_readWheels_8, e_X4_readWheels_9, e_X4_readWheels_10, e_X4_readWheels_13, e_X4_readWheels_14, e_X4_readWheels_17, e_X4_readWheels_18, e_X4_readWheels_21, e_X4_readWheels_24, e_X4_readWheels_25, e_X4_readWheels_28, e_X4_readWheels_29, e_X4_readWheels_32, e_X4_readWheels_35, e_X4_readWheels_37, e_X4_readWheels_38, e_X4_readWheels_39, e_X4_readWheels_41, e_X4_readWheels_44, e_X4_readWheels_45, e_X4_readWheels_46, e_X4_readWheels_47, e_X4_readWheels_50, e_X4_readWheels_53, e_X4_readWheels_54, e_X4_readWheels_57, e_X4_readWheels_58, e_X4_readWheels_59, e_X4_readWheels_60, e_X4_readWheels_61, e_X4_readWheels_62, e_X4_readWheels_65, e_X4_readWheels_68, e_X4_readWheels_71, e_X4_readWheels_73, sh_29, sh_1, sh_2, sh_3, sh_4, sh_7, sh_8, sh_9, sh_10, sh_11, sh_12, sh_13, sh_35, sh_50, sh_53, sh_54, sh_55, sh_56, nl, skq, sh_text hk, x61, h1', q1, n0, z]
      · simp only [K_some, K_void, K_none, wA_ref, wA_null, isNull_null, isNull_ref, c_int, c_long, c_ref, c_null, c_float, catS_nil, catS_cons, fit_int, fit_bool, fit_long, isO_mk, len_mk, fld_mk, gI_mk, gI0_mk, gZ_mk, gR_mk, isI_mk, isR_mk, tag_mk, lenE_mk, datR_mk, isOs, lenOs, fldS, lenS, gIs, gI0s, gZs, gRs, isIs, isRs, tagS, datRs, mkv, refV, fkS, isArr, tagOk, datI_mk, wrI_mk, wrA_mk, wrF_mk, wrJ_mk, List.length_cons, List.length_nil, List.getElem?_cons_zero, List.getElem?_cons_succ, List.getElem?_nil, ↓reduceIte, Nat.reduceAdd, Nat.reduceMul, Nat.reduceSub, Nat.reduceDiv, Nat.reduceMod, Nat.reduceLT, Nat.reduceLeDiff, Nat.reduceBEq, Nat.reduceEqDiff, Nat.zero_lt_succ, beq_self_eq_true, Bool.true_and, Bool.and_true, Bool.or_true, Bool.true_or, Bool.or_false, Bool.false_or, Bool.false_and, Bool.and_false, Bool.not_true, Bool.not_false, Bool.false_eq_true, Bool.true_eq_false, Bool.and_eq_true, Bool.or_eq_true, Bool.not_eq_true', decide_eq_true_eq, decide_eq_false_iff_not, decide_true, decide_false, and_self, true_and, and_true, or_true, true_or, or_false, false_or, and_false, false_and, or_self, reduceCtorEq, not_true_eq_false, not_false_eq_true, if_true, if_false, Int32.reduceAdd, Int32.reduceSub, Int32.reduceMul, Int32.reduceDiv, Int32.reduceMod, Int32.reduceLT, Int32.reduceLE, eqF1, eqF2, Int32.reduceOfNat, Int32.reduceOfInt, Int32.reduceToNatClampNeg, inb_lit, e_X4_readWheels_0, e_X4_readWheels_1, e_X4_readWheels_3, e_X4_readWheels_5, e_X4_readWheels_8, e_X4_readWheels_9, e_X4_readWheels_10, e_X4_readWheels_13, e_X4_readWheels_14, e_X4_readWheels_17, e_X4_readWheels_18, e_X4_readWheels_21, e_X4_readWheels_24, e_X4_readWheels_25, e_X4_readWheels_28, e_X4_readWheels_29, e_X4_readWheels_32, e_X4_readWheels_35, e_X4_readWheels_37, e_X4_readWheels_38, e_X4_readWheels_39, e_X4_readWheels_41, e_X4_readWheels_44, e_X4_readWheels_45, e_X4_readWheels_46, e_X4_readWheels_47, e_X4_readWheels_50, e_X4_readWheels_53, e_X4_readWheels_54, e_X4_readWheels_57, e_X4_readWheels_58, e_X4_readWheels_59, e_X4_readWheels_60, e_X4_readWheels_61, e_X4_readWheels_62, e_X4_readWheels_65, e_X4_readWheels_68, e_X4_readWheels_71, e_X4_readWheels_73, sh_29, sh_1, sh_2, sh_3, sh_4, sh_7, sh_8, sh_9, sh_10, sh_11, sh_12, sh_13, sh_35, sh_50, sh_53, sh_54, sh_55, sh_56, nl, skq, sh_text hk, x61, h1', q1, n0, z]
theorem q4_read (hT : Tx I k m T) : ∃ I', C (d + 7) iX4_read [.ref 29, .ref (69 + 2 * k)] (mk N I J) = some (some (.int (rdV T m).1), mk N I' J) ∧ ((rdV T m).1 = -9 → RCk I' (rdV T m).2.1 (rdV T m).2.2) ∧ ∀ b, frc b → I' b = I b := by
  have hk := hT.1
  have hT1 : Tx (up (up I 29 6 0) 29 5 0) k m T := tx_29 (tx_29 hT)
  have x6 : up (up I 29 6 0) 29 5 0 29 6 = Int32.ofNat 0 := by rw [up_at, if_neg (by omega), up_same]; rfl
  have skq := q4_skip (d := d + 3) (N := N) (J := J) hT1 (Nat.zero_le m) x6
  rw [Nat.sub_zero] at skq
  obtain ⟨I0, hI0⟩ : ∃ I0, I0 = up (up (up I 29 6 0) 29 5 0) 29 6 (Int32.ofNat (skp T m 0)) := ⟨_, rfl⟩
  rw [← hI0] at skq
  have hT2 : Tx I0 k m T := by rw [hI0]; exact tx_29 hT1
  obtain ⟨I1, b1, b2, b3, b4⟩ := q4_brothers (d := d + 1) (N := N) (J := J) hT2 (by rw [hI0, up_same])
  have hd := hdr_ok (T := T) (m := m) (V := fun _ => 0)
  have f0 : ∀ b, frc b → I0 b = I b := fun b hb => by unfold frc at hb; rw [hI0, up_ne (by omega), up_ne (by omega), up_ne (by omega)]
  unfold rdV
  by_cases c : (hdr T m (fun _ => 0)).1 = true
  · rw [if_pos c] at b1 ⊢
    obtain ⟨c1, c2, c3⟩ := b2 c
    have x5 : I1 29 5 = Int32.ofNat 0 := by rw [b4, hI0, up_at, if_neg (by omega), up_same]; rfl
    obtain ⟨I2, w1, w2, w3⟩ := cw_loop (d := d) (N := N) (J := J) 7 0 (hdr T m (fun _ => 0)).2.1 I1 (hdr T m (fun _ => 0)).2.2 (by omega) hd.1 (tx_frc hT2 b3) c3 ⟨c1, c2, x5, fun i hi => by omega⟩
    refine ⟨I2, ?_, w2, fun b hb => by rw [w3 b hb, b3 b hb, f0 b hb]⟩
    rw [show Int32.ofNat 0 = 0 from rfl] at w1
    simp only [K_some, K_void, K_none, wA_ref, wA_null, isNull_null, isNull_ref, c_int, c_long, c_ref, c_null, c_float, catS_nil, catS_cons, fit_int, fit_bool, fit_long, isO_mk, len_mk, fld_mk, gI_mk, gI0_mk, gZ_mk, gR_mk, isI_mk, isR_mk, tag_mk, lenE_mk, datR_mk, isOs, lenOs, fldS, lenS, gIs, gI0s, gZs, gRs, isIs, isRs, tagS, datRs, mkv, refV, fkS, isArr, tagOk, datI_mk, wrI_mk, wrA_mk, wrF_mk, wrJ_mk, List.length_cons, List.length_nil, List.getElem?_cons_zero, List.getElem?_cons_succ, List.getElem?_nil, ↓reduceIte, Nat.reduceAdd, Nat.reduceMul, Nat.reduceSub, Nat.reduceDiv, Nat.reduceMod, Nat.reduceLT, Nat.reduceLeDiff, Nat.reduceBEq, Nat.reduceEqDiff, Nat.zero_lt_succ, beq_self_eq_true, Bool.true_and, Bool.and_true, Bool.or_true, Bool.true_or, Bool.or_false, Bool.false_or, Bool.false_and, Bool.and_false, Bool.not_true, Bool.not_false, Bool.false_eq_true, Bool.true_eq_false, Bool.and_eq_true, Bool.or_eq_true, Bool.not_eq_true', decide_eq_true_eq, decide_eq_false_iff_not, decide_true, decide_false, and_self, true_and, and_true, or_true, true_or, or_false, false_or, and_false, false_and, or_self, reduceCtorEq, not_true_eq_false, not_false_eq_true, if_true, if_false, Int32.reduceAdd, Int32.reduceSub, Int32.reduceMul, Int32.reduceDiv, Int32.reduceMod, Int32.reduceLT, Int32.reduceLE, eqF1, eqF2, Int32.reduceOfNat, Int32.reduceOfInt, Int32.reduceToNatClampNeg, inb_lit, en_X4_read, e_X4_read_0, e_X4_read_1, e_X4_read_2, e_X4_read_5, e_X4_read_6, e_X4_read_7, e_X4_read_10, e_X4_read_11, e_X4_read_12, e_X4_read_15, e_X4_read_16, e_X4_read_17, e_X4_read_20, e_X4_read_21, e_X4_read_22, e_X4_read_24, e_X4_read_27, e_X4_read_28, e_X4_read_29, e_X4_read_32, e_X4_read_35, e_X4_read_36, sh_29, sh_1, sh_2, sh_3, sh_4, sh_7, sh_8, sh_9, sh_10, sh_11, sh_12, sh_13, sh_35, sh_50, sh_53, sh_54, sh_55, sh_56, en_X4_readWheels, e_X4_readWheels_0, e_X4_readWheels_1, e_X4_readWheels_3, e_X4_readWheels_5, e_X4_readWheels_8, e_X4_readWheels_9, e_X4_readWheels_10, e_X4_readWheels_13, e_X4_readWheels_14, e_X4_readWheels_17, e_X4_readWheels_18, e_X4_readWheels_21, e_X4_readWheels_24, e_X4_readWheels_25, e_X4_readWheels_28, e_X4_readWheels_29, e_X4_readWheels_32, e_X4_readWheels_35, e_X4_readWheels_37, e_X4_readWheels_38, e_X4_readWheels_39, e_X4_readWheels_41, e_X4_readWheels_44, e_X4_readWheels_45, e_X4_readWheels_46, e_X4_readWheels_47, e_X4_readWheels_50, e_X4_readWheels_53, e_X4_readWheels_54, e_X4_readWheels_57, e_X4_readWheels_58, e_X4_readWheels_59, e_X4_readWheels_60, e_X4_readWheels_61, e_X4_readWheels_62, e_X4_readWheels_65, e_X4_readWheels_68, e_X4_readWheels_71, e_X4_readWheels_73, skq, b1]
    rw [w1]
    simp only [K_some, K_void, K_none, wA_ref, wA_null, isNull_null, isNull_ref, c_int, c_long, c_ref, c_null, c_float, catS_nil, catS_cons, fit_int, fit_bool, fit_long, isO_mk, len_mk, fld_mk, gI_mk, gI0_mk, gZ_mk, gR_mk, isI_mk, isR_mk, tag_mk, lenE_mk, datR_mk, isOs, lenOs, fldS, lenS, gIs, gI0s, gZs, gRs, isIs, isRs, tagS, datRs, mkv, refV, fkS, isArr, tagOk, datI_mk, wrI_mk, wrA_mk, wrF_mk, wrJ_mk, List.length_cons, List.length_nil, List.getElem?_cons_zero, List.getElem?_cons_succ, List.getElem?_nil, ↓reduceIte, Nat.reduceAdd, Nat.reduceMul, Nat.reduceSub, Nat.reduceDiv, Nat.reduceMod, Nat.reduceLT, Nat.reduceLeDiff, Nat.reduceBEq, Nat.reduceEqDiff, Nat.zero_lt_succ, beq_self_eq_true, Bool.true_and, Bool.and_true, Bool.or_true, Bool.true_or, Bool.or_false, Bool.false_or, Bool.false_and, Bool.and_false, Bool.not_true, Bool.not_false, Bool.false_eq_true, Bool.true_eq_false, Bool.and_eq_true, Bool.or_eq_true, Bool.not_eq_true', decide_eq_true_eq, decide_eq_false_iff_not, decide_true, decide_false, and_self, true_and, and_true, or_true, true_or, or_false, false_or, and_false, false_and, or_self, reduceCtorEq, not_true_eq_false, not_false_eq_true, if_true, if_false, Int32.reduceAdd, Int32.reduceSub, Int32.reduceMul, Int32.reduceDiv, Int32.reduceMod, Int32.reduceLT, Int32.reduceLE, eqF1, eqF2, Int32.reduceOfNat, Int32.reduceOfInt, Int32.reduceToNatClampNeg, inb_lit, e_X4_read_0, e_X4_read_1, e_X4_read_2, e_X4_read_5, e_X4_read_6, e_X4_read_7, e_X4_read_10, e_X4_read_11, e_X4_read_12, e_X4_read_15, e_X4_read_16, e_X4_read_17, e_X4_read_20, e_X4_read_21, e_X4_read_22, e_X4_read_24, e_X4_read_27, e_X4_read_28, e_X4_read_29, e_X4_read_32, e_X4_read_35, e_X4_read_36]
  · rw [if_neg c] at b1 ⊢
    refine ⟨I1, ?_, fun h => (by have h' : Int32.ofNat (hdr T m (fun _ => 0)).2.1 = -9 := h; rw [n9p (by have := hT.2.1; omega)] at h'; exact h'.elim), fun b hb => by rw [b3 b hb, f0 b hb]⟩
    simp only [K_some, K_void, K_none, wA_ref, wA_null, isNull_null, isNull_ref, c_int, c_long, c_ref, c_null, c_float, catS_nil, catS_cons, fit_int, fit_bool, fit_long, isO_mk, len_mk, fld_mk, gI_mk, gI0_mk, gZ_mk, gR_mk, isI_mk, isR_mk, tag_mk, lenE_mk, datR_mk, isOs, lenOs, fldS, lenS, gIs, gI0s, gZs, gRs, isIs, isRs, tagS, datRs, mkv, refV, fkS, isArr, tagOk, datI_mk, wrI_mk, wrA_mk, wrF_mk, wrJ_mk, List.length_cons, List.length_nil, List.getElem?_cons_zero, List.getElem?_cons_succ, List.getElem?_nil, ↓reduceIte, Nat.reduceAdd, Nat.reduceMul, Nat.reduceSub, Nat.reduceDiv, Nat.reduceMod, Nat.reduceLT, Nat.reduceLeDiff, Nat.reduceBEq, Nat.reduceEqDiff, Nat.zero_lt_succ, beq_self_eq_true, Bool.true_and, Bool.and_true, Bool.or_true, Bool.true_or, Bool.or_false, Bool.false_or, Bool.false_and, Bool.and_false, Bool.not_true, Bool.not_false, Bool.false_eq_true, Bool.true_eq_false, Bool.and_eq_true, Bool.or_eq_true, Bool.not_eq_true', decide_eq_true_eq, decide_eq_false_iff_not, decide_true, decide_false, and_self, true_and, and_true, or_true, true_or, or_false, false_or, and_false, false_and, or_self, reduceCtorEq, not_true_eq_false, not_false_eq_true, if_true, if_false, Int32.reduceAdd, Int32.reduceSub, Int32.reduceMul, Int32.reduceDiv, Int32.reduceMod, Int32.reduceLT, Int32.reduceLE, eqF1, eqF2, Int32.reduceOfNat, Int32.reduceOfInt, Int32.reduceToNatClampNeg, inb_lit, en_X4_read, e_X4_read_0, e_X4_read_1, e_X4_read_2, e_X4_read_5, e_X4_read_6, e_X4_read_7, e_X4_read_10, e_X4_read_11, e_X4_read_12, e_X4_read_15, e_X4_read_16, e_X4_read_17, e_X4_read_20, e_X4_read_21, e_X4_read_22, e_X4_read_24, e_X4_read_27, e_X4_read_28, e_X4_read_29, e_X4_read_32, e_X4_read_35, e_X4_read_36, sh_29, sh_1, sh_2, sh_3, sh_4, sh_7, sh_8, sh_9, sh_10, sh_11, sh_12, sh_13, sh_35, sh_50, sh_53, sh_54, sh_55, sh_56, skq, b1, n9p (show (hdr T m (fun _ => 0)).2.1 ≤ 4096 by have := hT.2.1; omega)]
end
