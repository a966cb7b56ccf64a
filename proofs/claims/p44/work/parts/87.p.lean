/-! THE LAW, 1552 to 1635: duels -/
theorem fo_rel {b : Bool} {f g : Nat → Nat} {δ : Nat} : ∀ {j i a a' : Nat}, (∀ c, i ≤ c → c < i + j → f c ≤ g c ∧ g c ≤ f c + δ) → a ≤ a' ∧ a' ≤ a + δ → fo b f j i a ≤ fo b g j i a' ∧ fo b g j i a' ≤ fo b f j i a + δ
  | 0, _, _, _, _, h => h
  | j + 1, i, a, a', hc, h => by
    unfold fo
    have h1 := hc i (Nat.le_refl _) (by omega)
    refine fo_rel (fun c h2 h3 => hc c (by omega) (by omega)) ?_
    cases b
    · simp only [Bool.false_eq_true, if_false]
      (repeat' split) <;> omega
    · simp only [if_true]
      (repeat' split) <;> omega
theorem fo_in {b : Bool} {f : Nat → Nat} {lo hi : Nat} : ∀ {j i a : Nat}, (∀ c, i ≤ c → c < i + j → lo ≤ f c ∧ f c ≤ hi) → lo ≤ a ∧ a ≤ hi → lo ≤ fo b f j i a ∧ fo b f j i a ≤ hi
  | 0, _, _, _, h => h
  | j + 1, i, a, hc, h => by
    unfold fo
    have h1 := hc i (Nat.le_refl _) (by omega)
    refine fo_in (fun c h2 h3 => hc c (by omega) (by omega)) ?_
    (repeat' split) <;> omega
theorem u3_b (x : Fin 13) : x.val ≤ (u3 x).val ∧ (u3 x).val ≤ x.val + 3 := by
  unfold u3
  simp only
  omega
theorem chT {c : Nat} {H : Nat → Fin 13} (h : c < 5) : totN H ≤ totN (chH true c H) ∧ totN (chH true c H) ≤ totN H + 6 := by
  have b0 := u3_b (H 0); have b1 := u3_b (H 1); have b2 := u3_b (H 2); have b3 := u3_b (H 3)
  have b4 := u3_b (H 4); have b5 := u3_b (H 5); have b6 := u3_b (H 6); have b7 := u3_b (H 7)
  obtain rfl | rfl | rfl | rfl | rfl : c = 0 ∨ c = 1 ∨ c = 2 ∨ c = 3 ∨ c = 4 := by omega
  all_goals simp only [chH, syH, totN, if_true, if_false, Nat.reduceEqDiff, Nat.reduceSub, Nat.reduceAdd, or_true, or_false, true_or, false_or, or_self, Nat.zero_add, Nat.succ_ne_zero, Nat.one_ne_zero, Nat.zero_ne_one] <;> omega
theorem chF {c : Nat} {H : Nat → Fin 13} (h : c < 9) : totN H ≤ totN (chH false c H) + 12 ∧ totN (chH false c H) ≤ totN H := by
  have z : ((0 : Fin 13)).val = 0 := rfl
  obtain rfl | rfl | rfl | rfl | rfl | rfl | rfl | rfl | rfl : c = 0 ∨ c = 1 ∨ c = 2 ∨ c = 3 ∨ c = 4 ∨ c = 5 ∨ c = 6 ∨ c = 7 ∨ c = 8 := by omega
  all_goals simp only [chH, ztH, totN, if_true, if_false, Bool.false_eq_true, Nat.reduceEqDiff, Nat.reduceSub, Nat.succ_ne_zero, Nat.one_ne_zero, Nat.zero_ne_one, z] <;> omega
theorem mm1T {H : Nat → Fin 13} : totN H ≤ mm 1 true H ∧ mm 1 true H ≤ totN H + 6 := by
  show totN H ≤ fo true (fun c => totN (chH true c H)) 4 1 (totN H) ∧ fo true (fun c => totN (chH true c H)) 4 1 (totN H) ≤ totN H + 6
  exact fo_in (fun c h1 h2 => chT (by omega)) ⟨Nat.le_refl _, by omega⟩
theorem mm1F {H : Nat → Fin 13} : mm 1 false H ≤ totN H ∧ totN H ≤ mm 1 false H + 12 := by
  show fo false (fun c => totN (chH false c H)) 8 1 (totN H) ≤ totN H ∧ totN H ≤ fo false (fun c => totN (chH false c H)) 8 1 (totN H) + 12
  have := fo_in (b := false) (f := fun c => totN (chH false c H)) (lo := totN H - 12) (hi := totN H) (j := 8) (i := 1) (a := totN H) (fun c h1 h2 => by
    have := chF (c := c) (H := H) (by omega)
    show totN H - 12 ≤ totN (chH false c H) ∧ totN (chH false c H) ≤ totN H
    omega) (by omega)
  omega
theorem mm2F {X : Nat → Fin 13} : mm 1 false X ≤ mm 2 false X ∧ mm 2 false X ≤ mm 1 false X + 6 := by
  show fo false (fun c => totN (chH false c X)) 8 1 (totN X) ≤ fo false (fun c => mm 1 true (chH false c X)) 8 1 (mm 1 true X) ∧ fo false (fun c => mm 1 true (chH false c X)) 8 1 (mm 1 true X) ≤ fo false (fun c => totN (chH false c X)) 8 1 (totN X) + 6
  exact fo_rel (fun c _ _ => mm1T) mm1T
theorem mm12 {H : Nat → Fin 13} : mm 2 true H ≤ mm 1 true H ∧ mm 1 true H ≤ mm 2 true H + 12 := by
  show fo true (fun c => mm 1 false (chH true c H)) 4 1 (mm 1 false H) ≤ fo true (fun c => totN (chH true c H)) 4 1 (totN H) ∧ fo true (fun c => totN (chH true c H)) 4 1 (totN H) ≤ fo true (fun c => mm 1 false (chH true c H)) 4 1 (mm 1 false H) + 12
  exact fo_rel (fun c _ _ => mm1F) mm1F
theorem mm23 {H : Nat → Fin 13} : mm 2 true H ≤ mm 3 true H ∧ mm 3 true H ≤ mm 2 true H + 6 := by
  show fo true (fun c => mm 1 false (chH true c H)) 4 1 (mm 1 false H) ≤ fo true (fun c => mm 2 false (chH true c H)) 4 1 (mm 2 false H) ∧ fo true (fun c => mm 2 false (chH true c H)) 4 1 (mm 2 false H) ≤ fo true (fun c => mm 1 false (chH true c H)) 4 1 (mm 1 false H) + 6
  exact fo_rel (fun c _ _ => mm2F) mm2F
theorem sub12' : ∀ a b : Fin 97, a.val ≤ b.val + 12 → ¬ Int32.ofNat b.val < Int32.ofNat a.val - 12 := by decide +kernel
section
variable {d N a b c k n m i μ l p : Nat} {T I I' : IT} {J : JT} {r v y z w : Int32} {M : Mem} {H H0 : Nat → Fin 13} {g f : FV} {D D0 : List (Nat × Nat)} {K : Nat → Option (List (Nat × Nat))} {x κ q s : Nat → Nat} {a0 a1 a2 a3 a4 a5 a6 a7 a8 a9 a10 a11 a12 a13 a14 a15 a16 a17 a18 a19 a20 a21 a22 a23 a24 a25 a26 a27 a28 a29 a30 a31 a32 a33 a34 a35 a36 a37 a38 a39 a40 a41 a42 a43 a44 : Value}
theorem lw_1552 (hW : WO T n l f H0 K D I) (h27 : a27.category = 1) : ∃ (I' : IT) (b28 b29 : Value), R (d + 11) iL_law 1552 [.ref 0, .ref 1, a2, a3, a4, .int (Int32.ofNat (totN (hF H0 D))), a6, a7, a8, a9, a10, a11, a12, a13, a14, a15, a16, a17, a18, a19, a20, a21, a22, a23, a24, a25, a26, a27, a28, a29, a30, a31, a32, a33, a34, a35, a36, a37, a38, a39, a40, a41, a42, a43, a44] [] (mk N I J) = R (d + 11) iL_law 1635 [.ref 0, .ref 1, a2, a3, a4, .int (Int32.ofNat (totN (hF H0 D))), a6, a7, a8, a9, a10, a11, a12, a13, a14, a15, a16, a17, a18, a19, a20, a21, a22, a23, a24, a25, a26, a27, b28, b29, a30, a31, a32, a33, a34, a35, a36, a37, a38, a39, a40, a41, a42, a43, a44] [] (mk N I' J) ∧ WO T n l f H0 K D I' ∧ b29.category = 1 := by
  obtain ⟨I1, c1, c2, -, -⟩ := z_duel (d := d + 1) (N := N) (J := J) (k := 1) hW (by omega)
  obtain ⟨I2, d1, d2, -, -⟩ := z_duel (d := d + 1) (N := N) (J := J) (k := 2) c2 (by omega)
  obtain ⟨I3, e1, e2, -, -⟩ := z_duel (d := d + 1) (N := N) (J := J) (k := 0) d2 (by omega)
  obtain ⟨I4, g1, g2, -, -⟩ := z_duel (d := d + 1) (N := N) (J := J) (k := 3) e2 (by omega)
  obtain ⟨I5, h1, h2, -, -⟩ := z_duel (d := d + 1) (N := N) (J := J) (k := 3) g2 (by omega)
  rw [show Int32.ofNat 1 = 1 from rfl] at c1
  rw [show Int32.ofNat 2 = 2 from rfl] at d1
  rw [show Int32.ofNat 0 = 0 from rfl, show mm 0 true (hF H0 D) = totN (hF H0 D) from rfl] at e1
  rw [show Int32.ofNat 3 = 3 from rfl] at g1 h1
  have m1 := mm1T (H := hF H0 D)
  have m2 := mm12 (H := hF H0 D)
  have m3 := mm23 (H := hF H0 D)
  have l0 := totN_le (hF H0 D)
  have l1 := mm_le (t := 1) (b := true) (H := hF H0 D)
  have l2 := mm_le (t := 2) (b := true) (H := hF H0 D)
  have l3 := mm_le (t := 3) (b := true) (H := hF H0 D)
  obtain ⟨A0, ha0⟩ : ∃ A0, totN (hF H0 D) = A0 := ⟨_, rfl⟩
  obtain ⟨A1, ha1⟩ : ∃ A1, mm 1 true (hF H0 D) = A1 := ⟨_, rfl⟩
  obtain ⟨A2, ha2⟩ : ∃ A2, mm 2 true (hF H0 D) = A2 := ⟨_, rfl⟩
  obtain ⟨A3, ha3⟩ : ∃ A3, mm 3 true (hF H0 D) = A3 := ⟨_, rfl⟩
  rw [ha0, ha1] at m1
  rw [ha1, ha2] at m2
  rw [ha2, ha3] at m3
  rw [ha0] at e1 l0
  rw [ha1] at c1 l1
  rw [ha2] at d1 l2
  rw [ha3] at g1 h1 l3
  rw [ha0]
  have q1 : ¬ Int32.ofNat A1 < Int32.ofNat A0 := fun h => by have := (oN_lt (by omega) (by omega)).mp h; omega
  have q2 : ¬ Int32.ofNat (A0 + 6) < Int32.ofNat A1 := fun h => by have := (oN_lt (by omega) (by omega)).mp h; omega
  have q3 : ¬ Int32.ofNat A1 < Int32.ofNat A2 := fun h => by have := (oN_lt (by omega) (by omega)).mp h; omega
  have q4 : ¬ Int32.ofNat A2 < Int32.ofNat A1 - 12 := sub12' ⟨A1, by omega⟩ ⟨A2, by omega⟩ m2.2
  have q5 : ¬ Int32.ofNat A3 < Int32.ofNat A2 := fun h => by have := (oN_lt (by omega) (by omega)).mp h; omega
  have q6 : ¬ Int32.ofNat (A2 + 6) < Int32.ofNat A3 := fun h => by have := (oN_lt (by omega) (by omega)).mp h; omega
  have s6 : ∀ a : Nat, Int32.ofNat a + 6 = Int32.ofNat (a + 6) := fun a => (Int32.ofNat_add a 6).symm
  refine ⟨I5, .int (Int32.ofNat A1), .int (Int32.ofNat A2), ?_, h2, rfl⟩
  simp only [K_some, K_void, K_none, wA_ref, wA_null, isNull_null, isNull_ref, c_int, c_long, c_ref, c_null, c_float, catS_nil, catS_cons, fit_int, fit_bool, fit_long, isO_mk, len_mk, fld_mk, gI_mk, gI0_mk, gZ_mk, gR_mk, isI_mk, isR_mk, tag_mk, lenE_mk, datR_mk, isOs, lenOs, fldS, lenS, gIs, gI0s, gZs, gRs, isIs, isRs, tagS, datRs, mkv, refV, fkS, isArr, tagOk, datI_mk, wrI_mk, wrA_mk, wrF_mk, wrJ_mk, List.length_cons, List.length_nil, List.getElem?_cons_zero, List.getElem?_cons_succ, List.getElem?_nil, ↓reduceIte, Nat.reduceAdd, Nat.reduceMul, Nat.reduceSub, Nat.reduceDiv, Nat.reduceMod, Nat.reduceLT, Nat.reduceLeDiff, Nat.reduceBEq, Nat.reduceEqDiff, Nat.zero_lt_succ, beq_self_eq_true, Bool.true_and, Bool.and_true, Bool.or_true, Bool.true_or, Bool.or_false, Bool.false_or, Bool.false_and, Bool.and_false, Bool.not_true, Bool.not_false, Bool.false_eq_true, Bool.true_eq_false, Bool.and_eq_true, Bool.or_eq_true, Bool.not_eq_true', decide_eq_true_eq, decide_eq_false_iff_not, decide_true, decide_false, and_self, true_and, and_true, or_true, true_or, or_false, false_or, and_false, false_and, or_self, reduceCtorEq, not_true_eq_false, not_false_eq_true, if_true, if_false, Int32.reduceAdd, Int32.reduceSub, Int32.reduceMul, Int32.reduceDiv, Int32.reduceMod, Int32.reduceLT, Int32.reduceLE, eqF1, eqF2, Int32.reduceOfNat, Int32.reduceOfInt, Int32.reduceToNatClampNeg, inb_lit, e_L_law_1552, e_L_law_1553, e_L_law_1554, e_L_law_1557, e_L_law_1559, e_L_law_1560, e_L_law_1561, e_L_law_1564, e_L_law_1566, e_L_law_1567, e_L_law_1568, e_L_law_1571, e_L_law_1573, e_L_law_1576, e_L_law_1578, e_L_law_1580, e_L_law_1583, e_L_law_1585, e_L_law_1587, e_L_law_1589, e_L_law_1590, e_L_law_1593, e_L_law_1595, e_L_law_1597, e_L_law_1600, e_L_law_1602, e_L_law_1604, e_L_law_1606, e_L_law_1607, e_L_law_1610, e_L_law_1611, e_L_law_1612, e_L_law_1615, e_L_law_1617, e_L_law_1620, e_L_law_1621, e_L_law_1622, e_L_law_1625, e_L_law_1627, e_L_law_1629, e_L_law_1630, e_L_law_1633, e_L_law_1634, sh_1, c1, d1, e1, g1, h1, s6, q1, q2, q3, q4, q5, q6, h27]
end
