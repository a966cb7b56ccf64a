/-! THE LAW, 1635 to 1941: chances -/
def wS (p k : Nat) : Nat → Nat → Nat
  | 0, _ => 0
  | j + 1, way => wtN way p k 0 1 + wS p k j (way + 1)
theorem wS_tot' : ∀ (p : Fin 13) (k : Fin 7), wS p.val k.val (2 ^ k.val) 0 = 12 ^ k.val := by decide +kernel
theorem wS_tot {p k : Nat} (hp : p ≤ 12) (hk : k ≤ 6) : wS p k (2 ^ k) 0 = 12 ^ k := wS_tot' ⟨p, by omega⟩ ⟨k, by omega⟩
theorem way_0' : ∀ (k : Fin 7) (w : Fin 64), w.val < 2 ^ k.val → wtN w.val 0 k.val 0 1 = 0 ∨ w.val = 0 := by decide +kernel
theorem way_12' : ∀ (k : Fin 7) (w : Fin 64), w.val < 2 ^ k.val → wtN w.val 12 k.val 0 1 = 0 ∨ w.val = 2 ^ k.val - 1 := by decide +kernel
theorem two6 {k : Nat} (hk : k ≤ 6) : 2 ^ k ≤ 64 := Nat.pow_le_pow_right (n := 2) (by omega) hk
theorem sN_b {b : Bool} {l k μ p lo hi : Nat} {H : Nat → Fin 13} : ∀ (j way s : Nat), (∀ w, way ≤ w → w < way + j → wtN w p k 0 1 = 0 ∨ (lo ≤ vN b l (wH w μ k 0 H) ∧ vN b l (wH w μ k 0 H) ≤ hi)) → s + lo * wS p k j way ≤ sN2 b l k μ p H j way s ∧ sN2 b l k μ p H j way s ≤ s + hi * wS p k j way := by
  intro j
  induction j with
  | zero => intro way s _; exact ⟨Nat.le_refl _, Nat.le_add_right _ _⟩
  | succ j ih =>
    intro way s hc
    obtain ⟨h1, h2⟩ := ih (way + 1) (s + wtN way p k 0 1 * vN b l (wH way μ k 0 H)) (fun w a b => hc w (by omega) (by omega))
    unfold sN2 wS
    rw [Nat.mul_add, Nat.mul_add]
    have h3 : lo * wtN way p k 0 1 ≤ wtN way p k 0 1 * vN b l (wH way μ k 0 H) ∧ wtN way p k 0 1 * vN b l (wH way μ k 0 H) ≤ hi * wtN way p k 0 1 := by
      rcases hc way (Nat.le_refl _) (by omega) with h | ⟨h, h'⟩
      · rw [h]; simp
      · rw [Nat.mul_comm lo, Nat.mul_comm hi]
        exact ⟨Nat.mul_le_mul_left _ h, Nat.mul_le_mul_left _ h'⟩
    obtain ⟨h4, h5⟩ := h3
    generalize wtN way p k 0 1 * vN b l (wH way μ k 0 H) = X at h1 h2 h4 h5 ⊢
    generalize lo * wtN way p k 0 1 = Y at h4 ⊢
    generalize hi * wtN way p k 0 1 = Z at h5 ⊢
    generalize lo * wS p k j (way + 1) = Y2 at h1 ⊢
    generalize hi * wS p k j (way + 1) = Z2 at h2 ⊢
    omega
def saH (μ : Nat) : Nat → (Nat → Fin 13) → Nat → Fin 13
  | 0, H => H
  | j + 1, H => saH μ j (pS (μ + 1) H)
theorem wH_0 {μ : Nat} : ∀ (j d : Nat) (H : Nat → Fin 13), wH 0 μ j d H = itH j H
  | 0, _, _ => rfl
  | j + 1, d, H => by
    unfold wH itH
    rw [Nat.zero_testBit, if_neg (by decide)]
    exact wH_0 j (d + 1) _
theorem wH_1 {μ k : Nat} : ∀ (j d : Nat) (H : Nat → Fin 13), d + j ≤ k → wH (2 ^ k - 1) μ j d H = saH μ j H
  | 0, _, _, _ => rfl
  | j + 1, d, H, h => by
    unfold wH saH
    rw [Nat.testBit_two_pow_sub_one, if_pos (by simp; omega)]
    exact wH_1 j (d + 1) _ (by omega)
theorem dn_mono {j : Nat} {x y : Fin 13} (h : x.val ≤ y.val) : (dn j x).val ≤ (dn j y).val := by
  unfold dn; simp only; omega
theorem pd_mono {H H' : Nat → Fin 13} (h : ∀ q, (H q).val ≤ (H' q).val) (q : Nat) : (pdH H q).val ≤ (pdH H' q).val := by
  unfold pdH
  split
  · exact dn_mono (h q)
  · exact dn_mono (h q)
theorem u3_mono {x y : Fin 13} (h : x.val ≤ y.val) : (u3 x).val ≤ (u3 y).val := by
  unfold u3; simp only; omega
theorem sy_mono {m : Nat} {H H' : Nat → Fin 13} (h : ∀ q, (H q).val ≤ (H' q).val) (q : Nat) : (syH m H q).val ≤ (syH m H' q).val := by
  unfold syH
  split
  · exact u3_mono (h q)
  · exact h q
theorem sy_ge {m : Nat} {H H' : Nat → Fin 13} (h : ∀ q, (H q).val ≤ (H' q).val) (q : Nat) : (H q).val ≤ (syH m H' q).val := by
  unfold syH
  split
  · exact Nat.le_trans (h q) (u3_b _).1
  · exact h q
theorem pS_lo {m : Nat} {c : Bool} {H H' : Nat → Fin 13} (h : ∀ q, (H q).val ≤ (H' q).val) : ∀ q, (pdH H q).val ≤ (pS (if c = true then m + 1 else 0) H' q).val := by
  cases c
  · exact pd_mono h
  · exact pd_mono (sy_ge h)
theorem pS_hi {m : Nat} {c : Bool} {H H' : Nat → Fin 13} (h : ∀ q, (H q).val ≤ (H' q).val) : ∀ q, (pS (if c = true then m + 1 else 0) H q).val ≤ (pS (m + 1) H' q).val := by
  cases c
  · exact pd_mono (sy_ge h)
  · exact pd_mono (sy_mono h)
theorem wH_lo {way μ : Nat} : ∀ (j d : Nat) (H H' : Nat → Fin 13), (∀ q, (H q).val ≤ (H' q).val) → ∀ q, (itH j H q).val ≤ (wH way μ j d H' q).val
  | 0, _, _, _, h => h
  | j + 1, d, H, H', h => wH_lo j (d + 1) _ _ (pS_lo h)
theorem wH_hi {way μ : Nat} : ∀ (j d : Nat) (H H' : Nat → Fin 13), (∀ q, (H q).val ≤ (H' q).val) → ∀ q, (wH way μ j d H q).val ≤ (saH μ j H' q).val
  | 0, _, _, _, h => h
  | j + 1, d, H, H', h => wH_hi j (d + 1) _ _ (pS_hi h)
theorem vN_le {b : Bool} {l : Nat} {H : Nat → Fin 13} : vN b l H ≤ 96 := by
  unfold vN
  have := totN_le H
  (repeat' split) <;> omega
theorem gcd_ex {S P v : Nat} (hP : 0 < P) (h : S = v * P) : S / Nat.gcd S P = v ∧ P / Nat.gcd S P = 1 := by
  subst h
  have g : Nat.gcd (v * P) P = P := Nat.gcd_eq_right (Nat.dvd_mul_left P v)
  rw [g]
  exact ⟨Nat.mul_div_cancel _ hP, Nat.div_self hP⟩
theorem gcd_in {S P lo hi : Nat} (hP : 0 < P) (h1 : lo * P ≤ S) (h2 : S ≤ hi * P) : lo * (P / Nat.gcd S P) ≤ S / Nat.gcd S P ∧ S / Nat.gcd S P ≤ hi * (P / Nat.gcd S P) := by
  have g0 : 0 < Nat.gcd S P := Nat.gcd_pos_of_pos_right _ hP
  obtain ⟨G, hG⟩ : ∃ G, Nat.gcd S P = G := ⟨_, rfl⟩
  have d1 : G ∣ S := hG ▸ Nat.gcd_dvd_left S P
  have d2 : G ∣ P := hG ▸ Nat.gcd_dvd_right S P
  rw [hG] at g0 ⊢
  obtain ⟨A, rfl⟩ := d1
  obtain ⟨B, rfl⟩ := d2
  rw [Nat.mul_div_cancel_left _ g0, Nat.mul_div_cancel_left _ g0]
  have e1 : lo * (G * B) = G * (lo * B) := Nat.mul_left_comm ..
  have e2 : hi * (G * B) = G * (hi * B) := Nat.mul_left_comm ..
  rw [e1] at h1
  rw [e2] at h2
  exact ⟨Nat.le_of_mul_le_mul_left h1 g0, Nat.le_of_mul_le_mul_left h2 g0⟩
section
variable {d N a b c k n m i μ l p : Nat} {T I I' : IT} {J : JT} {r v y z w : Int32} {M : Mem} {H H0 : Nat → Fin 13} {g f : FV} {D D0 : List (Nat × Nat)} {K : Nat → Option (List (Nat × Nat))} {x κ q s : Nat → Nat} {a0 a1 a2 a3 a4 a5 a6 a7 a8 a9 a10 a11 a12 a13 a14 a15 a16 a17 a18 a19 a20 a21 a22 a23 a24 a25 a26 a27 a28 a29 a30 a31 a32 a33 a34 a35 a36 a37 a38 a39 a40 a41 a42 a43 a44 : Value}
theorem jU {P Q : Int64} : upJ (upJ J 55 3 P) 55 4 Q 55 3 = P ∧ upJ (upJ J 55 3 P) 55 4 Q 55 4 = Q := by
  simp [upJ_at]
theorem sN_hi {b : Bool} (hk : k ≤ 6) (hp : p ≤ 12) : sN2 b l k m p H (2 ^ k) 0 0 ≤ 286654464 := by
  have h := (sN_b (b := b) (l := l) (k := k) (μ := m) (p := p) (lo := 0) (hi := 96) (H := H) (2 ^ k) 0 0 (fun w _ _ => Or.inr ⟨by omega, vN_le⟩)).2
  rw [wS_tot hp hk] at h
  have h2 := (p12 ⟨k, by omega⟩).2
  simp only at h2
  omega
theorem eu_ok {S : Nat} (hS : S ≤ 286654464) (hk : k ≤ 6) : Int64.ofNat S / (eu 45 (Int64.ofNat S) (Int64.ofNat (12 ^ k))).1 = Int64.ofNat (S / Nat.gcd S (12 ^ k)) ∧ Int64.ofNat (12 ^ k) / (eu 45 (Int64.ofNat S) (Int64.ofNat (12 ^ k))).1 = Int64.ofNat (12 ^ k / Nat.gcd S (12 ^ k)) := by
  have h2 := (p12 ⟨k, by omega⟩).2
  simp only at h2
  have g1 : Nat.gcd S (12 ^ k) ≤ 12 ^ k := Nat.gcd_le_right _ (Nat.pow_pos (by omega))
  have e := eu_nat 45 S (12 ^ k) (by omega) (by omega) (eu_t 22 _ _ (by
    rw [Int64.toInt_ofNat_of_lt (by omega)]
    omega))
  rw [e, o64_div (by omega) (by omega), o64_div (by omega) (by omega)]
  exact ⟨rfl, rfl⟩
theorem z_odds {S : Nat} (hW : WO T n l f H0 K D I) (hk : k ≤ 6) (hm : m < 4) (hp : p ≤ 12) (hS : sN2 true l k m p (hF H0 D) (2 ^ k) 0 0 = S) : ∃ I', C (d + 10) iX9_odds [.ref 1, .int (Int32.ofNat k), .int (Int32.ofNat m), .int (Int32.ofNat p)] (mk N I J) = some (some (.int 1), mk N I' (upJ (upJ J 55 3 (Int64.ofNat (S / Nat.gcd S (12 ^ k)))) 55 4 (Int64.ofNat (12 ^ k / Nat.gcd S (12 ^ k))))) ∧ WO T n l f H0 K D I' := by
  obtain ⟨⟨I', h1, h2, -⟩, -⟩ := z_chance (d := d) (N := N) (J := J) hW hk hm hp
  have hb : S ≤ 286654464 := by rw [← hS]; exact sN_hi hk hp
  rw [hS, (eu_ok hb hk).1, (eu_ok hb hk).2] at h1
  exact ⟨I', h1, h2⟩
theorem z_mid {S : Nat} (hW : WO T n l f H0 K D I) (hk : k ≤ 6) (hm : m < 4) (hp : p ≤ 12) (hS : sN2 false l k m p (hF H0 D) (2 ^ k) 0 0 = S) : ∃ I', C (d + 10) iX9_mid [.ref 1, .int (Int32.ofNat k), .int (Int32.ofNat m), .int (Int32.ofNat p)] (mk N I J) = some (some (.int 1), mk N I' (upJ (upJ J 55 3 (Int64.ofNat (S / Nat.gcd S (12 ^ k)))) 55 4 (Int64.ofNat (12 ^ k / Nat.gcd S (12 ^ k))))) ∧ WO T n l f H0 K D I' := by
  obtain ⟨-, ⟨I', h1, h2, -⟩⟩ := z_chance (d := d) (N := N) (J := J) hW hk hm hp
  have hb : S ≤ 286654464 := by rw [← hS]; exact sN_hi hk hp
  rw [hS, (eu_ok hb hk).1, (eu_ok hb hk).2] at h1
  exact ⟨I', h1, h2⟩
/-- no saying at all -/
theorem S_0 {b : Bool} (hk : k ≤ 6) : sN2 b l k m 0 H (2 ^ k) 0 0 = vN b l (itH k H) * 12 ^ k := by
  have h := sN_b (b := b) (l := l) (k := k) (μ := m) (p := 0) (lo := vN b l (itH k H)) (hi := vN b l (itH k H)) (H := H) (2 ^ k) 0 0 (fun w _ hw => by
    have w64 := two6 hk
    rcases way_0' ⟨k, by omega⟩ ⟨w, by omega⟩ (by simp only; omega) with h | h
    · exact Or.inl h
    · simp only at h
      subst h
      rw [wH_0]
      exact Or.inr ⟨Nat.le_refl _, Nat.le_refl _⟩)
  rw [wS_tot (by omega) hk, Nat.zero_add] at h
  omega
/-- a saying each time -/
theorem S_12 {b : Bool} (hk : k ≤ 6) : sN2 b l k m 12 H (2 ^ k) 0 0 = vN b l (saH m k H) * 12 ^ k := by
  have h := sN_b (b := b) (l := l) (k := k) (μ := m) (p := 12) (lo := vN b l (saH m k H)) (hi := vN b l (saH m k H)) (H := H) (2 ^ k) 0 0 (fun w _ hw => by
    have w64 := two6 hk
    rcases way_12' ⟨k, by omega⟩ ⟨w, by omega⟩ (by simp only; omega) with h | h
    · exact Or.inl h
    · simp only at h
      subst h
      rw [wH_1 k 0 H (by omega)]
      exact Or.inr ⟨Nat.le_refl _, Nat.le_refl _⟩)
  rw [wS_tot (by omega) hk, Nat.zero_add] at h
  omega
theorem S_odds (hk : k ≤ 6) (hp : p ≤ 12) : sN2 true l k m p H (2 ^ k) 0 0 ≤ 1 * 12 ^ k := by
  have h := (sN_b (b := true) (l := l) (k := k) (μ := m) (p := p) (lo := 0) (hi := 1) (H := H) (2 ^ k) 0 0 (fun w _ _ => Or.inr ⟨by omega, by
    show (if totN (wH w m k 0 H) < l then 0 else 1) ≤ 1
    split <;> omega⟩)).2
  rw [wS_tot hp hk, Nat.zero_add] at h
  exact h
theorem S_mid (hk : k ≤ 6) (hp : p ≤ 12) : totN (itH k H) * 12 ^ k ≤ sN2 false l k m p H (2 ^ k) 0 0 ∧ sN2 false l k m p H (2 ^ k) 0 0 ≤ totN (saH m k H) * 12 ^ k := by
  have h := sN_b (b := false) (l := l) (k := k) (μ := m) (p := p) (lo := totN (itH k H)) (hi := totN (saH m k H)) (H := H) (2 ^ k) 0 0 (fun w _ _ => Or.inr ⟨by
    show totN (itH k H) ≤ totN (wH w m k 0 H)
    exact tot_mono (wH_lo k 0 H H (fun _ => Nat.le_refl _)), by
    show totN (wH w m k 0 H) ≤ totN (saH m k H)
    exact tot_mono (wH_hi k 0 H H (fun _ => Nat.le_refl _))⟩)
  rw [wS_tot hp hk, Nat.zero_add, Nat.zero_add] at h
  exact h
theorem v01 {c : Prop} [Decidable c] : (if c then (0 : Int32) else 1).toInt64 = Int64.ofNat (if c then 0 else 1) := by split <;> rfl
theorem l64_mul {a b : Nat} : Int64.ofNat a * Int64.ofNat b = Int64.ofNat (a * b) := (Int64.ofNat_mul a b).symm
theorem lw_1635 (hN : N / 4 ≤ 260) (hW : WO T n l f H0 K D I) (h29 : a29.category = 1) : ∃ (I' : IT) (J' : JT) (k m : Nat) (b33 : Value), R (d + 11) iL_law 1635 [.ref 0, .ref 1, a2, a3, a4, a5, a6, a7, a8, a9, a10, a11, a12, a13, a14, a15, a16, a17, a18, a19, a20, a21, a22, a23, a24, a25, a26, a27, a28, a29, a30, a31, a32, a33, a34, a35, a36, a37, a38, a39, a40, a41, a42, a43, a44] [] (mk N I J) = R (d + 11) iL_law 1779 [.ref 0, .ref 1, a2, a3, a4, a5, a6, a7, a8, a9, a10, a11, a12, a13, a14, a15, a16, a17, a18, a19, a20, a21, a22, a23, a24, a25, a26, a27, a28, a29, .int (Int32.ofNat k), .int (Int32.ofNat m), .int (Int32.ofNat (totN (itH k (hF H0 D)))), b33, .int 0, a35, a36, a37, a38, a39, a40, a41, a42, a43, a44] [] (mk N I' J') ∧ WO T n l f H0 K D I' ∧ k ≤ 6 ∧ m < 4 ∧ b33.category = 1 := by
  obtain ⟨k, hk⟩ : ∃ k, upN (celV N (I 0) 17) 7 = k := ⟨_, rfl⟩
  obtain ⟨m, hm⟩ : ∃ m, upN (celV N (I 0) 18) 4 = m := ⟨_, rfl⟩
  have k6 : k ≤ 6 := by have := upN_lt (celV N (I 0) 17) (m := 7) (by omega); omega
  have m4 : m < 4 := by rw [← hm]; exact upN_lt _ (by omega)
  have P0 : 0 < 12 ^ k := Nat.pow_pos (by omega)
  have P1 := (p12 ⟨k, by omega⟩).2
  simp only at P1
  obtain ⟨I1, c1, c2, -, c4⟩ := z_anger (d := d + 1) (N := N) (J := J) (k := k) hW (by omega)
  obtain ⟨S0, hS0⟩ : ∃ S, sN2 true l k m 0 (hF H0 D) (2 ^ k) 0 0 = S := ⟨_, rfl⟩
  obtain ⟨I2, d1, d2⟩ := z_odds (d := d + 1) (N := N) (J := J) (p := 0) c2 k6 m4 (by omega) hS0
  obtain ⟨e1, e2⟩ := gcd_ex P0 (hS0.symm.trans (S_0 k6))
  rw [e1, e2, show Int32.ofNat 0 = 0 from rfl, show Int64.ofNat 1 = 1 from rfl] at d1
  obtain ⟨J1, hJ1⟩ : ∃ J1, upJ (upJ J 55 3 (Int64.ofNat (vN true l (itH k (hF H0 D))))) 55 4 1 = J1 := ⟨_, rfl⟩
  have j1 := jU (J := J) (P := Int64.ofNat (vN true l (itH k (hF H0 D)))) (Q := 1)
  rw [hJ1] at d1 j1
  obtain ⟨S1, hS1⟩ : ∃ S, sN2 false l k m 0 (hF H0 D) (2 ^ k) 0 0 = S := ⟨_, rfl⟩
  obtain ⟨I3, f1, f2⟩ := z_mid (d := d + 1) (N := N) (J := J1) (p := 0) d2 k6 m4 (by omega) hS1
  obtain ⟨g1, g2⟩ := gcd_ex P0 (hS1.symm.trans (S_0 k6))
  rw [g1, g2, show Int32.ofNat 0 = 0 from rfl, show Int64.ofNat 1 = 1 from rfl] at f1
  obtain ⟨J2, hJ2⟩ : ∃ J2, upJ (upJ J1 55 3 (Int64.ofNat (vN false l (itH k (hF H0 D))))) 55 4 1 = J2 := ⟨_, rfl⟩
  have j2 := jU (J := J1) (P := Int64.ofNat (vN false l (itH k (hF H0 D)))) (Q := 1)
  rw [hJ2] at f1 j2
  obtain ⟨S2, hS2⟩ : ∃ S, sN2 true l k m 5 (hF H0 D) (2 ^ k) 0 0 = S := ⟨_, rfl⟩
  obtain ⟨I4, r1, r2⟩ := z_odds (d := d + 1) (N := N) (J := J2) (p := 5) f2 k6 m4 (by omega) hS2
  rw [show Int32.ofNat 5 = 5 from rfl] at r1
  have s1 := (gcd_in (lo := 0) P0 (by omega) (hS2 ▸ S_odds (l := l) (m := m) (H := hF H0 D) k6 (show 5 ≤ 12 by omega))).2
  have s2 : 12 ^ k / Nat.gcd S2 (12 ^ k) ≤ 12 ^ k := Nat.div_le_self _ _
  obtain ⟨U, hU⟩ : ∃ U, S2 / Nat.gcd S2 (12 ^ k) = U := ⟨_, rfl⟩
  obtain ⟨L, hL⟩ : ∃ L, 12 ^ k / Nat.gcd S2 (12 ^ k) = L := ⟨_, rfl⟩
  rw [hU, hL] at r1 s1
  rw [hL] at s2
  obtain ⟨J3, hJ3⟩ : ∃ J3, upJ (upJ J2 55 3 (Int64.ofNat U)) 55 4 (Int64.ofNat L) = J3 := ⟨_, rfl⟩
  have j3 := jU (J := J2) (P := Int64.ofNat U) (Q := Int64.ofNat L)
  rw [hJ3] at r1 j3
  have t1 : ¬ Int64.ofNat U < 0 := by
    rw [show (0 : Int64) = Int64.ofNat 0 from rfl, o64_lt (by omega) (by omega)]; omega
  have t2 : ¬ Int64.ofNat L < Int64.ofNat U := by
    rw [o64_lt (by omega) (by omega)]; omega
  have t3 := o32_64 (k := totN (itH k (hF H0 D))) (by have := totN_le (itH k (hF H0 D)); omega)
  have t4 : (if totN (itH k (hF H0 D)) < l then (0 : Int32) else 1).toInt64 = Int64.ofNat (vN true l (itH k (hF H0 D))) := v01
  have t5 : vN false l (itH k (hF H0 D)) = totN (itH k (hF H0 D)) := rfl
  rw [t5] at j2
  refine ⟨I4, J3, k, m, .int (if totN (itH k (hF H0 D)) < l then 0 else 1), ?_, r2, k6, m4, rfl⟩
  simp only [K_some, K_void, K_none, wA_ref, wA_null, isNull_null, isNull_ref, c_int, c_long, c_ref, c_null, c_float, catS_nil, catS_cons, fit_int, fit_bool, fit_long, isO_mk, len_mk, fld_mk, gI_mk, gI0_mk, gZ_mk, gR_mk, isI_mk, isR_mk, tag_mk, lenE_mk, datR_mk, isOs, lenOs, fldS, lenS, gIs, gI0s, gZs, gRs, isIs, isRs, tagS, datRs, mkv, refV, fkS, isArr, tagOk, datI_mk, wrI_mk, wrA_mk, wrF_mk, wrJ_mk, List.length_cons, List.length_nil, List.getElem?_cons_zero, List.getElem?_cons_succ, List.getElem?_nil, ↓reduceIte, Nat.reduceAdd, Nat.reduceMul, Nat.reduceSub, Nat.reduceDiv, Nat.reduceMod, Nat.reduceLT, Nat.reduceLeDiff, Nat.reduceBEq, Nat.reduceEqDiff, Nat.zero_lt_succ, beq_self_eq_true, Bool.true_and, Bool.and_true, Bool.or_true, Bool.true_or, Bool.or_false, Bool.false_or, Bool.false_and, Bool.and_false, Bool.not_true, Bool.not_false, Bool.false_eq_true, Bool.true_eq_false, Bool.and_eq_true, Bool.or_eq_true, Bool.not_eq_true', decide_eq_true_eq, decide_eq_false_iff_not, decide_true, decide_false, and_self, true_and, and_true, or_true, true_or, or_false, false_or, and_false, false_and, or_self, reduceCtorEq, not_true_eq_false, not_false_eq_true, if_true, if_false, Int32.reduceAdd, Int32.reduceSub, Int32.reduceMul, Int32.reduceDiv, Int32.reduceMod, Int32.reduceLT, Int32.reduceLE, eqF1, eqF2, Int32.reduceOfNat, Int32.reduceOfInt, Int32.reduceToNatClampNeg, inb_lit, e_L_law_1635, e_L_law_1636, e_L_law_1638, e_L_law_1641, e_L_law_1643, e_L_law_1646, e_L_law_1648, e_L_law_1649, e_L_law_1651, e_L_law_1654, e_L_law_1655, e_L_law_1658, e_L_law_1660, e_L_law_1661, e_L_law_1663, e_L_law_1666, e_L_law_1668, e_L_law_1669, e_L_law_1672, e_L_law_1674, e_L_law_1675, e_L_law_1677, e_L_law_1679, e_L_law_1680, e_L_law_1683, e_L_law_1684, e_L_law_1687, e_L_law_1688, e_L_law_1691, e_L_law_1693, e_L_law_1694, e_L_law_1695, e_L_law_1698, e_L_law_1699, e_L_law_1702, e_L_law_1703, e_L_law_1704, e_L_law_1707, e_L_law_1708, e_L_law_1710, e_L_law_1712, e_L_law_1713, e_L_law_1716, e_L_law_1717, e_L_law_1720, e_L_law_1721, e_L_law_1724, e_L_law_1726, e_L_law_1727, e_L_law_1728, e_L_law_1731, e_L_law_1732, e_L_law_1735, e_L_law_1736, e_L_law_1737, e_L_law_1740, e_L_law_1741, e_L_law_1743, e_L_law_1745, e_L_law_1746, e_L_law_1749, e_L_law_1750, e_L_law_1753, e_L_law_1754, e_L_law_1757, e_L_law_1758, e_L_law_1759, e_L_law_1762, e_L_law_1763, e_L_law_1766, e_L_law_1767, e_L_law_1770, e_L_law_1771, e_L_law_1774, e_L_law_1775, e_L_law_1776, e_L_law_1777, sh_1, l_cell hN, l_up2, l_up4, l_up5, l_up6, l_up7, l_up9, l_up10, l_up15, l_up25, l_up30, l_up40, l_up60, l_up2000000, hk, hm, c1, z_asked, c4, d1, z_upper, z_lower, j1, f1, j2, r1, j3, t1, t2, t3, t4, lc_eq, lc_lt, lc_gt, h29]
theorem lw_1779 (hm : m < 4) (h33 : a33.category = 1) : ∀ (j t : Nat) (I : IT) (D : List (Nat × Nat)), t + j = k → WO T n l f H0 K D I → D.length + 2 * j ≤ 40 → k ≤ 6 → ∃ (I' : IT) (D' : List (Nat × Nat)), R (d + 11) iL_law 1779 [a0, .ref 1, a2, a3, a4, a5, a6, a7, a8, a9, a10, a11, a12, a13, a14, a15, a16, a17, a18, a19, a20, a21, a22, a23, a24, a25, a26, a27, a28, a29, .int (Int32.ofNat k), .int (Int32.ofNat m), a32, a33, .int (Int32.ofNat t), a35, a36, a37, a38, a39, a40, a41, a42, a43, a44] [] (mk N I J) = R (d + 11) iL_law 1810 [a0, .ref 1, a2, a3, a4, a5, a6, a7, a8, a9, a10, a11, a12, a13, a14, a15, a16, a17, a18, a19, a20, a21, a22, a23, a24, a25, a26, a27, a28, a29, .int (Int32.ofNat k), .int (Int32.ofNat m), a32, a33, .int (Int32.ofNat k), a35, a36, a37, a38, a39, a40, a41, a42, a43, a44] [] (mk N I' J) ∧ WO T n l f H0 K D' I' ∧ hF H0 D' = saH m j (hF H0 D) := by
  intro j
  induction j with
  | zero =>
    intro t I D ht hW hL k6
    obtain rfl : t = k := by omega
    have q1 : ¬ Int32.ofNat t < Int32.ofNat t := Int32.lt_irrefl
    refine ⟨I, D, ?_, hW, rfl⟩
    rw [e_L_law_1779]
    simp only [K_some, K_void, K_none, wA_ref, wA_null, isNull_null, isNull_ref, c_int, c_long, c_ref, c_null, c_float, catS_nil, catS_cons, fit_int, fit_bool, fit_long, isO_mk, len_mk, fld_mk, gI_mk, gI0_mk, gZ_mk, gR_mk, isI_mk, isR_mk, tag_mk, lenE_mk, datR_mk, isOs, lenOs, fldS, lenS, gIs, gI0s, gZs, gRs, isIs, isRs, tagS, datRs, mkv, refV, fkS, isArr, tagOk, datI_mk, wrI_mk, wrA_mk, wrF_mk, wrJ_mk, List.length_cons, List.length_nil, List.getElem?_cons_zero, List.getElem?_cons_succ, List.getElem?_nil, ↓reduceIte, Nat.reduceAdd, Nat.reduceMul, Nat.reduceSub, Nat.reduceDiv, Nat.reduceMod, Nat.reduceLT, Nat.reduceLeDiff, Nat.reduceBEq, Nat.reduceEqDiff, Nat.zero_lt_succ, beq_self_eq_true, Bool.true_and, Bool.and_true, Bool.or_true, Bool.true_or, Bool.or_false, Bool.false_or, Bool.false_and, Bool.and_false, Bool.not_true, Bool.not_false, Bool.false_eq_true, Bool.true_eq_false, Bool.and_eq_true, Bool.or_eq_true, Bool.not_eq_true', decide_eq_true_eq, decide_eq_false_iff_not, decide_true, decide_false, and_self, true_and, and_true, or_true, true_or, or_false, false_or, and_false, false_and, or_self, reduceCtorEq, not_true_eq_false, not_false_eq_true, if_true, if_false, Int32.reduceAdd, Int32.reduceSub, Int32.reduceMul, Int32.reduceDiv, Int32.reduceMod, Int32.reduceLT, Int32.reduceLE, eqF1, eqF2, Int32.reduceOfNat, Int32.reduceOfInt, Int32.reduceToNatClampNeg, inb_lit, e_L_law_1781, e_L_law_1783, e_L_law_1786, e_L_law_1787, e_L_law_1789, e_L_law_1792, e_L_law_1795, e_L_law_1796, e_L_law_1799, e_L_law_1802, e_L_law_1803, e_L_law_1804, e_L_law_1807, q1]
  | succ j ih =>
    intro t I D ht hW hL k6
    have q1 : Int32.ofNat t < Int32.ofNat k := (oN_lt (by omega) (by omega)).mpr (by omega)
    obtain ⟨I1, c1, c2, -, -⟩ := z_say (d := d + 1) (N := N) (J := J) hW (by omega) hm
    obtain ⟨I2, d1, d2, -, -⟩ := z_day (d := d + 1) (N := N) (J := J) c2 (by rw [List.length_append, List.length_singleton]; omega)
    have n1 := oN_neg (k := totN (hF H0 (D ++ [(1, m)]))) (by have := totN_le (hF H0 (D ++ [(1, m)])); omega)
    have n2 := oN_neg (k := totN (hF H0 (D ++ [(1, m)] ++ [(0, 0)]))) (by have := totN_le (hF H0 (D ++ [(1, m)] ++ [(0, 0)])); omega)
    obtain ⟨I3, D3, g1, g2, g3⟩ := ih (t + 1) I2 (D ++ [(1, m)] ++ [(0, 0)]) (by omega) d2 (by rw [List.length_append, List.length_append, List.length_singleton, List.length_singleton]; omega) k6
    refine ⟨I3, D3, ?_, g2, ?_⟩
    · rw [e_L_law_1779]
      simp only [K_some, K_void, K_none, wA_ref, wA_null, isNull_null, isNull_ref, c_int, c_long, c_ref, c_null, c_float, catS_nil, catS_cons, fit_int, fit_bool, fit_long, isO_mk, len_mk, fld_mk, gI_mk, gI0_mk, gZ_mk, gR_mk, isI_mk, isR_mk, tag_mk, lenE_mk, datR_mk, isOs, lenOs, fldS, lenS, gIs, gI0s, gZs, gRs, isIs, isRs, tagS, datRs, mkv, refV, fkS, isArr, tagOk, datI_mk, wrI_mk, wrA_mk, wrF_mk, wrJ_mk, List.length_cons, List.length_nil, List.getElem?_cons_zero, List.getElem?_cons_succ, List.getElem?_nil, ↓reduceIte, Nat.reduceAdd, Nat.reduceMul, Nat.reduceSub, Nat.reduceDiv, Nat.reduceMod, Nat.reduceLT, Nat.reduceLeDiff, Nat.reduceBEq, Nat.reduceEqDiff, Nat.zero_lt_succ, beq_self_eq_true, Bool.true_and, Bool.and_true, Bool.or_true, Bool.true_or, Bool.or_false, Bool.false_or, Bool.false_and, Bool.and_false, Bool.not_true, Bool.not_false, Bool.false_eq_true, Bool.true_eq_false, Bool.and_eq_true, Bool.or_eq_true, Bool.not_eq_true', decide_eq_true_eq, decide_eq_false_iff_not, decide_true, decide_false, and_self, true_and, and_true, or_true, true_or, or_false, false_or, and_false, false_and, or_self, reduceCtorEq, not_true_eq_false, not_false_eq_true, if_true, if_false, Int32.reduceAdd, Int32.reduceSub, Int32.reduceMul, Int32.reduceDiv, Int32.reduceMod, Int32.reduceLT, Int32.reduceLE, eqF1, eqF2, Int32.reduceOfNat, Int32.reduceOfInt, Int32.reduceToNatClampNeg, inb_lit, e_L_law_1781, e_L_law_1783, e_L_law_1786, e_L_law_1787, e_L_law_1789, e_L_law_1792, e_L_law_1795, e_L_law_1796, e_L_law_1799, e_L_law_1802, e_L_law_1803, e_L_law_1804, e_L_law_1807, sh_1, q1, c1, d1, n1, n2, oN_succ, h33]
      exact g1
    · rw [g3, hF_app, hF_app]; rfl
theorem lw_1810 (h33 : a33.category = 1) (hW : WO T n l f H0 K D I) (hK : K 0 = some D0) (hk : k ≤ 6) (hm : m < 4) (hD : hF H0 D = saH m k (hF H0 D0)) : ∃ (I' : IT) (J' : JT) (b34 b35 : Value), R (d + 11) iL_law 1810 [.ref 0, .ref 1, a2, a3, .int (Int32.ofNat D0.length), a5, a6, a7, a8, a9, a10, a11, a12, a13, a14, a15, a16, a17, a18, a19, a20, a21, a22, a23, a24, a25, a26, a27, a28, a29, .int (Int32.ofNat k), .int (Int32.ofNat m), .int (Int32.ofNat (totN (itH k (hF H0 D0)))), a33, a34, a35, a36, a37, a38, a39, a40, a41, a42, a43, a44] [] (mk N I J) = R (d + 11) iL_law 1941 [.ref 0, .ref 1, a2, a3, .int (Int32.ofNat D0.length), a5, a6, a7, a8, a9, a10, a11, a12, a13, a14, a15, a16, a17, a18, a19, a20, a21, a22, a23, a24, a25, a26, a27, a28, a29, .int (Int32.ofNat k), .int (Int32.ofNat m), .int (Int32.ofNat (totN (itH k (hF H0 D0)))), a33, b34, b35, a36, a37, a38, a39, a40, a41, a42, a43, a44] [] (mk N I' J') ∧ WO T n l f H0 K D0 I' ∧ b34.category = 1 ∧ b35.category = 1 := by
  have P0 : 0 < 12 ^ k := Nat.pow_pos (by omega)
  have P1 := (p12 ⟨k, by omega⟩).2
  simp only at P1
  have a3 := z_c3 (d := d + 1) (N := N) (J := J) hW
  have a4' := z_c4 (d := d + 1) (N := N) (J := J) hW
  rw [hD] at a3 a4'
  obtain ⟨I1, c1, c2, -, -⟩ := z_on (d := d + 1) (N := N) (J := J) hW hK
  obtain ⟨S0, hS0⟩ : ∃ S, sN2 true l k m 12 (hF H0 D0) (2 ^ k) 0 0 = S := ⟨_, rfl⟩
  obtain ⟨I2, d1, d2⟩ := z_odds (d := d + 1) (N := N) (J := J) (p := 12) c2 hk hm (by omega) hS0
  obtain ⟨e1, e2⟩ := gcd_ex P0 (hS0.symm.trans (S_12 hk))
  rw [e1, e2, show Int32.ofNat 12 = 12 from rfl, show Int64.ofNat 1 = 1 from rfl] at d1
  obtain ⟨J1, hJ1⟩ : ∃ J1, upJ (upJ J 55 3 (Int64.ofNat (vN true l (saH m k (hF H0 D0))))) 55 4 1 = J1 := ⟨_, rfl⟩
  have j1 := jU (J := J) (P := Int64.ofNat (vN true l (saH m k (hF H0 D0)))) (Q := 1)
  rw [hJ1] at d1 j1
  obtain ⟨S1, hS1⟩ : ∃ S, sN2 false l k m 12 (hF H0 D0) (2 ^ k) 0 0 = S := ⟨_, rfl⟩
  obtain ⟨I3, f1, f2⟩ := z_mid (d := d + 1) (N := N) (J := J1) (p := 12) d2 hk hm (by omega) hS1
  obtain ⟨g1, g2⟩ := gcd_ex P0 (hS1.symm.trans (S_12 hk))
  rw [g1, g2, show Int32.ofNat 12 = 12 from rfl, show Int64.ofNat 1 = 1 from rfl] at f1
  obtain ⟨J2, hJ2⟩ : ∃ J2, upJ (upJ J1 55 3 (Int64.ofNat (vN false l (saH m k (hF H0 D0))))) 55 4 1 = J2 := ⟨_, rfl⟩
  have j2 := jU (J := J1) (P := Int64.ofNat (vN false l (saH m k (hF H0 D0)))) (Q := 1)
  rw [hJ2] at f1 j2
  obtain ⟨S2, hS2⟩ : ∃ S, sN2 false l k m 7 (hF H0 D0) (2 ^ k) 0 0 = S := ⟨_, rfl⟩
  obtain ⟨I4, r1, r2⟩ := z_mid (d := d + 1) (N := N) (J := J2) (p := 7) f2 hk hm (by omega) hS2
  rw [show Int32.ofNat 7 = 7 from rfl] at r1
  have sm := S_mid (l := l) (m := m) (H := hF H0 D0) hk (show 7 ≤ 12 by omega)
  rw [hS2] at sm
  obtain ⟨s1, s3⟩ := gcd_in P0 sm.1 sm.2
  have s2 : 12 ^ k / Nat.gcd S2 (12 ^ k) ≤ 12 ^ k := Nat.div_le_self _ _
  obtain ⟨U, hU⟩ : ∃ U, S2 / Nat.gcd S2 (12 ^ k) = U := ⟨_, rfl⟩
  obtain ⟨L, hL⟩ : ∃ L, 12 ^ k / Nat.gcd S2 (12 ^ k) = L := ⟨_, rfl⟩
  rw [hU, hL] at r1 s1 s3
  rw [hL] at s2
  obtain ⟨J3, hJ3⟩ : ∃ J3, upJ (upJ J2 55 3 (Int64.ofNat U)) 55 4 (Int64.ofNat L) = J3 := ⟨_, rfl⟩
  have j3 := jU (J := J2) (P := Int64.ofNat U) (Q := Int64.ofNat L)
  rw [hJ3] at r1 j3
  obtain ⟨A1, hA1⟩ : ∃ A1, totN (itH k (hF H0 D0)) = A1 := ⟨_, rfl⟩
  obtain ⟨A2, hA2⟩ : ∃ A2, totN (saH m k (hF H0 D0)) = A2 := ⟨_, rfl⟩
  have b1 := totN_le (itH k (hF H0 D0))
  have b2 := totN_le (saH m k (hF H0 D0))
  rw [hA1] at s1 b1 ⊢
  rw [hA2] at s3 b2 a3
  have m1 : A1 * L ≤ 96 * 2985984 := Nat.mul_le_mul b1 (Nat.le_trans s2 P1)
  have m2 : A2 * L ≤ 96 * 2985984 := Nat.mul_le_mul b2 (Nat.le_trans s2 P1)
  have t1 : ¬ Int64.ofNat U < Int64.ofNat (A1 * L) := by
    rw [o64_lt (by omega) (by omega)]; omega
  have t2 : ¬ Int64.ofNat (A2 * L) < Int64.ofNat U := by
    rw [o64_lt (by omega) (by omega)]; omega
  have t3 := o32_64 (k := A1) (by omega)
  have t6 := o32_64 (k := A2) (by omega)
  have t4 : (if A2 < l then (0 : Int32) else 1).toInt64 = Int64.ofNat (vN true l (saH m k (hF H0 D0))) := by rw [← hA2]; exact v01
  have t5 : vN false l (saH m k (hF H0 D0)) = A2 := hA2
  rw [hA2] at a4'
  rw [t5] at j2
  refine ⟨I4, J3, .int (Int32.ofNat A2), .int (if A2 < l then 0 else 1), ?_, r2, rfl, rfl⟩
  simp only [K_some, K_void, K_none, wA_ref, wA_null, isNull_null, isNull_ref, c_int, c_long, c_ref, c_null, c_float, catS_nil, catS_cons, fit_int, fit_bool, fit_long, isO_mk, len_mk, fld_mk, gI_mk, gI0_mk, gZ_mk, gR_mk, isI_mk, isR_mk, tag_mk, lenE_mk, datR_mk, isOs, lenOs, fldS, lenS, gIs, gI0s, gZs, gRs, isIs, isRs, tagS, datRs, mkv, refV, fkS, isArr, tagOk, datI_mk, wrI_mk, wrA_mk, wrF_mk, wrJ_mk, List.length_cons, List.length_nil, List.getElem?_cons_zero, List.getElem?_cons_succ, List.getElem?_nil, ↓reduceIte, Nat.reduceAdd, Nat.reduceMul, Nat.reduceSub, Nat.reduceDiv, Nat.reduceMod, Nat.reduceLT, Nat.reduceLeDiff, Nat.reduceBEq, Nat.reduceEqDiff, Nat.zero_lt_succ, beq_self_eq_true, Bool.true_and, Bool.and_true, Bool.or_true, Bool.true_or, Bool.or_false, Bool.false_or, Bool.false_and, Bool.and_false, Bool.not_true, Bool.not_false, Bool.false_eq_true, Bool.true_eq_false, Bool.and_eq_true, Bool.or_eq_true, Bool.not_eq_true', decide_eq_true_eq, decide_eq_false_iff_not, decide_true, decide_false, and_self, true_and, and_true, or_true, true_or, or_false, false_or, and_false, false_and, or_self, reduceCtorEq, not_true_eq_false, not_false_eq_true, if_true, if_false, Int32.reduceAdd, Int32.reduceSub, Int32.reduceMul, Int32.reduceDiv, Int32.reduceMod, Int32.reduceLT, Int32.reduceLE, eqF1, eqF2, Int32.reduceOfNat, Int32.reduceOfInt, Int32.reduceToNatClampNeg, inb_lit, e_L_law_1810, e_L_law_1811, e_L_law_1812, e_L_law_1815, e_L_law_1817, e_L_law_1818, e_L_law_1819, e_L_law_1822, e_L_law_1824, e_L_law_1825, e_L_law_1826, e_L_law_1829, e_L_law_1831, e_L_law_1834, e_L_law_1835, e_L_law_1837, e_L_law_1839, e_L_law_1841, e_L_law_1844, e_L_law_1845, e_L_law_1848, e_L_law_1849, e_L_law_1852, e_L_law_1854, e_L_law_1855, e_L_law_1856, e_L_law_1859, e_L_law_1860, e_L_law_1862, e_L_law_1864, e_L_law_1866, e_L_law_1869, e_L_law_1870, e_L_law_1873, e_L_law_1874, e_L_law_1877, e_L_law_1879, e_L_law_1880, e_L_law_1881, e_L_law_1884, e_L_law_1885, e_L_law_1888, e_L_law_1889, e_L_law_1890, e_L_law_1893, e_L_law_1894, e_L_law_1896, e_L_law_1898, e_L_law_1900, e_L_law_1903, e_L_law_1904, e_L_law_1907, e_L_law_1908, e_L_law_1911, e_L_law_1913, e_L_law_1914, e_L_law_1915, e_L_law_1918, e_L_law_1919, e_L_law_1920, e_L_law_1923, e_L_law_1924, e_L_law_1927, e_L_law_1929, e_L_law_1930, e_L_law_1931, e_L_law_1934, e_L_law_1935, e_L_law_1936, e_L_law_1939, e_L_law_1940, sh_1, a3, a4', c1, d1, z_upper, z_lower, j1, f1, j2, r1, j3, t1, t2, t3, t4, t6, l64_mul, lc_eq, lc_lt, lc_gt, h33]
end
