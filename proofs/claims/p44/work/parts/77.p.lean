/-! NUMBERS of about, sure -/
def B16 (x : Int32) : Prop := ∃ a : Fin 16, x = Int32.ofNat a.val
theorem b16a' : ∀ a b : Fin 16, (Int32.ofNat a.val &&& Int32.ofNat b.val = Int32.ofNat (Nat.land a.val b.val)) ∧ Nat.land a.val b.val < 16 ∧ (Int32.ofNat a.val ||| Int32.ofNat b.val = Int32.ofNat (Nat.lor a.val b.val)) ∧ Nat.lor a.val b.val < 16 := by decide +kernel
theorem b16_and {x y : Int32} (hx : B16 x) (hy : B16 y) : B16 (x &&& y) := by
  obtain ⟨a, rfl⟩ := hx; obtain ⟨b, rfl⟩ := hy
  obtain ⟨h1, h2, -⟩ := b16a' a b
  exact ⟨⟨Nat.land a.val b.val, h2⟩, h1⟩
theorem b16_or {x y : Int32} (hx : B16 x) (hy : B16 y) : B16 (x ||| y) := by
  obtain ⟨a, rfl⟩ := hx; obtain ⟨b, rfl⟩ := hy
  obtain ⟨-, -, h1, h2⟩ := b16a' a b
  exact ⟨⟨Nat.lor a.val b.val, h2⟩, h1⟩
theorem b16_s1' : ∀ a b : Fin 16, (Int32.ofNat a.val &&& Int32.ofNat b.val) &&& Int32.ofNat b.val = Int32.ofNat a.val &&& Int32.ofNat b.val ∧ Int32.ofNat b.val &&& (Int32.ofNat a.val ||| Int32.ofNat b.val) = Int32.ofNat b.val := by decide +kernel
theorem b16_s2' : ∀ a b c : Fin 16, (Int32.ofNat a.val &&& Int32.ofNat c.val = Int32.ofNat a.val → (Int32.ofNat a.val &&& Int32.ofNat b.val) &&& Int32.ofNat c.val = Int32.ofNat a.val &&& Int32.ofNat b.val) ∧ (Int32.ofNat c.val &&& Int32.ofNat a.val = Int32.ofNat c.val → Int32.ofNat c.val &&& (Int32.ofNat a.val ||| Int32.ofNat b.val) = Int32.ofNat c.val) := by decide +kernel
theorem b16_s1 {x y : Int32} (hx : B16 x) (hy : B16 y) : (x &&& y) &&& y = x &&& y ∧ y &&& (x ||| y) = y := by
  obtain ⟨a, rfl⟩ := hx; obtain ⟨b, rfl⟩ := hy
  exact b16_s1' a b
theorem b16_s2 {x y z : Int32} (hx : B16 x) (hy : B16 y) (hz : B16 z) : (x &&& z = x → (x &&& y) &&& z = x &&& y) ∧ (z &&& x = z → z &&& (x ||| y) = z) := by
  obtain ⟨a, rfl⟩ := hx; obtain ⟨b, rfl⟩ := hy; obtain ⟨c, rfl⟩ := hz
  exact b16_s2' a b c
/-- what sure() and its checks come to -/
theorem b16_end' : ∀ a b s : Fin 16, Int32.ofNat a.val &&& Int32.ofNat s.val = Int32.ofNat a.val → Int32.ofNat s.val &&& Int32.ofNat b.val = Int32.ofNat s.val → ¬ Int32.ofNat a.val < 0 ∧ Int32.ofNat a.val &&& (Int32.ofNat s.val ^^^ -1) = 0 ∧ (15 &&& (Int32.ofNat b.val ^^^ -1)) &&& Int32.ofNat s.val = 0 ∧ Int32.ofNat a.val &&& (15 &&& (Int32.ofNat b.val ^^^ -1)) = 0 ∧ ¬ 15 < (15 &&& (Int32.ofNat b.val ^^^ -1)) := by decide +kernel
theorem b16_end {x y z : Int32} (hx : B16 x) (hy : B16 y) (hz : B16 z) (h1 : x &&& z = x) (h2 : z &&& y = z) : ¬ x < 0 ∧ x &&& (z ^^^ -1) = 0 ∧ (15 &&& (y ^^^ -1)) &&& z = 0 ∧ x &&& (15 &&& (y ^^^ -1)) = 0 ∧ ¬ 15 < (15 &&& (y ^^^ -1)) := by
  obtain ⟨a, rfl⟩ := hx; obtain ⟨b, rfl⟩ := hy; obtain ⟨c, rfl⟩ := hz
  exact b16_end' a b c h1 h2
theorem b16_0 : B16 0 := ⟨0, rfl⟩
theorem b16_15 : B16 15 := ⟨15, rfl⟩
theorem b16_m' : ∀ μ : Fin 4, (1 : Int32) <<< (Int32.ofNat μ.val &&& 31) = Int32.ofNat (2 ^ μ.val) ∧ 2 ^ μ.val < 16 := by decide +kernel
theorem b16_m {s : Nat} (h : s < 5) : B16 (if s = 0 then 0 else (1 : Int32) <<< (Int32.ofNat (s - 1) &&& 31)) := by
  split
  · exact b16_0
  · obtain ⟨h1, h2⟩ := b16_m' ⟨s - 1, by omega⟩
    exact ⟨⟨2 ^ (s - 1), h2⟩, h1⟩
theorem b16_mN2 {s : Nat → Nat} (hs : ∀ q, s q < 5) : ∀ {j d : Nat} {a : Int32}, B16 a → B16 (mN2 s j d a)
  | 0, _, _, h => h
  | j + 1, d, a, h => by
    unfold mN2
    exact b16_mN2 hs (b16_or h (b16_m (hs d)))
theorem mN2_congr {s s' : Nat → Nat} : ∀ {j d : Nat} {a : Int32}, (∀ q, q < d + j → s q = s' q) → mN2 s j d a = mN2 s' j d a
  | 0, _, _, _ => rfl
  | j + 1, d, a, h => by
    unfold mN2
    rw [h d (by omega), mN2_congr (fun q hq => h q (by omega))]
theorem soB_of {s : Nat → Nat} {H : Nat → Fin 13} {e : Nat → Int32} : ∀ {j d : Nat}, (∀ q, d ≤ q → q < d + j → Int32.ofNat (totN (bH s H (q + 1))) = e q) → soB s H e j d = true
  | 0, _, _ => rfl
  | j + 1, d, h => by
    unfold soB
    rw [decide_eq_true (h d (by omega) (by omega)), soB_of (fun q h1 h2 => h q (by omega) (by omega))]
    rfl
theorem lp_v {n : Nat} {so : Nat → Bool} : ∀ (j c : Nat) (o : Nat × Nat × Int32 × Int32), B16 o.2.2.1 → B16 o.2.2.2 → B16 (lpN n so j c o).2.2.1 ∧ B16 (lpN n so j c o).2.2.2 ∧ (∀ X, B16 X → o.2.2.1 &&& X = o.2.2.1 → (lpN n so j c o).2.2.1 &&& X = (lpN n so j c o).2.2.1) ∧ (∀ X, B16 X → X &&& o.2.2.2 = X → X &&& (lpN n so j c o).2.2.2 = X) ∧ o.1 ≤ (lpN n so j c o).1 ∧ (o.1 ≠ 0 → (lpN n so j c o).2.1 = o.2.1) ∧ ∀ c', c ≤ c' → c' < c + j → so c' = true → (lpN n so j c o).2.2.1 &&& mN2 (dg n c') n 0 0 = (lpN n so j c o).2.2.1 ∧ mN2 (dg n c') n 0 0 &&& (lpN n so j c o).2.2.2 = mN2 (dg n c') n 0 0 ∧ (lpN n so j c o).1 ≠ 0 ∧ (o.1 = 0 → (lpN n so j c o).2.1 ≤ c') := by
  intro j
  induction j with
  | zero =>
    intro c o h1 h2
    exact ⟨h1, h2, fun _ _ h => h, fun _ _ h => h, Nat.le_refl _, fun _ => rfl, fun c' a b => by omega⟩
  | succ j ih =>
    intro c o h1 h2
    have hM : ∀ c', B16 (mN2 (dg n c') n 0 0) := fun c' => b16_mN2 (fun q => dg_lt) b16_0
    unfold lpN
    by_cases hc : so c = true
    · rw [if_pos hc]
      obtain ⟨a1, a2, a3, a4, a5, a6, a7⟩ := ih (c + 1) (o.1 + 1, if o.1 = 0 then c else o.2.1, o.2.2.1 &&& mN2 (dg n c) n 0 0, o.2.2.2 ||| mN2 (dg n c) n 0 0) (b16_and h1 (hM c)) (b16_or h2 (hM c))
      simp only at a3 a4 a5 a6 a7
      refine ⟨a1, a2, fun X hX h => a3 X hX ((b16_s2 h1 (hM c) hX).1 h), fun X hX h => a4 X hX ((b16_s2 h2 (hM c) hX).2 h), by omega, fun h => ?_, fun c' b1 b2 b3 => ?_⟩
      · rw [a6 (by omega), if_neg h]
      · by_cases e : c' = c
        · subst e
          refine ⟨a3 _ (hM c') (b16_s1 h1 (hM c')).1, a4 _ (hM c') (b16_s1 h2 (hM c')).2, by omega, fun h0 => ?_⟩
          rw [a6 (by omega), if_pos h0]
          exact Nat.le_refl _
        · obtain ⟨d1, d2, d3, -⟩ := a7 c' (by omega) (by omega) b3
          refine ⟨d1, d2, d3, fun h0 => ?_⟩
          rw [a6 (by omega), if_pos h0]
          omega
    · rw [if_neg hc]
      obtain ⟨a1, a2, a3, a4, a5, a6, a7⟩ := ih (c + 1) o h1 h2
      refine ⟨a1, a2, a3, a4, a5, a6, fun c' b1 b2 b3 => ?_⟩
      by_cases e : c' = c
      · subst e; exact absurd b3 hc
      · exact a7 c' (by omega) (by omega) b3
theorem dg_first {n c c' : Nat} (hn : 1 ≤ n) (hc : c < 5 ^ n) (hc' : c' < 5 ^ n) (h : c ≤ c') : dg n c 0 ≤ dg n c' 0 := by
  unfold dg
  obtain ⟨k, rfl⟩ : ∃ k, n = k + 1 := ⟨n - 1, by omega⟩
  have hp := Nat.pow_succ 5 k
  rw [show k + 1 - 1 - 0 = k by omega]
  have p0 : 0 < 5 ^ k := Nat.pow_pos (by omega)
  have b1 : c / 5 ^ k < 5 := by rw [Nat.div_lt_iff_lt_mul p0]; omega
  have b2 : c' / 5 ^ k < 5 := by rw [Nat.div_lt_iff_lt_mul p0]; omega
  rw [Nat.mod_eq_of_lt b1, Nat.mod_eq_of_lt b2]
  exact Nat.div_le_div_right h
theorem dS_mono' : ∀ a b : Fin 5, a.val ≤ b.val → ¬ dS b.val < dS a.val := by decide +kernel
theorem pd_b {H : Nat → Fin 13} : totN H ≤ 96 := totN_le H
theorem okA_of {e : Nat → Int32} {q t : Nat} (h : e q = Int32.ofNat t) (ht : t ≤ 100) : okA e q = true := by
  have h1 : ¬ e q < 0 := by rw [h]; exact oN_neg (by omega)
  have h2 : ¬ 100 < e q := by rw [h]; intro h2; have := (oN_lt (j := 100) (k := t) (by omega) (by omega)).mp h2; omega
  unfold okA
  rw [decide_eq_false h1, decide_eq_false h2]
  rfl
