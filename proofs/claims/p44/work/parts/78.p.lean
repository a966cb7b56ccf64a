/-! NUMBERS of pairs, tests -/
theorem kb_bit {P : Nat → Bool} : ∀ (j i b a : Nat), b < 2 ^ i → (kbN P j i b).testBit a = if a < i then b.testBit a else if a < i + j then P a else false := by
  intro j
  induction j with
  | zero =>
    intro i b a hb
    show b.testBit a = _
    by_cases h : a < i
    · rw [if_pos h]
    · rw [if_neg h, if_neg (by omega)]
      exact Nat.testBit_lt_two_pow (Nat.lt_of_lt_of_le hb (Nat.pow_le_pow_right (by omega) (by omega)))
  | succ j ih =>
    intro i b a hb
    have hp := Nat.pow_succ 2 i
    have hb2 : b + (if P i = true then 2 ^ i else 0) < 2 ^ (i + 1) := by split <;> omega
    show (kbN P j (i + 1) (b + if P i = true then 2 ^ i else 0)).testBit a = _
    rw [ih (i + 1) _ a hb2]
    by_cases h : a < i
    · rw [if_pos (by omega), if_pos h]
      split
      · rw [Nat.add_comm, Nat.testBit_two_pow_add_gt h]
      · rfl
    · by_cases h2 : a = i
      · subst h2
        rw [if_pos (show a < a + 1 by omega), if_neg h, if_pos (show a < a + (j + 1) by omega)]
        by_cases c : P a = true
        · rw [if_pos c, Nat.add_comm, Nat.testBit_two_pow_add_eq, Nat.testBit_lt_two_pow hb, c]; rfl
        · rw [if_neg c, Nat.add_zero, Nat.testBit_lt_two_pow hb]
          simpa using c
      · rw [if_neg (by omega), if_neg h]
        by_cases h3 : a < i + 1 + j
        · rw [if_pos h3, if_pos (by omega)]
        · rw [if_neg h3, if_neg (by omega)]
theorem b10_or' : ∀ (i : Fin 10) (b : Fin 1024), b.val < 2 ^ i.val → Int32.ofNat b.val ||| ((1 : Int32) <<< (Int32.ofNat i.val &&& 31)) = Int32.ofNat (b.val + 2 ^ i.val) := by decide +kernel
theorem b10_tb' : ∀ (b : Fin 1024) (a : Fin 10), (Int32.ofNat b.val >>> (Int32.ofNat a.val &&& 31)) &&& 1 = (if b.val.testBit a.val = true then 1 else 0) := by decide +kernel
theorem sb_kb {P : Nat → Bool} : ∀ (j i b : Nat), i + j = 10 → b < 2 ^ i → sbI P j i (Int32.ofNat b) = Int32.ofNat (kbN P j i b) := by
  intro j
  induction j with
  | zero => intro i b _ _; rfl
  | succ j ih =>
    intro i b hi hb
    have hp := Nat.pow_succ 2 i
    have hq : 2 ^ i ≤ 2 ^ 9 := Nat.pow_le_pow_right (by omega) (by omega)
    show sbI P j (i + 1) (if P i = true then Int32.ofNat b ||| ((1 : Int32) <<< (Int32.ofNat i &&& 31)) else Int32.ofNat b) = Int32.ofNat (kbN P j (i + 1) (b + if P i = true then 2 ^ i else 0))
    by_cases c : P i = true
    · have e1 := b10_or' ⟨i, by omega⟩ ⟨b, by omega⟩ hb
      simp only at e1
      rw [if_pos c, if_pos c, e1]
      exact ih (i + 1) _ (by omega) (by omega)
    · rw [if_neg c, if_neg c, Nat.add_zero]
      exact ih (i + 1) _ (by omega) (by omega)
/-- a salt that fits is told -/
theorem salt_bit {P : Nat → Bool} {a : Nat} (ha : a < 10) (h : P a = true) : (sbI P 10 0 0 >>> (Int32.ofNat a &&& 31)) &&& 1 = 1 := by
  have e := sb_kb (P := P) 10 0 0 rfl (by simp)
  rw [show Int32.ofNat 0 = 0 from rfl] at e
  have hl : kbN P 10 0 0 < 2 ^ (0 + 10) := kbN_lt (by simp)
  have hb := kb_bit (P := P) 10 0 0 a (by simp)
  rw [if_neg (by omega), if_pos (by omega), h] at hb
  have hl : kbN P 10 0 0 < 1024 := hl
  have := b10_tb' ⟨kbN P 10 0 0, hl⟩ ⟨a, ha⟩
  simp only at this
  rw [e, this, if_pos hb]
/-- a kind that fits is told -/
theorem kind_bit {P : Nat → Bool} {a : Nat} (ha : a < 6) (h : P a = true) : (kbN P 6 0 0).testBit a = true ∧ kbN P 6 0 0 < 64 ∧ (Int32.ofNat (kbN P 6 0 0) >>> (Int32.ofNat a &&& 31)) &&& 1 = 1 := by
  have hl : kbN P 6 0 0 < 2 ^ (0 + 6) := kbN_lt (by simp)
  have hl : kbN P 6 0 0 < 64 := hl
  have hb := kb_bit (P := P) 6 0 0 a (by simp)
  rw [if_neg (by omega), if_pos (by omega), h] at hb
  exact ⟨hb, hl, by rw [tb1 hl ha, if_pos hb]⟩
theorem rnd_b' : ∀ (κ : Fin 6) (σ : Fin 10) (t : Fin 97), (¬ rindI (Int32.ofNat κ.val) (Int32.ofNat σ.val) (Int32.ofNat t.val) true < 0 ∧ ¬ 99 < rindI (Int32.ofNat κ.val) (Int32.ofNat σ.val) (Int32.ofNat t.val) true) ∧ ¬ rindI (Int32.ofNat κ.val) (Int32.ofNat σ.val) (Int32.ofNat t.val) false < 0 ∧ ¬ 99 < rindI (Int32.ofNat κ.val) (Int32.ofNat σ.val) (Int32.ofNat t.val) false := by decide +kernel
theorem rind_b {κ σ t : Nat} (hκ : κ ≤ 5) (hσ : σ ≤ 9) (ht : t ≤ 96) (b : Bool) : ¬ rindI (Int32.ofNat κ) (Int32.ofNat σ) (Int32.ofNat t) b < 0 ∧ ¬ 99 < rindI (Int32.ofNat κ) (Int32.ofNat σ) (Int32.ofNat t) b := by
  obtain ⟨h1, h2⟩ := rnd_b' ⟨κ, by omega⟩ ⟨σ, by omega⟩ ⟨t, by omega⟩
  cases b
  · exact h2
  · exact h1
theorem rnd_b {f : FV} {i l t κ σ : Nat} (h1 : f (10 + i) = Int32.ofNat κ) (h2 : f (22 + i) = Int32.ofNat σ) (hκ : κ ≤ 5) (hσ : σ ≤ 9) (ht : t ≤ 96) : ¬ rnd f i l t < 0 ∧ ¬ 99 < rnd f i l t := by
  unfold rnd
  rw [h1, h2]
  exact rind_b hκ hσ ht _
/-! the test -/
theorem cN_ge {α : Nat → Bool} : ∀ {j b c : Nat}, c ≤ cN α j b c
  | 0, _, _ => Nat.le_refl _
  | j + 1, b, c => by
    have := cN_ge (α := α) (j := j) (b := b + 1) (c := c + if α b = true then 1 else 0)
    show c ≤ cN α j (b + 1) (c + if α b = true then 1 else 0)
    omega
theorem cN_one {α : Nat → Bool} {a : Nat} (h : α a = true) : ∀ {j b c : Nat}, b ≤ a → a < b + j → c + 1 ≤ cN α j b c
  | 0, _, _, h1, h2 => by omega
  | j + 1, b, c, h1, h2 => by
    show c + 1 ≤ cN α j (b + 1) (c + if α b = true then 1 else 0)
    by_cases e : b = a
    · subst e
      rw [if_pos h]; exact cN_ge
    · have := cN_one h (j := j) (b := b + 1) (c := c + if α b = true then 1 else 0) (by omega) (by omega)
      omega
theorem cN_mono {α α' : Nat → Bool} (h : ∀ b, α b = true → α' b = true) : ∀ {j b c c' : Nat}, c ≤ c' → cN α j b c ≤ cN α' j b c'
  | 0, _, _, _, hc => hc
  | j + 1, b, c, c', hc => by
    show cN α j (b + 1) (c + if α b = true then 1 else 0) ≤ cN α' j (b + 1) (c' + if α' b = true then 1 else 0)
    refine cN_mono h ?_
    by_cases e : α b = true
    · rw [if_pos e, if_pos (h b e)]; omega
    · rw [if_neg e]; omega
theorem pop_cN : ∀ B : Fin 64, cN (fun b => B.val.testBit b) 6 0 0 = popN 6 B.val 0 := by decide +kernel
theorem gN_ge {β : Nat → Nat → Bool} : ∀ {j a m : Nat}, m ≤ gN β j a m
  | 0, _, _ => Nat.le_refl _
  | j + 1, a, m => by
    have hm : m ≤ (if m < cN (β a) 6 0 0 then cN (β a) 6 0 0 else m) := by split <;> omega
    exact Nat.le_trans hm (gN_ge (β := β) (j := j) (a := a + 1))
theorem gN_one {β : Nat → Nat → Bool} {q a0 : Nat} (h : q ≤ cN (β a0) 6 0 0) : ∀ {j a m : Nat}, a ≤ a0 → a0 < a + j → q ≤ gN β j a m
  | 0, _, _, h1, h2 => by omega
  | j + 1, a, m, h1, h2 => by
    show q ≤ gN β j (a + 1) (if m < cN (β a) 6 0 0 then cN (β a) 6 0 0 else m)
    by_cases e : a = a0
    · subst e
      have hm : q ≤ (if m < cN (β a) 6 0 0 then cN (β a) 6 0 0 else m) := by split <;> omega
      exact Nat.le_trans hm (gN_ge (β := β) (j := j) (a := a + 1))
    · exact gN_one h (by omega) (by omega)
theorem gN_top {β : Nat → Nat → Bool} {q : Nat} (h : ∀ a, cN (β a) 6 0 0 ≤ q) : ∀ {j a m : Nat}, m ≤ q → gN β j a m ≤ q
  | 0, _, _, hm => hm
  | j + 1, a, m, hm => by
    refine gN_top (j := j) h ?_
    have := h a
    split <;> omega
theorem tN_v {P : Nat → Nat} {lo hi : Nat} (h1 : ∀ q, lo ≤ P q) (h2 : ∀ q, P q ≤ hi) : ∀ {j a best least : Nat}, best ≤ 100 → a + j ≤ 101 → lo ≤ least → (tN P j a best least).1 ≤ 100 ∧ lo ≤ (tN P j a best least).2 ∧ (tN P j a best least).2 ≤ least
  | 0, _, _, _, hb, _, hl => ⟨hb, hl, Nat.le_refl _⟩
  | j + 1, a, best, least, hb, ha, hl => by
    unfold tN
    split
    · rename_i c
      obtain ⟨a1, a2, a3⟩ := tN_v h1 h2 (j := j) (a := a + 1) (best := a) (least := P a) (by omega) (by omega) (h1 a)
      exact ⟨a1, a2, by omega⟩
    · exact tN_v h1 h2 (j := j) (a := a + 1) (best := best) (least := least) hb (by omega) hl
theorem tN_0 {P : Nat → Nat} {j best least : Nat} (h : P 0 < least) : tN P (j + 1) 0 best least = tN P j 1 0 (P 0) := by
  show (if P 0 < least then _ else _) = _
  rw [if_pos h]
/-- what test() tells -/
theorem test_v {B κ : Nat} {L σ : Int32} (hB : B < 64) (hκ : κ < 6) (h : B.testBit κ = true) : (tN (fun q => gN (alk B L σ (Int32.ofNat q)) 6 0 0) 101 0 0 7).1 ≤ 100 ∧ 1 ≤ (tN (fun q => gN (alk B L σ (Int32.ofNat q)) 6 0 0) 101 0 0 7).2 ∧ (tN (fun q => gN (alk B L σ (Int32.ofNat q)) 6 0 0) 101 0 0 7).2 ≤ popN 6 B 0 := by
  have lo : ∀ q, 1 ≤ gN (alk B L σ (Int32.ofNat q)) 6 0 0 := fun q => by
    refine gN_one (a0 := κ) (q := 1) ?_ (by omega) (by omega)
    have : alk B L σ (Int32.ofNat q) κ κ = true := by unfold alk; rw [h]; simp
    exact cN_one this (c := 0) (by omega) (by omega)
  have hi : ∀ q, gN (alk B L σ (Int32.ofNat q)) 6 0 0 ≤ popN 6 B 0 := fun q => by
    refine gN_top (fun a => ?_) (by omega)
    have := pop_cN ⟨B, hB⟩
    simp only at this
    rw [← this]
    refine cN_mono (fun b hb => ?_) (Nat.le_refl _)
    unfold alk at hb
    simp only [Bool.and_eq_true] at hb
    exact hb.2.1
  have six := gN_le (β := alk B L σ (Int32.ofNat 0)) (j := 6) (a := 0) (m := 0) (by omega)
  have e := tN_0 (P := fun q => gN (alk B L σ (Int32.ofNat q)) 6 0 0) (j := 100) (best := 0) (least := 7) (by show gN (alk B L σ (Int32.ofNat 0)) 6 0 0 < 7; omega)
  rw [e]
  obtain ⟨a1, a2, a3⟩ := tN_v lo hi (j := 100) (a := 1) (best := 0) (least := gN (alk B L σ (Int32.ofNat 0)) 6 0 0) (by omega) (by omega) (lo 0)
  exact ⟨a1, a2, Nat.le_trans a3 (hi 0)⟩
