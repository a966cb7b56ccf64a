/-! THE LAW'S TEXT is read as the row tells -/
def TxR (T : Nat → Int32) (n l : Nat) (x κ q s : Nat → Nat) : Prop := T 0 = 97 ∧ (∀ k, k < 8 → T (1 + k) = Int32.ofNat (48 + x k)) ∧ T 9 = Int32.ofNat (48 + l / 10) ∧ T 10 = Int32.ofNat (48 + l % 10) ∧ ∀ i, i < n → T (11 + 4 * i) = 32 ∧ T (12 + 4 * i) = letN (κ i) ∧ T (13 + 4 * i) = Int32.ofNat (48 + q i) ∧ T (14 + 4 * i) = Int32.ofNat (48 + s i)
theorem fg_of {T : Nat → Int32} {m p c : Nat} (h : T p = Int32.ofNat (48 + c)) (hc : c ≤ 9) (hp : p < m) : fgB T m p = true := by
  have h1 : ¬ T p < 48 := by rw [h]; intro h2; have := (oN_lt (j := 48 + c) (k := 48) (by omega) (by omega)).mp h2; omega
  have h2 : ¬ 57 < T p := by rw [h]; intro h2; have := (oN_lt (j := 57) (k := 48 + c) (by omega) (by omega)).mp h2; omega
  unfold fgB
  rw [decide_eq_true hp, decide_eq_false h1, decide_eq_false h2]
  rfl
theorem fg1_of {T : Nat → Int32} {m p c : Nat} (h : T p = Int32.ofNat (48 + c)) (h1 : 1 ≤ c) (hc : c ≤ 9) (hp : p < m) : fg1 T m p = true := by
  have h1 : ¬ T p < 49 := by rw [h]; intro h2; have := (oN_lt (j := 48 + c) (k := 49) (by omega) (by omega)).mp h2; omega
  have h2 : ¬ 57 < T p := by rw [h]; intro h2; have := (oN_lt (j := 57) (k := 48 + c) (by omega) (by omega)).mp h2; omega
  unfold fg1
  rw [decide_eq_true hp, decide_eq_false h1, decide_eq_false h2]
  rfl
theorem sub48 {c : Nat} (hc : c ≤ 9) : Int32.ofNat (48 + c) - 48 = Int32.ofNat c := by
  rw [show (48 : Int32) = Int32.ofNat 48 from rfl, oN_sub (by omega) (by omega), show 48 + c - 48 = c by omega]
theorem skp_no {T : Nat → Int32} {j p : Nat} (h : T p ≠ 32) : skp T j p = p := by
  cases j with
  | zero => rfl
  | succ j => unfold skp; rw [if_neg h]
theorem hd8_v {T : Nat → Int32} {m : Nat} : ∀ (j t p : Nat) (V : FV), (∀ k, k < j → fgB T m (p + k) = true) → ∃ V', hd8 T m j t p V = (true, p + j, V') ∧ (∀ k, k < j → V' (t + k) = T (p + k) - 48) ∧ ∀ k, (k < t ∨ t + j ≤ k) → V' k = V k := by
  intro j
  induction j with
  | zero =>
    intro t p V _
    exact ⟨V, rfl, fun k hk => by omega, fun _ _ => rfl⟩
  | succ j ih =>
    intro t p V h
    obtain ⟨V', e1, e2, e3⟩ := ih (t + 1) (p + 1) (put t (T p - 48) V) (fun k hk => by rw [show p + 1 + k = p + (k + 1) by omega]; exact h (k + 1) (by omega))
    refine ⟨V', ?_, fun k hk => ?_, fun k hk => ?_⟩
    · unfold hd8
      rw [if_pos (by have := h 0 (by omega); rw [Nat.add_zero] at this; exact this), e1, show p + 1 + j = p + (j + 1) by omega]
    · by_cases c : k = 0
      · subst c
        rw [Nat.add_zero, Nat.add_zero, e3 t (by omega)]
        unfold put; rw [if_pos rfl]
      · obtain ⟨k', rfl⟩ : ∃ k', k = k' + 1 := ⟨k - 1, by omega⟩
        rw [show t + (k' + 1) = t + 1 + k' by omega, e2 k' (by omega), show p + 1 + k' = p + (k' + 1) by omega]
    · rw [e3 k (by omega)]
      unfold put; rw [if_neg (by omega)]
theorem let_ne : ∀ k : Fin 6, letN k.val ≠ 32 ∧ kbF (letN k.val) = Int32.ofNat k.val ∧ ¬ Int32.ofNat k.val = -9 := by decide +kernel
theorem whl_v {T : Nat → Int32} {n l m : Nat} {x κ q s : Nat → Nat} (hT : TxR T n l x κ q s) (hm : m = 11 + 4 * n) (h0 : 0 < n) (hn : n ≤ 6) (hκ : ∀ i, i < n → κ i ≤ 5) (hq : ∀ i, i < n → 1 ≤ q i ∧ q i ≤ 9) (hs : ∀ i, i < n → s i ≤ 9) : ∀ (j k : Nat) (V : FV), k + j = 7 → k ≤ n → (∀ i, i < k → V (10 + i) = Int32.ofNat (κ i) ∧ V (16 + i) = Int32.ofNat (q i) ∧ V (22 + i) = Int32.ofNat (s i)) → ∃ V', whl T m j k (11 + 4 * k) V = (-9, V', n) ∧ (∀ r, r < 10 → V' r = V r) ∧ ∀ i, i < n → V' (10 + i) = Int32.ofNat (κ i) ∧ V' (16 + i) = Int32.ofNat (q i) ∧ V' (22 + i) = Int32.ofNat (s i) := by
  intro j
  induction j with
  | zero => intro k V hk hkn; omega
  | succ j ih =>
    intro k V hk hkn hV
    by_cases c : k = n
    · subst c
      refine ⟨V, ?_, fun _ _ => rfl, hV⟩
      unfold whl
      have e : skp T (m - (11 + 4 * k)) (11 + 4 * k) = 11 + 4 * k := by
        rw [show m - (11 + 4 * k) = 0 by omega]; rfl
      rw [e, if_neg (by omega), if_neg (by omega)]
    · obtain ⟨t1, t2, t3, t4⟩ := hT.2.2.2.2 k (by omega)
      have hk5 := hκ k (by omega)
      obtain ⟨n1, n2, n3⟩ := let_ne ⟨κ k, by omega⟩
      simp only at n1 n2 n3
      have e : skp T (m - (11 + 4 * k)) (11 + 4 * k) = 12 + 4 * k := by
        rw [show m - (11 + 4 * k) = (m - (11 + 4 * k) - 1) + 1 by omega]
        unfold skp
        rw [if_pos t1, show 11 + 4 * k + 1 = 12 + 4 * k by omega, skp_no (by rw [t2]; exact n1)]
      have f1 : fg1 T m (12 + 4 * k + 1) = true := fg1_of (c := q k) (by rw [show 12 + 4 * k + 1 = 13 + 4 * k by omega]; exact t3) (hq k (by omega)).1 (hq k (by omega)).2 (by omega)
      have f2 : fgB T m (12 + 4 * k + 2) = true := fg_of (c := s k) (by rw [show 12 + 4 * k + 2 = 14 + 4 * k by omega]; exact t4) (hs k (by omega)) (by omega)
      obtain ⟨V', z1, z2, z3⟩ := ih (k + 1) (put (22 + k) (T (12 + 4 * k + 2) - 48) (put (16 + k) (T (12 + 4 * k + 1) - 48) (put (10 + k) (kbF (T (12 + 4 * k))) V))) (by omega) (by omega) (fun i hi => by
        unfold put
        by_cases c : i = k
        · subst c
          refine ⟨?_, ?_, ?_⟩
          · rw [if_neg (by omega), if_neg (by omega), if_pos rfl, t2, n2]
          · rw [if_neg (by omega), if_pos rfl, show 12 + 4 * i + 1 = 13 + 4 * i by omega, t3, sub48 (hq i (by omega)).2]
          · rw [if_pos rfl, show 12 + 4 * i + 2 = 14 + 4 * i by omega, t4, sub48 (hs i (by omega))]
        · rw [if_neg (by omega), if_neg (by omega), if_neg (by omega), if_neg (by omega), if_neg (by omega), if_neg (by omega), if_neg (by omega), if_neg (by omega), if_neg (by omega)]
          exact hV i (by omega))
      refine ⟨V', ?_, fun r hr => ?_, z3⟩
      · unfold whl
        rw [e, if_pos (by omega), if_neg (by omega), if_neg (by rw [t2, n2]; exact n3), if_pos f1, if_pos f2, show 12 + 4 * k + 3 = 11 + 4 * (k + 1) by omega]
        exact z1
      · rw [z2 r hr]
        unfold put
        rw [if_neg (by omega), if_neg (by omega), if_neg (by omega)]
theorem rdV_v {T : Nat → Int32} {n l m : Nat} {x κ q s : Nat → Nat} (hT : TxR T n l x κ q s) (hm : m = 11 + 4 * n) (h0 : 0 < n) (hn : n ≤ 6) (hx : ∀ k, k < 8 → x k ≤ 9) (hl : 1 ≤ l ∧ l ≤ 60) (hκ : ∀ i, i < n → κ i ≤ 5) (hq : ∀ i, i < n → 1 ≤ q i ∧ q i ≤ 9) (hs : ∀ i, i < n → s i ≤ 9) : ∃ V, rdV T m = (-9, V, n) ∧ (∀ k, k < 8 → V k = Int32.ofNat (x k)) ∧ V 8 = Int32.ofNat l ∧ ∀ i, i < n → V (10 + i) = Int32.ofNat (κ i) ∧ V (16 + i) = Int32.ofNat (q i) ∧ V (22 + i) = Int32.ofNat (s i) := by
  have hT0 := hT
  obtain ⟨t0, t1, t9, t10, -⟩ := hT
  have k0 : skp T m 0 = 0 := skp_no (by rw [t0]; decide)
  obtain ⟨V1, a1, a2, a3⟩ := hd8_v (T := T) (m := m) 8 0 1 (fun _ => 0) (fun k hk => fg_of (t1 k hk) (hx k hk) (by omega))
  have f9 : fgB T m 9 = true := fg_of t9 (by omega) (by omega)
  have f10 : fgB T m 10 = true := fg_of t10 (by omega) (by omega)
  have e9 : 10 * (T 9 - 48) + (T 10 - 48) = Int32.ofNat l := by
    rw [t9, t10, sub48 (by omega), sub48 (by omega), show (10 : Int32) = Int32.ofNat 10 from rfl, ← Int32.ofNat_mul, ← Int32.ofNat_add, show 10 * (l / 10) + l % 10 = l by omega]
  have g1 : ¬ Int32.ofNat l < 1 := fun h => by have := (oN_lt (j := l) (k := 1) (by omega) (by omega)).mp h; omega
  have g2 : ¬ 60 < Int32.ofNat l := fun h => by have := (oN_lt (j := 60) (k := l) (by omega) (by omega)).mp h; omega
  have eL : hdL T m 9 V1 = (true, 11, put 8 (Int32.ofNat l) V1) := by
    unfold hdL
    rw [if_pos f9, if_pos f10, e9, if_pos ⟨g1, g2⟩]
  have eh : hdr T m (fun _ => 0) = (true, 11, put 8 (Int32.ofNat l) V1) := by
    unfold hdr
    rw [k0, if_pos ⟨by omega, t0⟩]
    simp only [Nat.zero_add, a1, if_true, Nat.reduceAdd, eL]
  obtain ⟨V2, b1, b2, b3⟩ := whl_v hT0 hm h0 hn hκ hq hs 7 0 (put 8 (Int32.ofNat l) V1) (by omega) (by omega) (fun i hi => by omega)
  refine ⟨V2, ?_, fun k hk => ?_, ?_, b3⟩
  · unfold rdV
    rw [eh]
    simp only [if_true]
    exact b1
  · rw [b2 k (by omega)]
    unfold put
    rw [if_neg (by omega)]
    have := a2 k hk
    rw [Nat.zero_add] at this
    rw [this, t1 k hk, sub48 (hx k hk)]
  · rw [b2 8 (by omega)]
    unfold put; rw [if_pos rfl]
