/-! NUMBERS of plans -/
theorem dg1 : ∀ a : Fin 5, dg 1 a.val 0 = a.val := by decide +kernel
theorem dg2 : ∀ a b : Fin 5, dg 2 (5 * a.val + b.val) 0 = a.val ∧ dg 2 (5 * a.val + b.val) 1 = b.val := by decide +kernel
theorem dg3 : ∀ a b c : Fin 5, dg 3 (25 * a.val + 5 * b.val + c.val) 0 = a.val ∧ dg 3 (25 * a.val + 5 * b.val + c.val) 1 = b.val ∧ dg 3 (25 * a.val + 5 * b.val + c.val) 2 = c.val := by decide +kernel
theorem dg4 : ∀ a b c d : Fin 5, dg 4 (125 * a.val + 25 * b.val + 5 * c.val + d.val) 0 = a.val ∧ dg 4 (125 * a.val + 25 * b.val + 5 * c.val + d.val) 1 = b.val ∧ dg 4 (125 * a.val + 25 * b.val + 5 * c.val + d.val) 2 = c.val ∧ dg 4 (125 * a.val + 25 * b.val + 5 * c.val + d.val) 3 = d.val := by decide +kernel
/-- each plan has its number -/
theorem dg_sur {n : Nat} {e : Nat → Nat} (hn : n ≤ 4) (he : ∀ q, e q < 5) : ∃ c, c < 5 ^ n ∧ ∀ q, q < n → dg n c q = e q := by
  have h0 := he 0; have h1 := he 1; have h2 := he 2; have h3 := he 3
  obtain rfl | rfl | rfl | rfl | rfl : n = 0 ∨ n = 1 ∨ n = 2 ∨ n = 3 ∨ n = 4 := by omega
  · exact ⟨0, by decide, fun q hq => by omega⟩
  · refine ⟨e 0, by omega, fun q hq => ?_⟩
    obtain rfl : q = 0 := by omega
    exact dg1 ⟨e 0, h0⟩
  · refine ⟨5 * e 0 + e 1, by omega, fun q hq => ?_⟩
    obtain ⟨a1, a2⟩ := dg2 ⟨e 0, h0⟩ ⟨e 1, h1⟩
    obtain rfl | rfl : q = 0 ∨ q = 1 := by omega
    · exact a1
    · exact a2
  · refine ⟨25 * e 0 + 5 * e 1 + e 2, by omega, fun q hq => ?_⟩
    obtain ⟨a1, a2, a3⟩ := dg3 ⟨e 0, h0⟩ ⟨e 1, h1⟩ ⟨e 2, h2⟩
    obtain rfl | rfl | rfl : q = 0 ∨ q = 1 ∨ q = 2 := by omega
    · exact a1
    · exact a2
    · exact a3
  · refine ⟨125 * e 0 + 25 * e 1 + 5 * e 2 + e 3, by omega, fun q hq => ?_⟩
    obtain ⟨a1, a2, a3, a4⟩ := dg4 ⟨e 0, h0⟩ ⟨e 1, h1⟩ ⟨e 2, h2⟩ ⟨e 3, h3⟩
    obtain rfl | rfl | rfl | rfl : q = 0 ∨ q = 1 ∨ q = 2 ∨ q = 3 := by omega
    · exact a1
    · exact a2
    · exact a3
    · exact a4
theorem dg_zero {n : Nat} : dg n 0 = fun _ => 0 := by funext q; simp [dg]
theorem plN_none {n : Nat} {ok : Nat → Bool} : ∀ {j c : Nat} {o : Option (Nat × Nat)}, plN n ok j c o = none → o = none ∧ ∀ c', c ≤ c' → c' < c + j → ok c' = false
  | 0, c, o, h => ⟨h, fun c' h1 h2 => by omega⟩
  | j + 1, c, o, h => by
    unfold plN at h
    split at h
    · have := (plN_none h).1; cases this
    · rename_i hc
      obtain ⟨h1, h2⟩ := plN_none h
      subst h1
      refine ⟨rfl, fun c' a b => ?_⟩
      by_cases e : c' = c
      · subst e
        have : ¬ ok c' = true := fun h => hc ⟨rfl, h⟩
        simpa using this
      · exact h2 c' (by omega) (by omega)
theorem plN_some {n : Nat} {ok : Nat → Bool} : ∀ {j c : Nat} {o : Option (Nat × Nat)} {c' S : Nat}, plN n ok j c o = some (c', S) → o = some (c', S) ∨ (c' < c + j ∧ ok c' = true ∧ S = sN (dg n c') n 0 0)
  | 0, c, o, c', S, h => Or.inl h
  | j + 1, c, o, c', S, h => by
    unfold plN at h
    split at h
    · rename_i hc
      rcases plN_some h with h1 | ⟨h1, h2, h3⟩
      · cases h1
        exact Or.inr ⟨by omega, hc.2, rfl⟩
      · exact Or.inr ⟨by omega, h2, h3⟩
    · rcases plN_some h with h1 | ⟨h1, h2, h3⟩
      · exact Or.inl h1
      · exact Or.inr ⟨by omega, h2, h3⟩
theorem plN_z {n : Nat} {ok : Nat → Bool} {c0 : Nat} : ∀ {j c : Nat}, plN n ok j c (some (c0, 0)) = some (c0, 0)
  | 0, _ => rfl
  | j + 1, c => by
    unfold plN
    rw [if_neg (by
      rintro ⟨h, -⟩
      simp only [btr, decide_eq_true_eq] at h
      omega)]
    exact plN_z
theorem sN_z : ∀ {j d c : Nat}, sN (fun _ => 0) j d c = c
  | 0, _, _ => rfl
  | j + 1, d, c => by
    unfold sN
    rw [if_pos rfl, Nat.add_zero]
    exact sN_z
/-- a plan without sayings is the first one -/
theorem plN_0 {n : Nat} {ok : Nat → Bool} (h : ok 0 = true) {j : Nat} : plN n ok (j + 1) 0 none = some (0, 0) := by
  unfold plN
  rw [if_pos ⟨rfl, h⟩, dg_zero, sN_z]
  exact plN_z
theorem sE_dS : ∀ s : Fin 5, sE (dS s.val) = s.val := by decide +kernel
theorem th_v {l : Nat} {H : Nat → Fin 13} {e : Nat → Int32} {s : Nat → Nat} (he : ∀ q, sE (e q) = s q) : ∀ (j d c : Nat), (thN l e j d c (bH s H d)).2 = bH s H (d + j) ∧ (thN l e j d c (bH s H d)).1 ≤ c + j
  | 0, d, c => ⟨rfl, Nat.le_refl _⟩
  | j + 1, d, c => by
    unfold thN
    have e1 : pS (sE (e d)) (bH s H d) = bH s H (d + 1) := by rw [he d]; rfl
    rw [e1]
    obtain ⟨a1, a2⟩ := th_v he j (d + 1) (c + if totN (bH s H d) < l then 0 else 1)
    refine ⟨by rw [a1, show d + 1 + j = d + (j + 1) by omega], ?_⟩
    have : (if totN (bH s H d) < l then 0 else 1) ≤ 1 := by split <;> omega
    omega
theorem okT_dS : ∀ s : Fin 5, (decide (dS s.val = -9) || (!decide (dS s.val < 0) && !decide (3 < dS s.val))) = true := by decide +kernel
theorem allN_of {P : Nat → Bool} (h : ∀ q, P q = true) : ∀ {j i : Nat}, allN P j i = true
  | 0, _ => rfl
  | j + 1, i => by simp [allN, h i, allN_of h]
theorem allN_lt {P : Nat → Bool} {m : Nat} (h : ∀ q, q < m → P q = true) : ∀ {j i : Nat}, i + j ≤ m → allN P j i = true
  | 0, _, _ => rfl
  | j + 1, i, hij => by simp [allN, h i (by omega), allN_lt h (show i + 1 + j ≤ m by omega)]
section
variable {d N a b c k n m i μ l : Nat} {T I I' : IT} {J : JT} {r v x y z w : Int32} {M : Mem} {H H0 : Nat → Fin 13} {g f : FV} {D : List (Nat × Nat)} {K : Nat → Option (List (Nat × Nat))}
/-- the rind that a wheel would have -/
def rnd (f : FV) (i l t : Nat) : Int32 := rindI (f (10 + i)) (f (22 + i)) (Int32.ofNat t) (!decide (Int32.ofNat t < Int32.ofNat l))
theorem tl6 (hW : WO T n l f H0 K D I) (hi : i < n) : tlF (runF D f) i 6 = rnd f i l (totN (hF H0 D)) := by
  obtain ⟨-, -, f3, -⟩ := wo_fa hW
  have hn := hW.1.1.1
  have e8 := (wo_l hW).2.2.2.2
  have ea := ang_H f3
  unfold tlF rnd
  simp only [Nat.reduceEqDiff, if_false, ea, e8, run_st hW.1.2.1.2 (show 10 + i < 69 by omega), run_st hW.1.2.1.2 (show 22 + i < 69 by omega)]
theorem okC_rnd {H : Nat → Fin 13} : okC m (f (10 + i)) (f (22 + i)) (Int32.ofNat l) v H c = !decide (rnd f i l (totN (bH (dg m c) H m)) < v) := rfl
theorem z_w6 (hW : WO T n l f H0 K D I) (hi : i < n) : C (d + 10) iX9_wheel [.ref 1, .int (Int32.ofNat i), .int 6] (mk N I J) = some (some (.int 1), mk N (up I 55 2 (rnd f i l (totN (hF H0 D)))) J) := by
  have := z_wheel (d := d) (N := N) (J := J) hW hi (show 6 < 7 by omega)
  rw [tl6 hW hi] at this
  exact this
end
