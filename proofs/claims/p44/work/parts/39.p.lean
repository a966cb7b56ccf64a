/-! THE FARM'S DEEDS: what they do to the vector, to the class's cells -/
abbrev HH (g : FV) (H : Nat → Fin 13) : Prop := ∀ k, k < 8 → g (70 + k) = vi (H k)
theorem ang_H {g : FV} {H : Nat → Fin 13} (h : HH g H) : angF g = Int32.ofNat (totN H) := by
  rw [← tot_vi]
  unfold angF
  rw [h 0 (by omega), h 1 (by omega), h 2 (by omega), h 3 (by omega), h 4 (by omega), h 5 (by omega), h 6 (by omega), h 7 (by omega)]
theorem hh_pd {g : FV} {H : Nat → Fin 13} (h : HH g H) : HH (pdF g) (pdH H) := by
  intro k hk
  unfold pdF pdH
  by_cases h4 : k < 4
  · rw [if_pos (by omega), if_pos h4, h k hk, vi_m1]
  · rw [if_neg (by omega), if_pos (by omega), if_neg h4, h k hk, vi_m2]
theorem hh_sy {g : FV} {H : Nat → Fin 13} {m : Nat} (h : HH g H) : HH (syF m g) (syH m H) := by
  intro k hk
  unfold syF syH
  by_cases h4 : k = m ∨ k = m + 4
  · rw [if_pos (by omega), if_pos h4, h k hk, vi_m3]
  · rw [if_neg (by omega), if_neg h4, h k hk]
theorem hh_of {g g' : FV} {H : Nat → Fin 13} (h : HH g H) (e : ∀ k, k < 8 → g' (70 + k) = g (70 + k)) : HH g' H := fun k hk => by rw [e k hk]; exact h k hk
def goH (p : Nat × Nat) (H : Nat → Fin 13) : Nat → Fin 13 := if p.1 = 0 then pdH H else if p.1 = 1 then syH p.2 H else H
theorem hh_go {g : FV} {H : Nat → Fin 13} {p : Nat × Nat} {n : Nat} (hn : n ≤ 6) (hp : wfD n p) (h : HH g H) : HH (goF p g) (goH p H) := by
  obtain ⟨w, i⟩ := p
  rcases hp with ⟨h1, h2⟩ | ⟨h1, h2⟩ | ⟨h1 | h1, h2⟩ <;> simp only at h1 h2 <;> subst h1
  · subst h2; exact hh_pd h
  · exact hh_sy h
  · refine hh_of (g := g) h (fun k hk => ?_)
    show mkF i g (70 + k) = _
    unfold mkF
    rw [if_neg (by omega), if_neg (by omega)]
  · refine hh_of (g := g) h (fun k hk => ?_)
    show slF i g (70 + k) = _
    unfold slF
    rw [if_neg (by omega)]
theorem hh_bg {f : FV} {n : Nat} (h : Sta n f) : ∃ H, HH (bgF f) H ∧ ∀ k, k < 8 → f k = vi (H k) := by
  obtain ⟨-, -, h3, -⟩ := h
  let X : Nat → Fin 13 := fun k => if hk : k < 8 then Classical.choose (h3 k hk) else 0
  have hX : ∀ k, k < 8 → f k = vi (X k) := fun k hk => by
    show f k = vi (if hk : k < 8 then Classical.choose (h3 k hk) else 0)
    rw [dif_pos hk]
    exact Classical.choose_spec (h3 k hk)
  refine ⟨X, fun k hk => ?_, hX⟩
  unfold bgF
  rw [if_neg (by omega), if_pos (by omega), show 70 + k - 70 = k by omega]
  exact hX k hk
theorem run_app {D : List (Nat × Nat)} {p : Nat × Nat} {f : FV} : runF (D ++ [p]) f = goF p (runF D f) := by
  simp [runF, List.foldl_append]
theorem run_nil {f : FV} : runF [] f = bgF f := rfl
/-- what holds of all farms that are run -/
theorem run_all {P : FV → Prop} {n : Nat} {f : FV} (h0 : P (bgF f)) (hs : ∀ g p, wfD n p → P g → P (goF p g)) : ∀ D : List (Nat × Nat), (∀ p ∈ D, wfD n p) → P (runF D f) := by
  intro D
  unfold runF
  generalize bgF f = g at h0
  induction D generalizing g with
  | nil => intro _; exact h0
  | cons p D ih =>
    intro hD
    exact ih (goF p g) (hs g p (hD p List.mem_cons_self) h0) (fun q hq => hD q (List.mem_cons_of_mem _ hq))
theorem run_H {n : Nat} {f : FV} {D : List (Nat × Nat)} (hS : Sta n f) (hD : ∀ p ∈ D, wfD n p) : ∃ H, HH (runF D f) H := by
  obtain ⟨H, hH, -⟩ := hh_bg hS
  exact run_all (P := fun g => ∃ H, HH g H) ⟨H, hH⟩ (fun g p hp ⟨H, h⟩ => ⟨goH p H, hh_go hS.1 hp h⟩) D hD
theorem pd_o {g : FV} {q : Nat} (h : q < 69 ∨ 78 ≤ q) : pdF g q = g q := by
  unfold pdF; rw [if_neg (by omega), if_neg (by omega), if_neg (by omega)]
theorem sy_o {g : FV} {m q : Nat} (hm : m < 4) (h : q < 70 ∨ 78 ≤ q) : syF m g q = g q := by
  unfold syF; rw [if_neg (by omega)]
theorem mk_o {g : FV} {i q : Nat} (h1 : q ≠ 84 + i) (h2 : q ≠ 78 + i) : mkF i g q = g q := by
  unfold mkF; rw [if_neg h1, if_neg h2]
theorem sl_o {g : FV} {i q : Nat} (h1 : q ≠ 90 + i) : slF i g q = g q := by
  unfold slF; rw [if_neg h1]
/-- what deeds leave as it is -/
theorem go_st {p : Nat × Nat} {g : FV} {k n : Nat} (hp : wfD n p) (hk : k < 69) : goF p g k = g k := by
  obtain ⟨w, i⟩ := p
  rcases hp with ⟨h1, h2⟩ | ⟨h1, h2⟩ | ⟨h1 | h1, h2⟩ <;> simp only at h1 h2 <;> subst h1
  · exact pd_o (Or.inl hk)
  · exact sy_o h2 (by omega)
  · exact mk_o (by omega) (by omega)
  · exact sl_o (by omega)
theorem run_st {n : Nat} {f : FV} {D : List (Nat × Nat)} (hD : ∀ p ∈ D, wfD n p) {k : Nat} (hk : k < 69) : runF D f k = f k := by
  refine run_all (P := fun g => g k = f k) (n := n) ?_ (fun g p hp h => ?_) D hD
  · unfold bgF
    (repeat' split) <;> first | rfl | omega
  · rw [go_st hp hk]; exact h
/-- the class's static facts -/
def SC (I : IT) (f : FV) (n : Nat) : Prop := I 4 5 = f 8 ∧ I 4 6 = f 9 ∧ ∀ i, i < n → I (14 + i) 0 = f (10 + i) ∧ I (14 + i) 1 = f (16 + i) ∧ I (14 + i) 2 = f (22 + i)
/-- what a deed does to the class -/
def acI (p : Nat × Nat) (H : Nat → Fin 13) (I : IT) : IT :=
  if p.1 = 0 then up (upA I 8 (hv (pdH H) (I 8))) 4 7 (I 4 7 + 1) else if p.1 = 1 then upA I 8 (hv (syH p.2 H) (I 8)) else if p.1 = 2 then up (up I (14 + p.2) 3 (I 4 7)) (14 + p.2) 4 (rindI (I (14 + p.2) 0) (I (14 + p.2) 2) (Int32.ofNat (totN H)) (!decide (Int32.ofNat (totN H) < I 4 5))) else up I (14 + p.2) 5 1
theorem ac_fr {p : Nat × Nat} {n : Nat} (hn : n ≤ 6) (hp : wfD n p) {H : Nat → Fin 13} {I : IT} {b : Nat} (h : b ≠ 4 ∧ b ≠ 8 ∧ (b < 14 ∨ 19 < b)) : acI p H I b = I b := by
  unfold acI wfD at *
  funext q
  (repeat' split) <;> simp only [up_at, upA_at2, upJ_at, true_and, and_true, and_self, false_and, and_false, if_true, if_false, ↓reduceIte, Nat.reduceEqDiff, Nat.reduceAdd, Nat.reduceMul] <;> ((repeat' split) <;> first | rfl | omega)
theorem fc_ac {p : Nat × Nat} {n : Nat} (hn : n ≤ 6) (hp : wfD n p) {H : Nat → Fin 13} {I : IT} {g : FV} (hF : FC I g n) (hH : HH g H) : FC (acI p H I) (goF p g) n := by
  obtain ⟨w, i⟩ := p
  obtain ⟨f1, f2, f3, f4, f5⟩ := hF
  have hg := hh_go hn hp hH
  rcases hp with ⟨h1, h2⟩ | ⟨h1, h2⟩ | ⟨h1 | h1, h2⟩ <;> simp only at h1 h2 <;> subst h1
  · subst h2
    have e1 : acI (0, 0) H I = up (upA I 8 (hv (pdH H) (I 8))) 4 7 (I 4 7 + 1) := rfl
    have e2 : goF (0, 0) g = pdF g := rfl
    have e3 : goH (0, 0) H = pdH H := rfl
    rw [e2, e3] at hg
    rw [e1, e2]
    refine ⟨?_, ?_, ?_, fun k hk => ?_, fun j hj => ?_⟩
    · rw [pd_o (by omega)]; (try simp only [up_at, upA_at2, upJ_at, true_and, and_true, and_self, false_and, and_false, if_true, if_false, ↓reduceIte, Nat.reduceEqDiff, Nat.reduceAdd, Nat.reduceMul]); (first | done | exact f1 | ((repeat rw [if_neg (by omega)]); exact f1) | ((repeat rw [if_neg (by omega)]); (try rw [if_pos (by omega)]); (repeat rw [if_neg (by omega)]); exact f1))
    · rw [pd_o (by omega)]; (try simp only [up_at, upA_at2, upJ_at, true_and, and_true, and_self, false_and, and_false, if_true, if_false, ↓reduceIte, Nat.reduceEqDiff, Nat.reduceAdd, Nat.reduceMul]); (first | done | exact f2 | ((repeat rw [if_neg (by omega)]); exact f2) | ((repeat rw [if_neg (by omega)]); (try rw [if_pos (by omega)]); (repeat rw [if_neg (by omega)]); exact f2))
    · rw [show pdF g 69 = g 69 + 1 by simp [pdF], ← f3]; (try simp only [up_at, upA_at2, upJ_at, true_and, and_true, and_self, false_and, and_false, if_true, if_false, ↓reduceIte, Nat.reduceEqDiff, Nat.reduceAdd, Nat.reduceMul]); (first | done | exact rfl | ((repeat rw [if_neg (by omega)]); exact rfl) | ((repeat rw [if_neg (by omega)]); (try rw [if_pos (by omega)]); (repeat rw [if_neg (by omega)]); exact rfl))
    · rw [hg k hk]; (try simp only [up_at, upA_at2, upJ_at, true_and, and_true, and_self, false_and, and_false, if_true, if_false, ↓reduceIte, Nat.reduceEqDiff, Nat.reduceAdd, Nat.reduceMul]); (first | done | exact (hv_at hk) | ((repeat rw [if_neg (by omega)]); exact (hv_at hk)) | ((repeat rw [if_neg (by omega)]); (try rw [if_pos (by omega)]); (repeat rw [if_neg (by omega)]); exact (hv_at hk)))
    · obtain ⟨a1, a2, a3, a4, a5, a6⟩ := f5 j hj
      rw [pd_o (by omega), pd_o (by omega), pd_o (by omega), pd_o (by omega), pd_o (by omega), pd_o (by omega)]
      refine ⟨?_, ?_, ?_, ?_, ?_, ?_⟩
      · (try simp only [up_at, upA_at2, upJ_at, true_and, and_true, and_self, false_and, and_false, if_true, if_false, ↓reduceIte, Nat.reduceEqDiff, Nat.reduceAdd, Nat.reduceMul]); (first | done | exact a1 | ((repeat rw [if_neg (by omega)]); exact a1) | ((repeat rw [if_neg (by omega)]); (try rw [if_pos (by omega)]); (repeat rw [if_neg (by omega)]); exact a1))
      · (try simp only [up_at, upA_at2, upJ_at, true_and, and_true, and_self, false_and, and_false, if_true, if_false, ↓reduceIte, Nat.reduceEqDiff, Nat.reduceAdd, Nat.reduceMul]); (first | done | exact a2 | ((repeat rw [if_neg (by omega)]); exact a2) | ((repeat rw [if_neg (by omega)]); (try rw [if_pos (by omega)]); (repeat rw [if_neg (by omega)]); exact a2))
      · (try simp only [up_at, upA_at2, upJ_at, true_and, and_true, and_self, false_and, and_false, if_true, if_false, ↓reduceIte, Nat.reduceEqDiff, Nat.reduceAdd, Nat.reduceMul]); (first | done | exact a3 | ((repeat rw [if_neg (by omega)]); exact a3) | ((repeat rw [if_neg (by omega)]); (try rw [if_pos (by omega)]); (repeat rw [if_neg (by omega)]); exact a3))
      · (try simp only [up_at, upA_at2, upJ_at, true_and, and_true, and_self, false_and, and_false, if_true, if_false, ↓reduceIte, Nat.reduceEqDiff, Nat.reduceAdd, Nat.reduceMul]); (first | done | exact a4 | ((repeat rw [if_neg (by omega)]); exact a4) | ((repeat rw [if_neg (by omega)]); (try rw [if_pos (by omega)]); (repeat rw [if_neg (by omega)]); exact a4))
      · (try simp only [up_at, upA_at2, upJ_at, true_and, and_true, and_self, false_and, and_false, if_true, if_false, ↓reduceIte, Nat.reduceEqDiff, Nat.reduceAdd, Nat.reduceMul]); (first | done | exact a5 | ((repeat rw [if_neg (by omega)]); exact a5) | ((repeat rw [if_neg (by omega)]); (try rw [if_pos (by omega)]); (repeat rw [if_neg (by omega)]); exact a5))
      · (try simp only [up_at, upA_at2, upJ_at, true_and, and_true, and_self, false_and, and_false, if_true, if_false, ↓reduceIte, Nat.reduceEqDiff, Nat.reduceAdd, Nat.reduceMul]); (first | done | exact a6 | ((repeat rw [if_neg (by omega)]); exact a6) | ((repeat rw [if_neg (by omega)]); (try rw [if_pos (by omega)]); (repeat rw [if_neg (by omega)]); exact a6))
  · have e1 : acI (1, i) H I = upA I 8 (hv (syH i H) (I 8)) := rfl
    have e2 : goF (1, i) g = syF i g := rfl
    have e3 : goH (1, i) H = syH i H := rfl
    rw [e2, e3] at hg
    rw [e1, e2]
    refine ⟨?_, ?_, ?_, fun k hk => ?_, fun j hj => ?_⟩
    · rw [sy_o h2 (by omega)]; (try simp only [up_at, upA_at2, upJ_at, true_and, and_true, and_self, false_and, and_false, if_true, if_false, ↓reduceIte, Nat.reduceEqDiff, Nat.reduceAdd, Nat.reduceMul]); (first | done | exact f1 | ((repeat rw [if_neg (by omega)]); exact f1) | ((repeat rw [if_neg (by omega)]); (try rw [if_pos (by omega)]); (repeat rw [if_neg (by omega)]); exact f1))
    · rw [sy_o h2 (by omega)]; (try simp only [up_at, upA_at2, upJ_at, true_and, and_true, and_self, false_and, and_false, if_true, if_false, ↓reduceIte, Nat.reduceEqDiff, Nat.reduceAdd, Nat.reduceMul]); (first | done | exact f2 | ((repeat rw [if_neg (by omega)]); exact f2) | ((repeat rw [if_neg (by omega)]); (try rw [if_pos (by omega)]); (repeat rw [if_neg (by omega)]); exact f2))
    · rw [sy_o h2 (by omega)]; (try simp only [up_at, upA_at2, upJ_at, true_and, and_true, and_self, false_and, and_false, if_true, if_false, ↓reduceIte, Nat.reduceEqDiff, Nat.reduceAdd, Nat.reduceMul]); (first | done | exact f3 | ((repeat rw [if_neg (by omega)]); exact f3) | ((repeat rw [if_neg (by omega)]); (try rw [if_pos (by omega)]); (repeat rw [if_neg (by omega)]); exact f3))
    · rw [hg k hk]; (try simp only [up_at, upA_at2, upJ_at, true_and, and_true, and_self, false_and, and_false, if_true, if_false, ↓reduceIte, Nat.reduceEqDiff, Nat.reduceAdd, Nat.reduceMul]); (first | done | exact (hv_at hk) | ((repeat rw [if_neg (by omega)]); exact (hv_at hk)) | ((repeat rw [if_neg (by omega)]); (try rw [if_pos (by omega)]); (repeat rw [if_neg (by omega)]); exact (hv_at hk)))
    · obtain ⟨a1, a2, a3, a4, a5, a6⟩ := f5 j hj
      rw [sy_o h2 (by omega), sy_o h2 (by omega), sy_o h2 (by omega), sy_o h2 (by omega), sy_o h2 (by omega), sy_o h2 (by omega)]
      refine ⟨?_, ?_, ?_, ?_, ?_, ?_⟩
      · (try simp only [up_at, upA_at2, upJ_at, true_and, and_true, and_self, false_and, and_false, if_true, if_false, ↓reduceIte, Nat.reduceEqDiff, Nat.reduceAdd, Nat.reduceMul]); (first | done | exact a1 | ((repeat rw [if_neg (by omega)]); exact a1) | ((repeat rw [if_neg (by omega)]); (try rw [if_pos (by omega)]); (repeat rw [if_neg (by omega)]); exact a1))
      · (try simp only [up_at, upA_at2, upJ_at, true_and, and_true, and_self, false_and, and_false, if_true, if_false, ↓reduceIte, Nat.reduceEqDiff, Nat.reduceAdd, Nat.reduceMul]); (first | done | exact a2 | ((repeat rw [if_neg (by omega)]); exact a2) | ((repeat rw [if_neg (by omega)]); (try rw [if_pos (by omega)]); (repeat rw [if_neg (by omega)]); exact a2))
      · (try simp only [up_at, upA_at2, upJ_at, true_and, and_true, and_self, false_and, and_false, if_true, if_false, ↓reduceIte, Nat.reduceEqDiff, Nat.reduceAdd, Nat.reduceMul]); (first | done | exact a3 | ((repeat rw [if_neg (by omega)]); exact a3) | ((repeat rw [if_neg (by omega)]); (try rw [if_pos (by omega)]); (repeat rw [if_neg (by omega)]); exact a3))
      · (try simp only [up_at, upA_at2, upJ_at, true_and, and_true, and_self, false_and, and_false, if_true, if_false, ↓reduceIte, Nat.reduceEqDiff, Nat.reduceAdd, Nat.reduceMul]); (first | done | exact a4 | ((repeat rw [if_neg (by omega)]); exact a4) | ((repeat rw [if_neg (by omega)]); (try rw [if_pos (by omega)]); (repeat rw [if_neg (by omega)]); exact a4))
      · (try simp only [up_at, upA_at2, upJ_at, true_and, and_true, and_self, false_and, and_false, if_true, if_false, ↓reduceIte, Nat.reduceEqDiff, Nat.reduceAdd, Nat.reduceMul]); (first | done | exact a5 | ((repeat rw [if_neg (by omega)]); exact a5) | ((repeat rw [if_neg (by omega)]); (try rw [if_pos (by omega)]); (repeat rw [if_neg (by omega)]); exact a5))
      · (try simp only [up_at, upA_at2, upJ_at, true_and, and_true, and_self, false_and, and_false, if_true, if_false, ↓reduceIte, Nat.reduceEqDiff, Nat.reduceAdd, Nat.reduceMul]); (first | done | exact a6 | ((repeat rw [if_neg (by omega)]); exact a6) | ((repeat rw [if_neg (by omega)]); (try rw [if_pos (by omega)]); (repeat rw [if_neg (by omega)]); exact a6))
  · have e1 : acI (2, i) H I = up (up I (14 + i) 3 (I 4 7)) (14 + i) 4 (rindI (I (14 + i) 0) (I (14 + i) 2) (Int32.ofNat (totN H)) (!decide (Int32.ofNat (totN H) < I 4 5))) := rfl
    have e2 : goF (2, i) g = mkF i g := rfl
    rw [e1, e2, (f5 i h2).1, (f5 i h2).2.2.1, f1, f3, ← ang_H hH]
    have m1 : mkF i g (84 + i) = rindI (g (10 + i)) (g (22 + i)) (angF g) (!decide (angF g < g 8)) := by unfold mkF; rw [if_pos rfl]
    have m2 : mkF i g (78 + i) = g 69 := by unfold mkF; rw [if_neg (by omega), if_pos rfl]
    refine ⟨?_, ?_, ?_, fun k hk => ?_, fun j hj => ?_⟩
    · rw [mk_o (by omega) (by omega)]; (try simp only [up_at, upA_at2, upJ_at, true_and, and_true, and_self, false_and, and_false, if_true, if_false, ↓reduceIte, Nat.reduceEqDiff, Nat.reduceAdd, Nat.reduceMul]); (first | done | exact f1 | ((repeat rw [if_neg (by omega)]); exact f1) | ((repeat rw [if_neg (by omega)]); (try rw [if_pos (by omega)]); (repeat rw [if_neg (by omega)]); exact f1))
    · rw [mk_o (by omega) (by omega)]; (try simp only [up_at, upA_at2, upJ_at, true_and, and_true, and_self, false_and, and_false, if_true, if_false, ↓reduceIte, Nat.reduceEqDiff, Nat.reduceAdd, Nat.reduceMul]); (first | done | exact f2 | ((repeat rw [if_neg (by omega)]); exact f2) | ((repeat rw [if_neg (by omega)]); (try rw [if_pos (by omega)]); (repeat rw [if_neg (by omega)]); exact f2))
    · rw [mk_o (by omega) (by omega)]; (try simp only [up_at, upA_at2, upJ_at, true_and, and_true, and_self, false_and, and_false, if_true, if_false, ↓reduceIte, Nat.reduceEqDiff, Nat.reduceAdd, Nat.reduceMul]); (first | done | exact f3 | ((repeat rw [if_neg (by omega)]); exact f3) | ((repeat rw [if_neg (by omega)]); (try rw [if_pos (by omega)]); (repeat rw [if_neg (by omega)]); exact f3))
    · rw [mk_o (by omega) (by omega)]; (try simp only [up_at, upA_at2, upJ_at, true_and, and_true, and_self, false_and, and_false, if_true, if_false, ↓reduceIte, Nat.reduceEqDiff, Nat.reduceAdd, Nat.reduceMul]); (first | done | exact (f4 k hk) | ((repeat rw [if_neg (by omega)]); exact (f4 k hk)) | ((repeat rw [if_neg (by omega)]); (try rw [if_pos (by omega)]); (repeat rw [if_neg (by omega)]); exact (f4 k hk)))
    · obtain ⟨a1, a2, a3, a4, a5, a6⟩ := f5 j hj
      rw [mk_o (q := 10 + j) (by omega) (by omega), mk_o (q := 16 + j) (by omega) (by omega), mk_o (q := 22 + j) (by omega) (by omega), mk_o (q := 90 + j) (by omega) (by omega)]
      by_cases hij : j = i
      · subst hij
        rw [m1, m2]
        refine ⟨?_, ?_, ?_, ?_, ?_, ?_⟩
        · (try simp only [up_at, upA_at2, upJ_at, true_and, and_true, and_self, false_and, and_false, if_true, if_false, ↓reduceIte, Nat.reduceEqDiff, Nat.reduceAdd, Nat.reduceMul]); (first | done | exact a1 | ((repeat rw [if_neg (by omega)]); exact a1) | ((repeat rw [if_neg (by omega)]); (try rw [if_pos (by omega)]); (repeat rw [if_neg (by omega)]); exact a1))
        · (try simp only [up_at, upA_at2, upJ_at, true_and, and_true, and_self, false_and, and_false, if_true, if_false, ↓reduceIte, Nat.reduceEqDiff, Nat.reduceAdd, Nat.reduceMul]); (first | done | exact a2 | ((repeat rw [if_neg (by omega)]); exact a2) | ((repeat rw [if_neg (by omega)]); (try rw [if_pos (by omega)]); (repeat rw [if_neg (by omega)]); exact a2))
        · (try simp only [up_at, upA_at2, upJ_at, true_and, and_true, and_self, false_and, and_false, if_true, if_false, ↓reduceIte, Nat.reduceEqDiff, Nat.reduceAdd, Nat.reduceMul]); (first | done | exact a3 | ((repeat rw [if_neg (by omega)]); exact a3) | ((repeat rw [if_neg (by omega)]); (try rw [if_pos (by omega)]); (repeat rw [if_neg (by omega)]); exact a3))
        · (try simp only [up_at, upA_at2, upJ_at, true_and, and_true, and_self, false_and, and_false, if_true, if_false, ↓reduceIte, Nat.reduceEqDiff, Nat.reduceAdd, Nat.reduceMul]); (first | done | exact rfl | ((repeat rw [if_neg (by omega)]); exact rfl) | ((repeat rw [if_neg (by omega)]); (try rw [if_pos (by omega)]); (repeat rw [if_neg (by omega)]); exact rfl))
        · (try simp only [up_at, upA_at2, upJ_at, true_and, and_true, and_self, false_and, and_false, if_true, if_false, ↓reduceIte, Nat.reduceEqDiff, Nat.reduceAdd, Nat.reduceMul]); (first | done | exact rfl | ((repeat rw [if_neg (by omega)]); exact rfl) | ((repeat rw [if_neg (by omega)]); (try rw [if_pos (by omega)]); (repeat rw [if_neg (by omega)]); exact rfl))
        · (try simp only [up_at, upA_at2, upJ_at, true_and, and_true, and_self, false_and, and_false, if_true, if_false, ↓reduceIte, Nat.reduceEqDiff, Nat.reduceAdd, Nat.reduceMul]); (first | done | exact a6 | ((repeat rw [if_neg (by omega)]); exact a6) | ((repeat rw [if_neg (by omega)]); (try rw [if_pos (by omega)]); (repeat rw [if_neg (by omega)]); exact a6))
      · rw [mk_o (q := 78 + j) (by omega) (by omega), mk_o (q := 84 + j) (by omega) (by omega)]
        refine ⟨?_, ?_, ?_, ?_, ?_, ?_⟩
        · (try simp only [up_at, upA_at2, upJ_at, true_and, and_true, and_self, false_and, and_false, if_true, if_false, ↓reduceIte, Nat.reduceEqDiff, Nat.reduceAdd, Nat.reduceMul]); (first | done | exact a1 | ((repeat rw [if_neg (by omega)]); exact a1) | ((repeat rw [if_neg (by omega)]); (try rw [if_pos (by omega)]); (repeat rw [if_neg (by omega)]); exact a1))
        · (try simp only [up_at, upA_at2, upJ_at, true_and, and_true, and_self, false_and, and_false, if_true, if_false, ↓reduceIte, Nat.reduceEqDiff, Nat.reduceAdd, Nat.reduceMul]); (first | done | exact a2 | ((repeat rw [if_neg (by omega)]); exact a2) | ((repeat rw [if_neg (by omega)]); (try rw [if_pos (by omega)]); (repeat rw [if_neg (by omega)]); exact a2))
        · (try simp only [up_at, upA_at2, upJ_at, true_and, and_true, and_self, false_and, and_false, if_true, if_false, ↓reduceIte, Nat.reduceEqDiff, Nat.reduceAdd, Nat.reduceMul]); (first | done | exact a3 | ((repeat rw [if_neg (by omega)]); exact a3) | ((repeat rw [if_neg (by omega)]); (try rw [if_pos (by omega)]); (repeat rw [if_neg (by omega)]); exact a3))
        · (try simp only [up_at, upA_at2, upJ_at, true_and, and_true, and_self, false_and, and_false, if_true, if_false, ↓reduceIte, Nat.reduceEqDiff, Nat.reduceAdd, Nat.reduceMul]); (first | done | exact a4 | ((repeat rw [if_neg (by omega)]); exact a4) | ((repeat rw [if_neg (by omega)]); (try rw [if_pos (by omega)]); (repeat rw [if_neg (by omega)]); exact a4))
        · (try simp only [up_at, upA_at2, upJ_at, true_and, and_true, and_self, false_and, and_false, if_true, if_false, ↓reduceIte, Nat.reduceEqDiff, Nat.reduceAdd, Nat.reduceMul]); (first | done | exact a5 | ((repeat rw [if_neg (by omega)]); exact a5) | ((repeat rw [if_neg (by omega)]); (try rw [if_pos (by omega)]); (repeat rw [if_neg (by omega)]); exact a5))
        · (try simp only [up_at, upA_at2, upJ_at, true_and, and_true, and_self, false_and, and_false, if_true, if_false, ↓reduceIte, Nat.reduceEqDiff, Nat.reduceAdd, Nat.reduceMul]); (first | done | exact a6 | ((repeat rw [if_neg (by omega)]); exact a6) | ((repeat rw [if_neg (by omega)]); (try rw [if_pos (by omega)]); (repeat rw [if_neg (by omega)]); exact a6))
  · have e1 : acI (3, i) H I = up I (14 + i) 5 1 := rfl
    have e2 : goF (3, i) g = slF i g := rfl
    rw [e1, e2]
    have m1 : slF i g (90 + i) = 1 := by unfold slF; rw [if_pos rfl]
    refine ⟨?_, ?_, ?_, fun k hk => ?_, fun j hj => ?_⟩
    · rw [sl_o (by omega)]; (try simp only [up_at, upA_at2, upJ_at, true_and, and_true, and_self, false_and, and_false, if_true, if_false, ↓reduceIte, Nat.reduceEqDiff, Nat.reduceAdd, Nat.reduceMul]); (first | done | exact f1 | ((repeat rw [if_neg (by omega)]); exact f1) | ((repeat rw [if_neg (by omega)]); (try rw [if_pos (by omega)]); (repeat rw [if_neg (by omega)]); exact f1))
    · rw [sl_o (by omega)]; (try simp only [up_at, upA_at2, upJ_at, true_and, and_true, and_self, false_and, and_false, if_true, if_false, ↓reduceIte, Nat.reduceEqDiff, Nat.reduceAdd, Nat.reduceMul]); (first | done | exact f2 | ((repeat rw [if_neg (by omega)]); exact f2) | ((repeat rw [if_neg (by omega)]); (try rw [if_pos (by omega)]); (repeat rw [if_neg (by omega)]); exact f2))
    · rw [sl_o (by omega)]; (try simp only [up_at, upA_at2, upJ_at, true_and, and_true, and_self, false_and, and_false, if_true, if_false, ↓reduceIte, Nat.reduceEqDiff, Nat.reduceAdd, Nat.reduceMul]); (first | done | exact f3 | ((repeat rw [if_neg (by omega)]); exact f3) | ((repeat rw [if_neg (by omega)]); (try rw [if_pos (by omega)]); (repeat rw [if_neg (by omega)]); exact f3))
    · rw [sl_o (by omega)]; (try simp only [up_at, upA_at2, upJ_at, true_and, and_true, and_self, false_and, and_false, if_true, if_false, ↓reduceIte, Nat.reduceEqDiff, Nat.reduceAdd, Nat.reduceMul]); (first | done | exact (f4 k hk) | ((repeat rw [if_neg (by omega)]); exact (f4 k hk)) | ((repeat rw [if_neg (by omega)]); (try rw [if_pos (by omega)]); (repeat rw [if_neg (by omega)]); exact (f4 k hk)))
    · obtain ⟨a1, a2, a3, a4, a5, a6⟩ := f5 j hj
      rw [sl_o (q := 10 + j) (by omega), sl_o (q := 16 + j) (by omega), sl_o (q := 22 + j) (by omega), sl_o (q := 78 + j) (by omega), sl_o (q := 84 + j) (by omega)]
      by_cases hij : j = i
      · subst hij
        rw [m1]
        refine ⟨?_, ?_, ?_, ?_, ?_, ?_⟩
        · (try simp only [up_at, upA_at2, upJ_at, true_and, and_true, and_self, false_and, and_false, if_true, if_false, ↓reduceIte, Nat.reduceEqDiff, Nat.reduceAdd, Nat.reduceMul]); (first | done | exact a1 | ((repeat rw [if_neg (by omega)]); exact a1) | ((repeat rw [if_neg (by omega)]); (try rw [if_pos (by omega)]); (repeat rw [if_neg (by omega)]); exact a1))
        · (try simp only [up_at, upA_at2, upJ_at, true_and, and_true, and_self, false_and, and_false, if_true, if_false, ↓reduceIte, Nat.reduceEqDiff, Nat.reduceAdd, Nat.reduceMul]); (first | done | exact a2 | ((repeat rw [if_neg (by omega)]); exact a2) | ((repeat rw [if_neg (by omega)]); (try rw [if_pos (by omega)]); (repeat rw [if_neg (by omega)]); exact a2))
        · (try simp only [up_at, upA_at2, upJ_at, true_and, and_true, and_self, false_and, and_false, if_true, if_false, ↓reduceIte, Nat.reduceEqDiff, Nat.reduceAdd, Nat.reduceMul]); (first | done | exact a3 | ((repeat rw [if_neg (by omega)]); exact a3) | ((repeat rw [if_neg (by omega)]); (try rw [if_pos (by omega)]); (repeat rw [if_neg (by omega)]); exact a3))
        · (try simp only [up_at, upA_at2, upJ_at, true_and, and_true, and_self, false_and, and_false, if_true, if_false, ↓reduceIte, Nat.reduceEqDiff, Nat.reduceAdd, Nat.reduceMul]); (first | done | exact a4 | ((repeat rw [if_neg (by omega)]); exact a4) | ((repeat rw [if_neg (by omega)]); (try rw [if_pos (by omega)]); (repeat rw [if_neg (by omega)]); exact a4))
        · (try simp only [up_at, upA_at2, upJ_at, true_and, and_true, and_self, false_and, and_false, if_true, if_false, ↓reduceIte, Nat.reduceEqDiff, Nat.reduceAdd, Nat.reduceMul]); (first | done | exact a5 | ((repeat rw [if_neg (by omega)]); exact a5) | ((repeat rw [if_neg (by omega)]); (try rw [if_pos (by omega)]); (repeat rw [if_neg (by omega)]); exact a5))
        · (try simp only [up_at, upA_at2, upJ_at, true_and, and_true, and_self, false_and, and_false, if_true, if_false, ↓reduceIte, Nat.reduceEqDiff, Nat.reduceAdd, Nat.reduceMul]); (first | done | exact rfl | ((repeat rw [if_neg (by omega)]); exact rfl) | ((repeat rw [if_neg (by omega)]); (try rw [if_pos (by omega)]); (repeat rw [if_neg (by omega)]); exact rfl))
      · rw [sl_o (q := 90 + j) (by omega)]
        refine ⟨?_, ?_, ?_, ?_, ?_, ?_⟩
        · (try simp only [up_at, upA_at2, upJ_at, true_and, and_true, and_self, false_and, and_false, if_true, if_false, ↓reduceIte, Nat.reduceEqDiff, Nat.reduceAdd, Nat.reduceMul]); (first | done | exact a1 | ((repeat rw [if_neg (by omega)]); exact a1) | ((repeat rw [if_neg (by omega)]); (try rw [if_pos (by omega)]); (repeat rw [if_neg (by omega)]); exact a1))
        · (try simp only [up_at, upA_at2, upJ_at, true_and, and_true, and_self, false_and, and_false, if_true, if_false, ↓reduceIte, Nat.reduceEqDiff, Nat.reduceAdd, Nat.reduceMul]); (first | done | exact a2 | ((repeat rw [if_neg (by omega)]); exact a2) | ((repeat rw [if_neg (by omega)]); (try rw [if_pos (by omega)]); (repeat rw [if_neg (by omega)]); exact a2))
        · (try simp only [up_at, upA_at2, upJ_at, true_and, and_true, and_self, false_and, and_false, if_true, if_false, ↓reduceIte, Nat.reduceEqDiff, Nat.reduceAdd, Nat.reduceMul]); (first | done | exact a3 | ((repeat rw [if_neg (by omega)]); exact a3) | ((repeat rw [if_neg (by omega)]); (try rw [if_pos (by omega)]); (repeat rw [if_neg (by omega)]); exact a3))
        · (try simp only [up_at, upA_at2, upJ_at, true_and, and_true, and_self, false_and, and_false, if_true, if_false, ↓reduceIte, Nat.reduceEqDiff, Nat.reduceAdd, Nat.reduceMul]); (first | done | exact a4 | ((repeat rw [if_neg (by omega)]); exact a4) | ((repeat rw [if_neg (by omega)]); (try rw [if_pos (by omega)]); (repeat rw [if_neg (by omega)]); exact a4))
        · (try simp only [up_at, upA_at2, upJ_at, true_and, and_true, and_self, false_and, and_false, if_true, if_false, ↓reduceIte, Nat.reduceEqDiff, Nat.reduceAdd, Nat.reduceMul]); (first | done | exact a5 | ((repeat rw [if_neg (by omega)]); exact a5) | ((repeat rw [if_neg (by omega)]); (try rw [if_pos (by omega)]); (repeat rw [if_neg (by omega)]); exact a5))
        · (try simp only [up_at, upA_at2, upJ_at, true_and, and_true, and_self, false_and, and_false, if_true, if_false, ↓reduceIte, Nat.reduceEqDiff, Nat.reduceAdd, Nat.reduceMul]); (first | done | exact a6 | ((repeat rw [if_neg (by omega)]); exact a6) | ((repeat rw [if_neg (by omega)]); (try rw [if_pos (by omega)]); (repeat rw [if_neg (by omega)]); exact a6))
section
variable {d N a b k n m i μ : Nat} {I : IT} {J : JT} {v x y z w : Int32} {M : Mem} {H : Nat → Fin 13} {g : FV} {I' : IT} {T : IT} {H0 : Nat → Fin 13} {l : Nat}
theorem q1_act (hn : n ≤ 6) (hs : I 4 6 = Int32.ofNat n) {p : Nat × Nat} (hp : wfD n p) (hH : ∀ k, k < 8 → I 8 k = vi (H k)) : C (d + 4) iX1_act [.ref 4, .int (Int32.ofNat p.1), .int (Int32.ofNat p.2)] (mk N I J) = some (none, mk N (acI p H I) J) := by
  obtain ⟨w, i⟩ := p
  rcases hp with ⟨h1, h2⟩ | ⟨h1, h2⟩ | ⟨h1 | h1, h2⟩ <;> simp only at h1 h2 <;> subst h1
  · subst h2
    simp only [K_some, K_void, K_none, wA_ref, wA_null, isNull_null, isNull_ref, c_int, c_long, c_ref, c_null, c_float, catS_nil, catS_cons, fit_int, fit_bool, fit_long, isO_mk, len_mk, fld_mk, gI_mk, gI0_mk, gZ_mk, gR_mk, isI_mk, isR_mk, tag_mk, lenE_mk, datR_mk, isOs, lenOs, fldS, lenS, gIs, gI0s, gZs, gRs, isIs, isRs, tagS, datRs, mkv, refV, fkS, isArr, tagOk, datI_mk, wrI_mk, wrA_mk, wrF_mk, wrJ_mk, List.length_cons, List.length_nil, List.getElem?_cons_zero, List.getElem?_cons_succ, List.getElem?_nil, ↓reduceIte, Nat.reduceAdd, Nat.reduceMul, Nat.reduceSub, Nat.reduceDiv, Nat.reduceMod, Nat.reduceLT, Nat.reduceLeDiff, Nat.reduceBEq, Nat.reduceEqDiff, Nat.zero_lt_succ, beq_self_eq_true, Bool.true_and, Bool.and_true, Bool.or_true, Bool.true_or, Bool.or_false, Bool.false_or, Bool.false_and, Bool.and_false, Bool.not_true, Bool.not_false, Bool.false_eq_true, Bool.true_eq_false, Bool.and_eq_true, Bool.or_eq_true, Bool.not_eq_true', decide_eq_true_eq, decide_eq_false_iff_not, decide_true, decide_false, and_self, true_and, and_true, or_true, true_or, or_false, false_or, and_false, false_and, or_self, reduceCtorEq, not_true_eq_false, not_false_eq_true, if_true, if_false, Int32.reduceAdd, Int32.reduceSub, Int32.reduceMul, Int32.reduceDiv, Int32.reduceMod, Int32.reduceLT, Int32.reduceLE, eqF1, eqF2, Int32.reduceOfNat, Int32.reduceOfInt, Int32.reduceToNatClampNeg, inb_lit, en_X1_act, e_X1_act_0, e_X1_act_1, e_X1_act_4, e_X1_act_5, e_X1_act_8, e_X1_act_11, e_X1_act_12, e_X1_act_13, e_X1_act_16, e_X1_act_17, e_X1_act_18, e_X1_act_21, e_X1_act_24, e_X1_act_25, e_X1_act_26, e_X1_act_29, e_X1_act_30, e_X1_act_33, e_X1_act_34, e_X1_act_37, e_X1_act_40, e_X1_act_41, e_X1_act_42, e_X1_act_43, e_X1_act_46, e_X1_act_47, e_X1_act_50, up_at, upA_at2, upJ_at, sh_4, sh_7, acI, qG_passDay (a := 7) (b := 8) sh_7 sh_8 hH]
  · simp only [K_some, K_void, K_none, wA_ref, wA_null, isNull_null, isNull_ref, c_int, c_long, c_ref, c_null, c_float, catS_nil, catS_cons, fit_int, fit_bool, fit_long, isO_mk, len_mk, fld_mk, gI_mk, gI0_mk, gZ_mk, gR_mk, isI_mk, isR_mk, tag_mk, lenE_mk, datR_mk, isOs, lenOs, fldS, lenS, gIs, gI0s, gZs, gRs, isIs, isRs, tagS, datRs, mkv, refV, fkS, isArr, tagOk, datI_mk, wrI_mk, wrA_mk, wrF_mk, wrJ_mk, List.length_cons, List.length_nil, List.getElem?_cons_zero, List.getElem?_cons_succ, List.getElem?_nil, ↓reduceIte, Nat.reduceAdd, Nat.reduceMul, Nat.reduceSub, Nat.reduceDiv, Nat.reduceMod, Nat.reduceLT, Nat.reduceLeDiff, Nat.reduceBEq, Nat.reduceEqDiff, Nat.zero_lt_succ, beq_self_eq_true, Bool.true_and, Bool.and_true, Bool.or_true, Bool.true_or, Bool.or_false, Bool.false_or, Bool.false_and, Bool.and_false, Bool.not_true, Bool.not_false, Bool.false_eq_true, Bool.true_eq_false, Bool.and_eq_true, Bool.or_eq_true, Bool.not_eq_true', decide_eq_true_eq, decide_eq_false_iff_not, decide_true, decide_false, and_self, true_and, and_true, or_true, true_or, or_false, false_or, and_false, false_and, or_self, reduceCtorEq, not_true_eq_false, not_false_eq_true, if_true, if_false, Int32.reduceAdd, Int32.reduceSub, Int32.reduceMul, Int32.reduceDiv, Int32.reduceMod, Int32.reduceLT, Int32.reduceLE, eqF1, eqF2, Int32.reduceOfNat, Int32.reduceOfInt, Int32.reduceToNatClampNeg, inb_lit, en_X1_act, e_X1_act_0, e_X1_act_1, e_X1_act_4, e_X1_act_5, e_X1_act_8, e_X1_act_11, e_X1_act_12, e_X1_act_13, e_X1_act_16, e_X1_act_17, e_X1_act_18, e_X1_act_21, e_X1_act_24, e_X1_act_25, e_X1_act_26, e_X1_act_29, e_X1_act_30, e_X1_act_33, e_X1_act_34, e_X1_act_37, e_X1_act_40, e_X1_act_41, e_X1_act_42, e_X1_act_43, e_X1_act_46, e_X1_act_47, e_X1_act_50, sh_4, sh_7, acI, qG_raise (a := 7) (b := 8) sh_7 sh_8 hH h2]
  · have hi : inb (Int32.ofNat i) n = true := inb_ofNat h2 (by omega)
    have e1 : (Int32.ofNat i).toNatClampNeg = i := nat_ofNat (by omega)
    have e2 : (4 = 14 + i) = False := eq_false (by omega)
    have e3 : (8 = 14 + i) = False := eq_false (by omega)
    have hH2 : ∀ k, k < 8 → up I (14 + i) 3 (I 4 7) 8 k = vi (H k) := fun k hk => by simp only [up_at, upA_at2, upJ_at, e3, false_and, if_false]; exact hH k hk
    simp only [K_some, K_void, K_none, wA_ref, wA_null, isNull_null, isNull_ref, c_int, c_long, c_ref, c_null, c_float, catS_nil, catS_cons, fit_int, fit_bool, fit_long, isO_mk, len_mk, fld_mk, gI_mk, gI0_mk, gZ_mk, gR_mk, isI_mk, isR_mk, tag_mk, lenE_mk, datR_mk, isOs, lenOs, fldS, lenS, gIs, gI0s, gZs, gRs, isIs, isRs, tagS, datRs, mkv, refV, fkS, isArr, tagOk, datI_mk, wrI_mk, wrA_mk, wrF_mk, wrJ_mk, List.length_cons, List.length_nil, List.getElem?_cons_zero, List.getElem?_cons_succ, List.getElem?_nil, ↓reduceIte, Nat.reduceAdd, Nat.reduceMul, Nat.reduceSub, Nat.reduceDiv, Nat.reduceMod, Nat.reduceLT, Nat.reduceLeDiff, Nat.reduceBEq, Nat.reduceEqDiff, Nat.zero_lt_succ, beq_self_eq_true, Bool.true_and, Bool.and_true, Bool.or_true, Bool.true_or, Bool.or_false, Bool.false_or, Bool.false_and, Bool.and_false, Bool.not_true, Bool.not_false, Bool.false_eq_true, Bool.true_eq_false, Bool.and_eq_true, Bool.or_eq_true, Bool.not_eq_true', decide_eq_true_eq, decide_eq_false_iff_not, decide_true, decide_false, and_self, true_and, and_true, or_true, true_or, or_false, false_or, and_false, false_and, or_self, reduceCtorEq, not_true_eq_false, not_false_eq_true, if_true, if_false, Int32.reduceAdd, Int32.reduceSub, Int32.reduceMul, Int32.reduceDiv, Int32.reduceMod, Int32.reduceLT, Int32.reduceLE, eqF1, eqF2, Int32.reduceOfNat, Int32.reduceOfInt, Int32.reduceToNatClampNeg, inb_lit, en_X1_act, e_X1_act_0, e_X1_act_1, e_X1_act_4, e_X1_act_5, e_X1_act_8, e_X1_act_11, e_X1_act_12, e_X1_act_13, e_X1_act_16, e_X1_act_17, e_X1_act_18, e_X1_act_21, e_X1_act_24, e_X1_act_25, e_X1_act_26, e_X1_act_29, e_X1_act_30, e_X1_act_33, e_X1_act_34, e_X1_act_37, e_X1_act_40, e_X1_act_41, e_X1_act_42, e_X1_act_43, e_X1_act_46, e_X1_act_47, e_X1_act_50, en_X1_actOn, e_X1_actOn_0, e_X1_actOn_1, e_X1_actOn_4, e_X1_actOn_5, e_X1_actOn_6, e_X1_actOn_7, e_X1_actOn_10, e_X1_actOn_11, e_X1_actOn_12, e_X1_actOn_15, e_X1_actOn_18, e_X1_actOn_19, e_X1_actOn_20, e_X1_actOn_23, e_X1_actOn_24, e_X1_actOn_27, e_X1_actOn_28, e_X1_actOn_31, e_X1_actOn_34, e_X1_actOn_35, e_X1_actOn_38, e_X1_actOn_41, e_X1_actOn_44, e_X1_actOn_47, e_X1_actOn_48, e_X1_actOn_49, e_X1_actOn_52, e_X1_actOn_53, e_X1_actOn_54, e_X1_actOn_57, up_at, upA_at2, upJ_at, sh_4, sh_7, acI, q1_wheelOf hn hs hi, e1, e2, sh_wheel (show i < 6 by omega), qG_total (a := 7) (b := 8) sh_7 sh_8 hH2, q9_rindOf]
  · have hi : inb (Int32.ofNat i) n = true := inb_ofNat h2 (by omega)
    have e1 : (Int32.ofNat i).toNatClampNeg = i := nat_ofNat (by omega)
    simp only [K_some, K_void, K_none, wA_ref, wA_null, isNull_null, isNull_ref, c_int, c_long, c_ref, c_null, c_float, catS_nil, catS_cons, fit_int, fit_bool, fit_long, isO_mk, len_mk, fld_mk, gI_mk, gI0_mk, gZ_mk, gR_mk, isI_mk, isR_mk, tag_mk, lenE_mk, datR_mk, isOs, lenOs, fldS, lenS, gIs, gI0s, gZs, gRs, isIs, isRs, tagS, datRs, mkv, refV, fkS, isArr, tagOk, datI_mk, wrI_mk, wrA_mk, wrF_mk, wrJ_mk, List.length_cons, List.length_nil, List.getElem?_cons_zero, List.getElem?_cons_succ, List.getElem?_nil, ↓reduceIte, Nat.reduceAdd, Nat.reduceMul, Nat.reduceSub, Nat.reduceDiv, Nat.reduceMod, Nat.reduceLT, Nat.reduceLeDiff, Nat.reduceBEq, Nat.reduceEqDiff, Nat.zero_lt_succ, beq_self_eq_true, Bool.true_and, Bool.and_true, Bool.or_true, Bool.true_or, Bool.or_false, Bool.false_or, Bool.false_and, Bool.and_false, Bool.not_true, Bool.not_false, Bool.false_eq_true, Bool.true_eq_false, Bool.and_eq_true, Bool.or_eq_true, Bool.not_eq_true', decide_eq_true_eq, decide_eq_false_iff_not, decide_true, decide_false, and_self, true_and, and_true, or_true, true_or, or_false, false_or, and_false, false_and, or_self, reduceCtorEq, not_true_eq_false, not_false_eq_true, if_true, if_false, Int32.reduceAdd, Int32.reduceSub, Int32.reduceMul, Int32.reduceDiv, Int32.reduceMod, Int32.reduceLT, Int32.reduceLE, eqF1, eqF2, Int32.reduceOfNat, Int32.reduceOfInt, Int32.reduceToNatClampNeg, inb_lit, en_X1_act, e_X1_act_0, e_X1_act_1, e_X1_act_4, e_X1_act_5, e_X1_act_8, e_X1_act_11, e_X1_act_12, e_X1_act_13, e_X1_act_16, e_X1_act_17, e_X1_act_18, e_X1_act_21, e_X1_act_24, e_X1_act_25, e_X1_act_26, e_X1_act_29, e_X1_act_30, e_X1_act_33, e_X1_act_34, e_X1_act_37, e_X1_act_40, e_X1_act_41, e_X1_act_42, e_X1_act_43, e_X1_act_46, e_X1_act_47, e_X1_act_50, en_X1_actOn, e_X1_actOn_0, e_X1_actOn_1, e_X1_actOn_4, e_X1_actOn_5, e_X1_actOn_6, e_X1_actOn_7, e_X1_actOn_10, e_X1_actOn_11, e_X1_actOn_12, e_X1_actOn_15, e_X1_actOn_18, e_X1_actOn_19, e_X1_actOn_20, e_X1_actOn_23, e_X1_actOn_24, e_X1_actOn_27, e_X1_actOn_28, e_X1_actOn_31, e_X1_actOn_34, e_X1_actOn_35, e_X1_actOn_38, e_X1_actOn_41, e_X1_actOn_44, e_X1_actOn_47, e_X1_actOn_48, e_X1_actOn_49, e_X1_actOn_52, e_X1_actOn_53, e_X1_actOn_54, e_X1_actOn_57, up_at, upA_at2, upJ_at, sh_4, sh_7, acI, q1_wheelOf hn hs hi, e1, sh_wheel (show i < 6 by omega)]
end
