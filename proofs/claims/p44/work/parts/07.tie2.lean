/-! THE TIE, 2: a pure heap beside a real one; each step of the pure machine is the real machine's -/
def rl (ad : Nat → Nat) (v : Value) : Value := match v with
  | .ref a => .ref (ad a)
  | v => v
theorem rl_cat (ad : Nat → Nat) (v : Value) : (rl ad v).category = v.category := by cases v <;> rfl
theorem rl_cats (ad : Nat → Nat) (S : List Value) : ((S.map (rl ad)).map fun v => v.category).sum = catS S := by
  unfold catS
  rw [List.map_map]
  congr 1
  exact List.map_congr_left fun v _ => rl_cat ad v
def trE (ad : Nat → Nat) (dA : Nat → ClassId) (c : PE) : va_E := match c with
  | .inl x => .inl (dA x.1, (x.2.1, .inl x.2.2))
  | .inr (.inl x) => .inl (dA x.1, (x.2.1, .inr (.inr (.inr (.inr (fun j => (x.2.2 j).map ad))))))
  | .inr (.inr x) => .inr (x.1, x.2.map (rl ad))
def WS (ad : Nat → Nat) (dA : Nat → ClassId) (M : Mem) : va_W := (List.range (M.2.1 - 1)).map fun k => (ad (k + 1), trE ad dA (M.1 (k + 1)))
section
variable {ad : Nat → Nat} {dA : Nat → ClassId} {M : Mem} {a : Nat} {cc : PE}
theorem WS_get (h1 : 1 ≤ a) (h2 : a < M.2.1) : (WS ad dA M)[a - 1]? = some (ad a, trE ad dA (rd M a)) := by
  unfold WS rd
  rw [List.getElem?_map, List.getElem?_range (by omega), Option.map_some, show a - 1 + 1 = a by omega]
theorem WS_nth {k : Nat} {q : Nat × va_E} (h : (WS ad dA M)[k]? = some q) : k + 1 < M.2.1 ∧ q = (ad (k + 1), trE ad dA (M.1 (k + 1))) := by
  unfold WS at h
  rw [List.getElem?_map] at h
  obtain ⟨j, hj, hq⟩ := Option.map_eq_some_iff.mp h
  obtain ⟨hlt, he⟩ := List.getElem?_eq_some_iff.mp hj
  rw [List.length_range] at hlt
  rw [List.getElem_range] at he
  subst he
  exact ⟨by omega, hq.symm⟩
theorem WS_set (h1 : 1 ≤ a) (h2 : a < M.2.1) : (WS ad dA M).set (a - 1) (ad a, trE ad dA cc) = WS ad dA (wr M a cc) := by
  apply List.ext_getElem?
  intro k
  rw [List.getElem?_set]
  by_cases hk : a - 1 = k
  · rw [if_pos hk]
    subst hk
    have e := WS_get (ad := ad) (dA := dA) (M := wr M a cc) (a := a) h1 h2
    rw [e, if_pos (by unfold WS; simp; omega)]
    simp [rd, wr]
  · rw [if_neg hk]
    unfold WS wr
    simp only
    rw [List.getElem?_map, List.getElem?_map]
    by_cases hl : k < M.2.1 - 1
    · rw [List.getElem?_range hl, Option.map_some, Option.map_some, if_neg (by omega)]
    · rw [List.getElem?_eq_none (by simp; omega)]
      rfl
theorem WS_al {n : Nat} (h1 : 1 ≤ M.2.1) : WS ad dA M ++ [(ad M.2.1, trE ad dA cc)] = WS ad dA (al M cc n) := by
  unfold WS al
  simp only
  rw [show M.2.1 + 1 - 1 = (M.2.1 - 1) + 1 by omega, List.range_succ, List.map_append, List.map_singleton, show M.2.1 - 1 + 1 = M.2.1 by omega, if_pos rfl]
  congr 1
  refine List.map_congr_left fun k hk => ?_
  have := List.mem_range.mp hk
  rw [if_neg (by omega)]
def Cor (D : va_G) (ad : Nat → Nat) (dA : Nat → ClassId) (Ls : Nat) (xs : Nat → Int32) (M : Mem) (H : Heap) : Prop := 1 ≤ M.2.1 ∧ va_P D cls (WS ad dA M) H ∧ M.1 0 = pI 9 Ls xs ∧ ∀ k, M.2.1 ≤ k → M.1 k = pO 99 []
def Geo (ad : Nat → Nat) (base b0 : Nat) : Prop := ad 0 = b0 ∧ b0 < base ∧ ∀ k, ad (k + 1) = base + k
def tysL (dA : Nat → ClassId) : List (ClassId × FieldType) := [(dA 0, .int), (dA 1, .int), (dA 9, .int), (dA 10, .object (RNm 0)), (dA 12, .object (RNm 2)), (dA 15, .object (RNm 5)), (dA 18, .object (RNm 8))]
theorem tys_tag {t : Nat} (h : tagOk t = true) : ∃ k : Nat, (tysL dA)[k]? = some (dA t, FieldType.object (RNm (tagC t))) := by
  simp only [tagOk, Bool.or_eq_true, beq_iff_eq] at h
  rcases h with ((h | h) | h) | h
  · subst h; exact ⟨3, rfl⟩
  · subst h; exact ⟨4, rfl⟩
  · subst h; exact ⟨5, rfl⟩
  · subst h; exact ⟨6, rfl⟩
variable {D : va_G} {Ls base b0 : Nat} {xs : Nat → Int32} {H : Heap}
theorem WS_D (hG : Geo ad base b0) : va_D (fun q => base ≤ q) (WS ad dA M) := by
  refine ⟨fun i j p q hi hj he => ?_, fun k q hk => ?_⟩
  · obtain ⟨-, rfl⟩ := WS_nth hi
    obtain ⟨-, rfl⟩ := WS_nth hj
    simp only [hG.2.2] at he
    omega
  · obtain ⟨-, rfl⟩ := WS_nth hk
    simp only [hG.2.2]
    omega
theorem live_O {ci : Nat} (hC : Cor D ad dA Ls xs M H) (h : isO (rd M a) ci = true) (hci : ci < 10) : 1 ≤ a ∧ a < M.2.1 := by
  constructor
  · rcases Nat.eq_zero_or_pos a with h0 | h0
    · subst h0
      rw [rd, hC.2.2.1] at h
      cases h
    · exact h0
  · rcases Nat.lt_or_ge a M.2.1 with h0 | h0
    · exact h0
    · rw [rd, hC.2.2.2 a h0] at h
      simp only [isO, beq_iff_eq] at h
      omega
theorem live_I (hC : Cor D ad dA Ls xs M H) (h : isIE (rd M a) = true) (h0 : a ≠ 0) : 1 ≤ a ∧ a < M.2.1 := by
  refine ⟨Nat.pos_of_ne_zero h0, ?_⟩
  rcases Nat.lt_or_ge a M.2.1 with h0 | h0
  · exact h0
  · rw [rd, hC.2.2.2 a h0] at h
    cases h
theorem live_R (hC : Cor D ad dA Ls xs M H) (h : isRE (rd M a) = true) : 1 ≤ a ∧ a < M.2.1 := by
  constructor
  · rcases Nat.eq_zero_or_pos a with h0 | h0
    · subst h0
      rw [rd, hC.2.2.1] at h
      cases h
    · exact h0
  · rcases Nat.lt_or_ge a M.2.1 with h0 | h0
    · exact h0
    · rw [rd, hC.2.2.2 a h0] at h
      cases h
theorem tag9_ne (hC : Cor D ad dA Ls xs M H) (h : tagE (rd M a) ≠ 9) : a ≠ 0 := by
  intro h0
  subst h0
  rw [rd, hC.2.2.1] at h
  exact h rfl
theorem Cor_wr {H1 : Heap} (hC : Cor D ad dA Ls xs M H) (h1 : 1 ≤ a) (h2 : a < M.2.1) (hP : va_P D cls (WS ad dA (wr M a cc)) H1) : Cor D ad dA Ls xs (wr M a cc) H1 := by
  refine ⟨hC.1, hP, ?_, fun k hk => ?_⟩
  · show (if 0 = a then cc else M.1 0) = _
    rw [if_neg (by omega)]
    exact hC.2.2.1
  · show (if k = a then cc else M.1 k) = _
    have hk : M.2.1 ≤ k := hk
    rw [if_neg (by omega)]
    exact hC.2.2.2 k hk
theorem Cor_al {H1 : Heap} {n : Nat} (hC : Cor D ad dA Ls xs M H) (hP : va_P D cls (WS ad dA (al M cc n)) H1) : Cor D ad dA Ls xs (al M cc n) H1 := by
  have h0 := hC.1
  refine ⟨by show 1 ≤ M.2.1 + 1; omega, hP, ?_, fun k hk => ?_⟩
  · show (if 0 = M.2.1 then cc else M.1 0) = _
    rw [if_neg (by omega)]
    exact hC.2.2.1
  · show (if k = M.2.1 then cc else M.1 k) = _
    have hk : M.2.1 + 1 ≤ k := hk
    rw [if_neg (by omega)]
    exact hC.2.2.2 k (by omega)
end
def ascV (ad : Nat → Nat) (i : Nat) (o : Option Value) : Option (Nat × Value) := match o with
  | some (.float _) => none
  | some v => some (i, rl ad v)
  | none => none
def asc (ad : Nat → Nat) (L : List Value) : List (Nat × Value) := (List.range L.length).filterMap fun i => ascV ad i L[i]?
theorem mem_asc {ad : Nat → Nat} {L : List Value} {i : Nat} {w : Value} : (i, w) ∈ asc ad L ↔ ∃ v, L[i]? = some v ∧ (∀ z, v ≠ .float z) ∧ w = rl ad v := by
  unfold asc
  rw [List.mem_filterMap]
  constructor
  · rintro ⟨j, hj, h⟩
    rcases hv : L[j]? with _ | v
    · rw [hv] at h; cases h
    · rw [hv] at h
      cases v with
      | float z => cases h
      | int z => cases h; exact ⟨_, hv, (fun z hz => by cases hz), rfl⟩
      | long z => cases h; exact ⟨_, hv, (fun z hz => by cases hz), rfl⟩
      | double z => cases h; exact ⟨_, hv, (fun z hz => by cases hz), rfl⟩
      | null => cases h; exact ⟨_, hv, (fun z hz => by cases hz), rfl⟩
      | ref z => cases h; exact ⟨_, hv, (fun z hz => by cases hz), rfl⟩
      | retAddr z => cases h; exact ⟨_, hv, (fun z hz => by cases hz), rfl⟩
  · rintro ⟨v, hv, hf, rfl⟩
    refine ⟨i, List.mem_range.mpr (List.getElem?_eq_some_iff.mp hv).1, ?_⟩
    rw [hv]
    cases v with
    | float z => exact absurd rfl (hf z)
    | _ => rfl
theorem asc_set {ad : Nat → Nat} {L : List Value} {i : Nat} {v : Value} (hp : prevOk L i = true) : ∀ q ∈ asc ad (L.set i v), q ∈ (i, rl ad v) :: (asc ad L).filter (fun q => !(q.1 == i) && !(q.1 + 1 == i && q.2.category == 2)) := by
  rintro ⟨j, w⟩ hq
  obtain ⟨u, hu, hf, rfl⟩ := mem_asc.mp hq
  rw [List.getElem?_set] at hu
  by_cases hj : i = j
  · subst hj
    rw [if_pos rfl] at hu
    split at hu
    · cases hu; exact List.mem_cons_self
    · cases hu
  · rw [if_neg hj] at hu
    refine List.mem_cons_of_mem _ (List.mem_filter.mpr ⟨mem_asc.mpr ⟨u, hu, hf, rfl⟩, ?_⟩)
    simp only [Bool.and_eq_true, Bool.not_eq_true', beq_eq_false_iff_ne, Bool.and_eq_false_iff, rl_cat]
    refine ⟨fun h => hj h.symm, ?_⟩
    by_cases h1 : j + 1 = i
    · right
      subst h1
      simp only [prevOk, List.getD_eq_getElem?_getD, hu, Option.getD_some, beq_iff_eq] at hp
      omega
    · left; exact h1
theorem asc_set2 {ad : Nat → Nat} {L : List Value} {i : Nat} {v : Value} (hp : prevOk L i = true) : ∀ q ∈ asc ad ((L.set i v).set (i + 1) (.float 0)), q ∈ (i, rl ad v) :: (asc ad L).filter (fun q => !(q.1 == i) && (!(q.1 == i + 1) && !(q.1 + 1 == i && q.2.category == 2))) := by
  rintro ⟨j, w⟩ hq
  obtain ⟨u, hu, hf, rfl⟩ := mem_asc.mp hq
  rw [List.getElem?_set] at hu
  by_cases h2 : i + 1 = j
  · rw [if_pos h2] at hu
    split at hu
    · cases hu; exact absurd rfl (hf 0)
    · cases hu
  · rw [if_neg h2] at hu
    have hm := asc_set (ad := ad) (v := v) hp _ (mem_asc.mpr ⟨u, hu, hf, rfl⟩)
    rcases List.mem_cons.mp hm with hm | hm
    · exact List.mem_cons.mpr (Or.inl hm)
    · obtain ⟨hm1, hm2⟩ := List.mem_filter.mp hm
      refine List.mem_cons_of_mem _ (List.mem_filter.mpr ⟨hm1, ?_⟩)
      simp only [Bool.and_eq_true, Bool.not_eq_true', beq_eq_false_iff_ne, Bool.and_eq_false_iff] at hm2 ⊢
      exact ⟨hm2.1, fun h => h2 h.symm, hm2.2⟩
theorem lv_less {ls : Array Slot} {n : Nat} {l1 l2 : List (Nat × Value)} (h : lv_has ls n l1) (hs : ∀ q ∈ l2, q ∈ l1) : lv_has ls n l2 := ⟨h.1, h.2.1, fun q hq => h.2.2 q (hs q hq)⟩
theorem lv_of {ad : Nat → Nat} {ls : Array Slot} {n i : Nat} {L : List Value} {v : Value} (h : lv_has ls n (asc ad L)) (hv : L[i]? = some v) (hf : ∀ z, v ≠ .float z) : ls[i]? = some (.val (rl ad v)) := h.2.2 (i, rl ad v) (mem_asc.mpr ⟨v, hv, hf, rfl⟩)
theorem ld_inv {k len i : Nat} {want : Value → Bool} {pc : Nat} {L S : List Value} {M : Mem} {r : SR} (h : ld k len i want pc L S M = some r) : ∃ v, L[i]? = some v ∧ len = k ∧ want v = true ∧ r = .inr (.inl (pc + k, L, v :: S, M)) := by
  unfold ld at h
  split at h
  · rename_i v hv
    split at h
    · rename_i hc
      cases h
      exact ⟨v, hv, hc.1, hc.2, rfl⟩
    · cases h
  · cases h
theorem st1_inv {k len i : Nat} {want : Value → Bool} {pc : Nat} {L S : List Value} {M : Mem} {r : SR} (h : st1 k len i want pc L S M = some r) : ∃ v S', S = v :: S' ∧ len = k ∧ want v = true ∧ i < L.length ∧ prevOk L i = true ∧ r = .inr (.inl (pc + k, L.set i v, S', M)) := by
  unfold st1 at h
  split at h
  · split at h
    · rename_i hc
      cases h
      exact ⟨_, _, rfl, hc.1, hc.2.1, hc.2.2.1, hc.2.2.2, rfl⟩
    · cases h
  · cases h
theorem st2_inv {k len i : Nat} {pc : Nat} {L S : List Value} {M : Mem} {r : SR} (h : st2 k len i pc L S M = some r) : ∃ x S', S = .long x :: S' ∧ len = k ∧ i + 1 < L.length ∧ prevOk L i = true ∧ r = .inr (.inl (pc + k, (L.set i (.long x)).set (i + 1) (.float 0), S', M)) := by
  unfold st2 at h
  split at h
  · split at h
    · rename_i hc
      cases h
      exact ⟨_, _, rfl, hc.1, hc.2.1, hc.2.2, rfl⟩
    · cases h
  · cases h
theorem jmp_inv {pc : Nat} {off : Int} {L S : List Value} {M : Mem} {r : SR} (h : jmp pc off L S M = some r) : ∃ t : Nat, (pc : Int) + off = (t : Int) ∧ r = .inr (.inl (t, L, S, M)) := by
  unfold jmp at h
  split at h
  · cases h
    exact ⟨tgt pc off, by unfold tgt; omega, rfl⟩
  · cases h
theorem bI2_inv {S : List Value} {f : Int32 → Int32 → Option Value} {r : Nat × List Value} (h : bI2 S f = some r) : ∃ x y S0 v, S = .int y :: .int x :: S0 ∧ f x y = some v ∧ r = (1, v :: S0) := by
  unfold bI2 at h
  split at h
  · obtain ⟨v, hv, he⟩ := Option.map_eq_some_iff.mp h
    exact ⟨_, _, _, v, rfl, hv, he.symm⟩
  · cases h
theorem bL2_inv {S : List Value} {f : Int64 → Int64 → Option Value} {r : Nat × List Value} (h : bL2 S f = some r) : ∃ x y S0 v, S = .long y :: .long x :: S0 ∧ f x y = some v ∧ r = (1, v :: S0) := by
  unfold bL2 at h
  split at h
  · obtain ⟨v, hv, he⟩ := Option.map_eq_some_iff.mp h
    exact ⟨_, _, _, v, rfl, hv, he.symm⟩
  · cases h
theorem bI1_inv {S : List Value} {f : Int32 → Value} {r : Nat × List Value} (h : bI1 S f = some r) : ∃ x S0, S = .int x :: S0 ∧ r = (1, f x :: S0) := by
  unfold bI1 at h
  split at h
  · cases h; exact ⟨_, _, rfl, rfl⟩
  · cases h
theorem bL1_inv {S : List Value} {f : Int64 → Value} {r : Nat × List Value} (h : bL1 S f = some r) : ∃ x S0, S = .long x :: S0 ∧ r = (1, f x :: S0) := by
  unfold bL1 at h
  split at h
  · cases h; exact ⟨_, _, rfl, rfl⟩
  · cases h
theorem inb_in {i : Int32} {n : Nat} (h : inb i n = true) : vp_in i n := by
  unfold inb at h
  simp only [Bool.and_eq_true, Bool.not_eq_true', decide_eq_false_iff_not, decide_eq_true_eq] at h
  rintro (h1 | h1)
  · exact h.1 h1
  · omega
