/-! NUMBERS of the model's tests: longs out of ints; sums and products of our numbers -/
theorem lc_lt (x y : Int64) : (lg_cmp x y < 0) = (x < y) := by
  unfold lg_cmp
  by_cases h : x > y
  · rw [if_pos h]; simp only [eq_iff_iff]; constructor
    · intro h; exact absurd h (by decide)
    · intro h2; exfalso; rw [gt_iff_lt, Int64.lt_iff_toInt_lt] at h; rw [Int64.lt_iff_toInt_lt] at h2; omega
  · rw [if_neg h]
    by_cases h2 : x = y
    · rw [if_pos h2]; simp only [eq_iff_iff]; constructor
      · intro h; exact absurd h (by decide)
      · intro h3; exfalso; subst h2; rw [Int64.lt_iff_toInt_lt] at h3; omega
    · rw [if_neg h2]; simp only [eq_iff_iff]; constructor
      · intro _
        rw [gt_iff_lt, Int64.lt_iff_toInt_lt] at h
        rw [Int64.lt_iff_toInt_lt]
        have : x.toInt ≠ y.toInt := fun e => h2 (Int64.toInt_inj.mp e)
        omega
      · intro _; decide
theorem lc_gt (x y : Int64) : (0 < lg_cmp x y) = (y < x) := by
  unfold lg_cmp
  by_cases h : x > y
  · rw [if_pos h]; simp only [eq_iff_iff]; exact ⟨fun _ => h, fun _ => by decide⟩
  · rw [if_neg h]
    by_cases h2 : x = y
    · rw [if_pos h2]; simp only [eq_iff_iff]; constructor
      · intro h; exact absurd h (by decide)
      · intro h3; exact absurd h3 h
    · rw [if_neg h2]; simp only [eq_iff_iff]; constructor
      · intro h; exact absurd h (by decide)
      · intro h3; exact absurd h3 h
theorem lt64 {x y : Int32} : (x.toInt64 < y.toInt64) = (x < y) := propext Int32.toInt64_lt
theorem add_oN {a b : Nat} : Int32.ofNat a + Int32.ofNat b = Int32.ofNat (a + b) := (Int32.ofNat_add a b).symm
theorem addl_4 {a : Nat} : 4 + Int32.ofNat a = Int32.ofNat (4 + a) := (Int32.ofNat_add 4 a).symm
theorem addl_6 {a : Nat} : 6 + Int32.ofNat a = Int32.ofNat (6 + a) := (Int32.ofNat_add 6 a).symm
theorem addl_10 {a : Nat} : 10 + Int32.ofNat a = Int32.ofNat (10 + a) := (Int32.ofNat_add 10 a).symm
theorem addl_16 {a : Nat} : 16 + Int32.ofNat a = Int32.ofNat (16 + a) := (Int32.ofNat_add 16 a).symm
theorem addl_20 {a : Nat} : 20 + Int32.ofNat a = Int32.ofNat (20 + a) := (Int32.ofNat_add 20 a).symm
theorem addl_22 {a : Nat} : 22 + Int32.ofNat a = Int32.ofNat (22 + a) := (Int32.ofNat_add 22 a).symm
theorem addl_28 {a : Nat} : 28 + Int32.ofNat a = Int32.ofNat (28 + a) := (Int32.ofNat_add 28 a).symm
theorem addl_29 {a : Nat} : 29 + Int32.ofNat a = Int32.ofNat (29 + a) := (Int32.ofNat_add 29 a).symm
theorem addl_30 {a : Nat} : 30 + Int32.ofNat a = Int32.ofNat (30 + a) := (Int32.ofNat_add 30 a).symm
theorem addl_69 {a : Nat} : 69 + Int32.ofNat a = Int32.ofNat (69 + a) := (Int32.ofNat_add 69 a).symm
theorem addl_70 {a : Nat} : 70 + Int32.ofNat a = Int32.ofNat (70 + a) := (Int32.ofNat_add 70 a).symm
theorem addl_74 {a : Nat} : 74 + Int32.ofNat a = Int32.ofNat (74 + a) := (Int32.ofNat_add 74 a).symm
theorem addl_78 {a : Nat} : 78 + Int32.ofNat a = Int32.ofNat (78 + a) := (Int32.ofNat_add 78 a).symm
theorem addl_84 {a : Nat} : 84 + Int32.ofNat a = Int32.ofNat (84 + a) := (Int32.ofNat_add 84 a).symm
theorem addl_90 {a : Nat} : 90 + Int32.ofNat a = Int32.ofNat (90 + a) := (Int32.ofNat_add 90 a).symm
theorem inb_ex {i : Int32} {n : Nat} (h : inb i n = true) : ∃ k : Nat, k < n ∧ k < 2147483648 ∧ i = Int32.ofNat k := by
  obtain ⟨k, hk, rfl⟩ := oN_of (inb_neg h)
  have := inb_nat h
  rw [nat_ofNat hk] at this
  exact ⟨k, this, hk, rfl⟩
theorem inb_no {i : Int32} {n : Nat} (h : ¬ inb i n = true) (hn : n ≤ 4096) : i < 0 ∨ ¬ i < Int32.ofNat n := by
  by_cases h1 : i < 0
  · exact Or.inl h1
  · exact Or.inr fun h2 => h (inb_mk h1 (by
      rw [Int32.lt_iff_toInt_lt, oN_int (by omega)] at h2; have := nat_int h1; omega))
/-- lt, one less: between whole numbers nothing lies -/
theorem lt_le {i : Int32} {n : Nat} (hn : n ≤ 4096) : (Int32.ofNat n < i) = ¬ i < Int32.ofNat (n + 1) := by
  rw [Int32.lt_iff_toInt_lt, Int32.lt_iff_toInt_lt, oN_int (by omega), oN_int (by omega)]
  simp only [eq_iff_iff]; omega
/-! THE FARM, as one vector: 0..7 what is held at first, 8 the limit, 9 how many wheels, 10.. kinds, 16.. keeps, 22.. salts, 69 the day, 70..77 what is held, 78.. made, 84.. rinds, 90.. sold -/
abbrev FV : Type := Nat → Int32
def angF (g : FV) : Int32 := 0 + g 70 + g 71 + g 72 + g 73 + g 74 + g 75 + g 76 + g 77
def pdF (g : FV) : FV := fun k => if 70 ≤ k ∧ k < 74 then g k - (if 0 < g k then 1 else 0) else if 74 ≤ k ∧ k < 78 then g k - (if 1 < g k then 2 else g k) else if k = 69 then g 69 + 1 else g k
def syF (m : Nat) (g : FV) : FV := fun k => if k = 70 + m ∨ k = 74 + m then (if 8 < g k then 12 else g k + 3) else g k
def mkF (i : Nat) (g : FV) : FV := fun k => if k = 84 + i then rindI (g (10 + i)) (g (22 + i)) (angF g) (!decide (angF g < g 8)) else if k = 78 + i then g 69 else g k
def slF (i : Nat) (g : FV) : FV := fun k => if k = 90 + i then 1 else g k
def goF (p : Nat × Nat) (g : FV) : FV := if p.1 = 0 then pdF g else if p.1 = 1 then syF p.2 g else if p.1 = 2 then mkF p.2 g else slF p.2 g
def bgF (f : FV) : FV := fun k => if k = 69 then 0 else if 70 ≤ k ∧ k < 78 then f (k - 70) else if 78 ≤ k ∧ k < 90 then -9 else if 90 ≤ k ∧ k < 96 then 0 else f k
def runF (D : List (Nat × Nat)) (f : FV) : FV := D.foldl (fun g p => goF p g) (bgF f)
def wfD (n : Nat) (p : Nat × Nat) : Prop := (p.1 = 0 ∧ p.2 = 0) ∨ (p.1 = 1 ∧ p.2 < 4) ∨ ((p.1 = 2 ∨ p.1 = 3) ∧ p.2 < n)
def Sta (n : Nat) (f : FV) : Prop := n ≤ 6 ∧ f 9 = Int32.ofNat n ∧ (∀ k, k < 8 → ∃ x, f k = vi x) ∧ (n = 0 ∨ ∃ l, 1 ≤ l ∧ l ≤ 60 ∧ f 8 = Int32.ofNat l) ∧ ∀ i, i < n → ∃ q, q ≤ 9 ∧ f (16 + i) = Int32.ofNat q
/-- the class's farm -/
def FC (I : IT) (g : FV) (n : Nat) : Prop := I 4 5 = g 8 ∧ I 4 6 = g 9 ∧ I 4 7 = g 69 ∧ (∀ k, k < 8 → I 8 k = g (70 + k)) ∧ ∀ i, i < n → I (14 + i) 0 = g (10 + i) ∧ I (14 + i) 1 = g (16 + i) ∧ I (14 + i) 2 = g (22 + i) ∧ I (14 + i) 3 = g (78 + i) ∧ I (14 + i) 4 = g (84 + i) ∧ I (14 + i) 5 = g (90 + i)
/-- the class's deeds, at a, a + 1, a + 2 -/
def DC (I : IT) (a : Nat) (D : List (Nat × Nat)) : Prop := I a 2 = Int32.ofNat D.length ∧ ∀ j p, D[j]? = some p → I (a + 1) j = Int32.ofNat p.1 ∧ I (a + 2) j = Int32.ofNat p.2
def okD (n : Nat) (D : List (Nat × Nat)) : Prop := D.length ≤ 40 ∧ ∀ p ∈ D, wfD n p
def KP (I : IT) (n j : Nat) (K : Option (List (Nat × Nat))) : Prop := match K with
  | none => I (20 + 3 * j) 2 = -1
  | some D => okD n D ∧ DC I (20 + 3 * j) D
def FarmIs (I : IT) (n : Nat) (f : FV) (D : List (Nat × Nat)) (K : Nat → Option (List (Nat × Nat))) : Prop := Sta n f ∧ okD n D ∧ (∀ k, k < 8 → I 6 k = f k) ∧ FC I (runF D f) n ∧ DC I 10 D ∧ True ∧ ∀ j, j < 3 → KP I n j (K j)
abbrev fz (a : Nat) : Prop := 4 ≤ a ∧ a ≤ 28
theorem farm_congr {I I' : IT} {n : Nat} {f : FV} {D : List (Nat × Nat)} {K : Nat → Option (List (Nat × Nat))} (h : ∀ a, fz a → I' a = I a) (hF : FarmIs I n f D K) : FarmIs I' n f D K := by
  obtain ⟨h1, h2, h3, h4, h5, h6, h7⟩ := hF
  have hn := h1.1
  have e : ∀ a, 4 ≤ a → a ≤ 28 → I' a = I a := fun a q1 q2 => h a ⟨q1, q2⟩
  refine ⟨h1, h2, ?_, ?_, ?_, h6, ?_⟩
  · rw [e 6 (by omega) (by omega)]; exact h3
  · unfold FC
    rw [e 4 (by omega) (by omega), e 8 (by omega) (by omega)]
    refine ⟨h4.1, h4.2.1, h4.2.2.1, h4.2.2.2.1, fun i hi => ?_⟩
    rw [e (14 + i) (by omega) (by omega)]
    exact h4.2.2.2.2 i hi
  · unfold DC
    rw [e 10 (by omega) (by omega), e (10 + 1) (by omega) (by omega), e (10 + 2) (by omega) (by omega)]
    exact h5
  · intro j hj
    have := h7 j hj
    unfold KP DC at this ⊢
    rw [e (20 + 3 * j) (by omega) (by omega), e (20 + 3 * j + 1) (by omega) (by omega), e (20 + 3 * j + 2) (by omega) (by omega)]
    exact this
/-! ROWS, TEXTS -/
def RowOk (I : IT) (r : Nat) : Prop := I (57 + 2 * r) 1 = 0 ∧ (I (57 + 2 * r) 2 = -1 ∨ ∃ m, m ≤ 40 ∧ I (57 + 2 * r) 2 = Int32.ofNat m)
def TextOk (I : IT) (r : Nat) : Prop := I (69 + 2 * r) 1 = 32 ∧ (I (69 + 2 * r) 2 = -1 ∨ ∃ m, m ≤ 60 ∧ I (69 + 2 * r) 2 = Int32.ofNat m)
def CI (I : IT) : Prop := (∀ r, r < 6 → RowOk I r) ∧ ∀ t, t < 4 → TextOk I t
/-- row k, its size and places -/
def Rw (I : IT) (k m : Nat) (e : Nat → Int32) : Prop := k < 6 ∧ m ≤ 40 ∧ I (57 + 2 * k) 2 = Int32.ofNat m ∧ True ∧ (∀ q, q < m → I (58 + 2 * k) q = e q) ∧ True
theorem ci_congr {I I' : IT} (h : ∀ a, 57 ≤ a → a ≤ 76 → I' a = I a) (hI : CI I) : CI I' := by
  refine ⟨fun r hr => ?_, fun r hr => ?_⟩
  · have := hI.1 r hr
    unfold RowOk at *
    rw [h (57 + 2 * r) (by omega) (by omega)]; exact this
  · have := hI.2 r hr
    unfold TextOk at *
    rw [h (69 + 2 * r) (by omega) (by omega)]; exact this
theorem rw_congr {I I' : IT} {k m : Nat} {e : Nat → Int32} (h : ∀ a, 57 ≤ a → a ≤ 76 → I' a = I a) (hR : Rw I k m e) : Rw I' k m e := by
  obtain ⟨h1, h2, h3, -, h5, -⟩ := hR
  refine ⟨h1, h2, ?_, trivial, fun q hq => ?_, trivial⟩
  · rw [h (57 + 2 * k) (by omega) (by omega)]; exact h3
  · rw [h (58 + 2 * k) (by omega) (by omega)]; exact h5 q hq
theorem rfC_at {w : Nat} {I : IT} {a k : Nat} (h1 : a ≠ 55) (h2 : a ≠ 56) : rfC w I a k = I a k := by
  unfold rfC; rw [up_at, up_at, if_neg (fun h => h2 h.1), if_neg (fun h => h1 h.1)]
theorem rfC_a {w : Nat} {I : IT} {a : Nat} (h1 : a ≠ 55) (h2 : a ≠ 56) : rfC w I a = I a := funext fun _ => rfC_at h1 h2
