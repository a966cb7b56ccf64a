/-! NUMBERS of the model's tests: longs out of ints; sums and products of our numbers -/
theorem lc_lt (x y : Int64) : (lg_cmp x y < 0) = (x < y) := by
  unfold lg_cmp
  by_cases h : x > y
  · rw [if_pos h]; simp only [eq_iff_iff]; constructor
    · intro h; exact absurd h (by decide)
    · intro h2; exfalso; rw [gt_iff_lt, Int64.lt_iff_toInt_lt] at h; rw [Int64.lt_iff_toInt_lt] at h2; omega
  · rw [if_neg h]
    by_cases h2 : x = y
    · rw [if_pos h2]; simp only [eq_iff_iff]; constructor
      · intro h; exact absurd h (by decide)
      · intro h3; exfalso; subst h2; rw [Int64.lt_iff_toInt_lt] at h3; omega
    · rw [if_neg h2]; simp only [eq_iff_iff]; constructor
      · intro _
        rw [gt_iff_lt, Int64.lt_iff_toInt_lt] at h
        rw [Int64.lt_iff_toInt_lt]
        have : x.toInt ≠ y.toInt := fun e => h2 (Int64.toInt_inj.mp e)
        omega
      · intro _; decide
theorem lc_gt (x y : Int64) : (0 < lg_cmp x y) = (y < x) := by
  unfold lg_cmp
  by_cases h : x > y
  · rw [if_pos h]; simp only [eq_iff_iff]; exact ⟨fun _ => h, fun _ => by decide⟩
  · rw [if_neg h]
    by_cases h2 : x = y
    · rw [if_pos h2]; simp only [eq_iff_iff]; constructor
      · intro h; exact absurd h (by decide)
      · intro h3; exact absurd h3 h
    · rw [if_neg h2]; simp only [eq_iff_iff]; constructor
      · intro h; exact absurd h (by decide)
      · intro h3; exact absurd h3 h
theorem lt64 {x y : Int32} : (x.toInt64 < y.toInt64) = (x < y) := propext Int32.toInt64_lt
theorem lt64_0 {x : Int32} : (x.toInt64 < 0) = (x < 0) := by
  rw [show (0 : Int64) = (0 : Int32).toInt64 from rfl]; exact lt64
theorem gt64_1 {x : Int32} : ((1 : Int64) < x.toInt64) = (1 < x) := by
  rw [show (1 : Int64) = (1 : Int32).toInt64 from rfl]; exact lt64
theorem ls64_1 {x : Int32} : (x.toInt64 < (1 : Int64)) = (x < 1) := by
  rw [show (1 : Int64) = (1 : Int32).toInt64 from rfl]; exact lt64
theorem gt64_2 {x : Int32} : ((2 : Int64) < x.toInt64) = (2 < x) := by
  rw [show (2 : Int64) = (2 : Int32).toInt64 from rfl]; exact lt64
theorem ls64_2 {x : Int32} : (x.toInt64 < (2 : Int64)) = (x < 2) := by
  rw [show (2 : Int64) = (2 : Int32).toInt64 from rfl]; exact lt64
theorem gt64_3 {x : Int32} : ((3 : Int64) < x.toInt64) = (3 < x) := by
  rw [show (3 : Int64) = (3 : Int32).toInt64 from rfl]; exact lt64
theorem ls64_3 {x : Int32} : (x.toInt64 < (3 : Int64)) = (x < 3) := by
  rw [show (3 : Int64) = (3 : Int32).toInt64 from rfl]; exact lt64
theorem gt64_4 {x : Int32} : ((4 : Int64) < x.toInt64) = (4 < x) := by
  rw [show (4 : Int64) = (4 : Int32).toInt64 from rfl]; exact lt64
theorem ls64_4 {x : Int32} : (x.toInt64 < (4 : Int64)) = (x < 4) := by
  rw [show (4 : Int64) = (4 : Int32).toInt64 from rfl]; exact lt64
theorem gt64_5 {x : Int32} : ((5 : Int64) < x.toInt64) = (5 < x) := by
  rw [show (5 : Int64) = (5 : Int32).toInt64 from rfl]; exact lt64
theorem ls64_5 {x : Int32} : (x.toInt64 < (5 : Int64)) = (x < 5) := by
  rw [show (5 : Int64) = (5 : Int32).toInt64 from rfl]; exact lt64
theorem gt64_6 {x : Int32} : ((6 : Int64) < x.toInt64) = (6 < x) := by
  rw [show (6 : Int64) = (6 : Int32).toInt64 from rfl]; exact lt64
theorem ls64_6 {x : Int32} : (x.toInt64 < (6 : Int64)) = (x < 6) := by
  rw [show (6 : Int64) = (6 : Int32).toInt64 from rfl]; exact lt64
theorem gt64_10 {x : Int32} : ((10 : Int64) < x.toInt64) = (10 < x) := by
  rw [show (10 : Int64) = (10 : Int32).toInt64 from rfl]; exact lt64
theorem ls64_10 {x : Int32} : (x.toInt64 < (10 : Int64)) = (x < 10) := by
  rw [show (10 : Int64) = (10 : Int32).toInt64 from rfl]; exact lt64
theorem gt64_12 {x : Int32} : ((12 : Int64) < x.toInt64) = (12 < x) := by
  rw [show (12 : Int64) = (12 : Int32).toInt64 from rfl]; exact lt64
theorem ls64_12 {x : Int32} : (x.toInt64 < (12 : Int64)) = (x < 12) := by
  rw [show (12 : Int64) = (12 : Int32).toInt64 from rfl]; exact lt64
theorem gt64_20 {x : Int32} : ((20 : Int64) < x.toInt64) = (20 < x) := by
  rw [show (20 : Int64) = (20 : Int32).toInt64 from rfl]; exact lt64
theorem ls64_20 {x : Int32} : (x.toInt64 < (20 : Int64)) = (x < 20) := by
  rw [show (20 : Int64) = (20 : Int32).toInt64 from rfl]; exact lt64
theorem gt64_40 {x : Int32} : ((40 : Int64) < x.toInt64) = (40 < x) := by
  rw [show (40 : Int64) = (40 : Int32).toInt64 from rfl]; exact lt64
theorem ls64_40 {x : Int32} : (x.toInt64 < (40 : Int64)) = (x < 40) := by
  rw [show (40 : Int64) = (40 : Int32).toInt64 from rfl]; exact lt64
theorem gt64_60 {x : Int32} : ((60 : Int64) < x.toInt64) = (60 < x) := by
  rw [show (60 : Int64) = (60 : Int32).toInt64 from rfl]; exact lt64
theorem ls64_60 {x : Int32} : (x.toInt64 < (60 : Int64)) = (x < 60) := by
  rw [show (60 : Int64) = (60 : Int32).toInt64 from rfl]; exact lt64
theorem gt64_99 {x : Int32} : ((99 : Int64) < x.toInt64) = (99 < x) := by
  rw [show (99 : Int64) = (99 : Int32).toInt64 from rfl]; exact lt64
theorem ls64_99 {x : Int32} : (x.toInt64 < (99 : Int64)) = (x < 99) := by
  rw [show (99 : Int64) = (99 : Int32).toInt64 from rfl]; exact lt64
theorem gt64_100 {x : Int32} : ((100 : Int64) < x.toInt64) = (100 < x) := by
  rw [show (100 : Int64) = (100 : Int32).toInt64 from rfl]; exact lt64
theorem ls64_100 {x : Int32} : (x.toInt64 < (100 : Int64)) = (x < 100) := by
  rw [show (100 : Int64) = (100 : Int32).toInt64 from rfl]; exact lt64
theorem gt64_2147483646 {x : Int32} : ((2147483646 : Int64) < x.toInt64) = (2147483646 < x) := by
  rw [show (2147483646 : Int64) = (2147483646 : Int32).toInt64 from rfl]; exact lt64
theorem ls64_2147483646 {x : Int32} : (x.toInt64 < (2147483646 : Int64)) = (x < 2147483646) := by
  rw [show (2147483646 : Int64) = (2147483646 : Int32).toInt64 from rfl]; exact lt64
theorem mul_40 {r : Nat} : 40 * Int32.ofNat r = Int32.ofNat (40 * r) := (Int32.ofNat_mul 40 r).symm
theorem mul_60 {r : Nat} : 60 * Int32.ofNat r = Int32.ofNat (60 * r) := (Int32.ofNat_mul 60 r).symm
theorem mul_96 {r : Nat} : 96 * Int32.ofNat r = Int32.ofNat (96 * r) := (Int32.ofNat_mul 96 r).symm
theorem add_oN {a b : Nat} : Int32.ofNat a + Int32.ofNat b = Int32.ofNat (a + b) := (Int32.ofNat_add a b).symm
theorem addl_4 {a : Nat} : 4 + Int32.ofNat a = Int32.ofNat (4 + a) := (Int32.ofNat_add 4 a).symm
theorem addl_6 {a : Nat} : 6 + Int32.ofNat a = Int32.ofNat (6 + a) := (Int32.ofNat_add 6 a).symm
theorem addl_10 {a : Nat} : 10 + Int32.ofNat a = Int32.ofNat (10 + a) := (Int32.ofNat_add 10 a).symm
theorem addl_16 {a : Nat} : 16 + Int32.ofNat a = Int32.ofNat (16 + a) := (Int32.ofNat_add 16 a).symm
theorem addl_20 {a : Nat} : 20 + Int32.ofNat a = Int32.ofNat (20 + a) := (Int32.ofNat_add 20 a).symm
theorem addl_22 {a : Nat} : 22 + Int32.ofNat a = Int32.ofNat (22 + a) := (Int32.ofNat_add 22 a).symm
theorem addl_28 {a : Nat} : 28 + Int32.ofNat a = Int32.ofNat (28 + a) := (Int32.ofNat_add 28 a).symm
theorem addl_29 {a : Nat} : 29 + Int32.ofNat a = Int32.ofNat (29 + a) := (Int32.ofNat_add 29 a).symm
theorem addl_30 {a : Nat} : 30 + Int32.ofNat a = Int32.ofNat (30 + a) := (Int32.ofNat_add 30 a).symm
theorem addl_69 {a : Nat} : 69 + Int32.ofNat a = Int32.ofNat (69 + a) := (Int32.ofNat_add 69 a).symm
theorem addl_70 {a : Nat} : 70 + Int32.ofNat a = Int32.ofNat (70 + a) := (Int32.ofNat_add 70 a).symm
theorem addl_74 {a : Nat} : 74 + Int32.ofNat a = Int32.ofNat (74 + a) := (Int32.ofNat_add 74 a).symm
theorem addl_78 {a : Nat} : 78 + Int32.ofNat a = Int32.ofNat (78 + a) := (Int32.ofNat_add 78 a).symm
theorem addl_84 {a : Nat} : 84 + Int32.ofNat a = Int32.ofNat (84 + a) := (Int32.ofNat_add 84 a).symm
theorem addl_90 {a : Nat} : 90 + Int32.ofNat a = Int32.ofNat (90 + a) := (Int32.ofNat_add 90 a).symm
theorem inb_ex {i : Int32} {n : Nat} (h : inb i n = true) : ∃ k : Nat, k < n ∧ k < 2147483648 ∧ i = Int32.ofNat k := by
  obtain ⟨k, hk, rfl⟩ := oN_of (inb_neg h)
  have := inb_nat h
  rw [nat_ofNat hk] at this
  exact ⟨k, this, hk, rfl⟩
theorem inb_no {i : Int32} {n : Nat} (h : ¬ inb i n = true) (hn : n ≤ 4096) : i < 0 ∨ ¬ i < Int32.ofNat n := by
  by_cases h1 : i < 0
  · exact Or.inl h1
  · exact Or.inr fun h2 => h (inb_mk h1 (by
      rw [Int32.lt_iff_toInt_lt, oN_int (by omega)] at h2; have := nat_int h1; omega))
/-- lt, one less: between whole numbers nothing lies -/
theorem lt_le {i : Int32} {n : Nat} (hn : n ≤ 4096) : (Int32.ofNat n < i) = ¬ i < Int32.ofNat (n + 1) := by
  rw [Int32.lt_iff_toInt_lt, Int32.lt_iff_toInt_lt, oN_int (by omega), oN_int (by omega)]
  simp only [eq_iff_iff]; omega
/-! THE FARM, as one vector: 0..7 what is held at first, 8 the limit, 9 how many wheels, 10.. kinds, 16.. keeps, 22.. salts, 69 the day, 70..77 what is held, 78.. made, 84.. rinds, 90.. sold -/
abbrev FV : Type := Nat → Int32
def angF (g : FV) : Int32 := 0 + g 70 + g 71 + g 72 + g 73 + g 74 + g 75 + g 76 + g 77
def pdF (g : FV) : FV := fun k => if 70 ≤ k ∧ k < 74 then g k - (if 0 < g k then 1 else 0) else if 74 ≤ k ∧ k < 78 then g k - (if 1 < g k then 2 else g k) else if k = 69 then g 69 + 1 else g k
def syF (m : Nat) (g : FV) : FV := fun k => if k = 70 + m ∨ k = 74 + m then (if 8 < g k then 12 else g k + 3) else g k
def mkF (i : Nat) (g : FV) : FV := fun k => if k = 84 + i then rindI (g (10 + i)) (g (22 + i)) (angF g) (!decide (angF g < g 8)) else if k = 78 + i then g 69 else g k
def slF (i : Nat) (g : FV) : FV := fun k => if k = 90 + i then 1 else g k
def goF (p : Nat × Nat) (g : FV) : FV := if p.1 = 0 then pdF g else if p.1 = 1 then syF p.2 g else if p.1 = 2 then mkF p.2 g else slF p.2 g
def bgF (f : FV) : FV := fun k => if k = 69 then 0 else if 70 ≤ k ∧ k < 78 then f (k - 70) else if 78 ≤ k ∧ k < 90 then -9 else if 90 ≤ k ∧ k < 96 then 0 else f k
def runF (D : List (Nat × Nat)) (f : FV) : FV := D.foldl (fun g p => goF p g) (bgF f)
def wfD (n : Nat) (p : Nat × Nat) : Prop := (p.1 = 0 ∧ p.2 = 0) ∨ (p.1 = 1 ∧ p.2 < 4) ∨ ((p.1 = 2 ∨ p.1 = 3) ∧ p.2 < n)
def Sta (n : Nat) (f : FV) : Prop := n ≤ 6 ∧ f 9 = Int32.ofNat n ∧ (∀ k, k < 8 → ∃ x, f k = vi x) ∧ (n = 0 ∨ ∃ l, 1 ≤ l ∧ l ≤ 60 ∧ f 8 = Int32.ofNat l) ∧ ∀ i, i < n → ∃ q, q ≤ 9 ∧ f (16 + i) = Int32.ofNat q
/-- the class's farm -/
def FC (I : IT) (g : FV) (n : Nat) : Prop := I 4 5 = g 8 ∧ I 4 6 = g 9 ∧ I 4 7 = g 69 ∧ (∀ k, k < 8 → I 8 k = g (70 + k)) ∧ ∀ i, i < n → I (14 + i) 0 = g (10 + i) ∧ I (14 + i) 1 = g (16 + i) ∧ I (14 + i) 2 = g (22 + i) ∧ I (14 + i) 3 = g (78 + i) ∧ I (14 + i) 4 = g (84 + i) ∧ I (14 + i) 5 = g (90 + i)
/-- the class's deeds, at a, a + 1, a + 2 -/
def DC (I : IT) (a : Nat) (D : List (Nat × Nat)) : Prop := I a 2 = Int32.ofNat D.length ∧ ∀ j p, D[j]? = some p → I (a + 1) j = Int32.ofNat p.1 ∧ I (a + 2) j = Int32.ofNat p.2
def relF (n k : Nat) : Prop := k < 10 ∨ (10 ≤ k ∧ k < 28 ∧ (k - 10) % 6 < n) ∨ (69 ≤ k ∧ k < 78) ∨ (78 ≤ k ∧ k < 96 ∧ (k - 78) % 6 < n)
/-- the model's farm -/
def FM (h g : FV) (n : Nat) (D : List (Nat × Nat)) : Prop := (∀ k, relF n k → h k = g k) ∧ h 28 = Int32.ofNat D.length ∧ ∀ j p, D[j]? = some p → h (29 + j) = Int32.ofNat (10 * p.1 + p.2)
def okD (n : Nat) (D : List (Nat × Nat)) : Prop := D.length ≤ 40 ∧ ∀ p ∈ D, wfD n p
def KP (I : IT) (f : FV) (n j : Nat) (K : Option (List (Nat × Nat))) : Prop := match K with
  | none => I (20 + 3 * j) 2 = -1 ∧ I 80 j = 0
  | some D => okD n D ∧ DC I (20 + 3 * j) D ∧ I 80 j = 1 ∧ FM (fun q => I 79 (96 * j + q)) (runF D f) n D
def FarmIs (I : IT) (n : Nat) (f : FV) (D : List (Nat × Nat)) (K : Nat → Option (List (Nat × Nat))) : Prop := Sta n f ∧ okD n D ∧ (∀ k, k < 8 → I 6 k = f k) ∧ FC I (runF D f) n ∧ DC I 10 D ∧ FM (I 78) (runF D f) n D ∧ ∀ j, j < 3 → KP I f n j (K j)
def FarmOk (I : IT) : Prop := ∃ n f D K, FarmIs I n f D K
def fz (a : Nat) : Prop := (4 ≤ a ∧ a ≤ 28) ∨ (78 ≤ a ∧ a ≤ 80)
theorem farm_congr {I I' : IT} (h : ∀ a, fz a → I' a = I a) (hF : FarmOk I) : FarmOk I' := by
  obtain ⟨n, f, D, K, h1, h2, h3, h4, h5, h6, h7⟩ := hF
  have hn := h1.1
  have e : ∀ a, 4 ≤ a → a ≤ 28 → I' a = I a := fun a q1 q2 => h a (Or.inl ⟨q1, q2⟩)
  have e2 : ∀ a, 78 ≤ a → a ≤ 80 → I' a = I a := fun a q1 q2 => h a (Or.inr ⟨q1, q2⟩)
  refine ⟨n, f, D, K, h1, h2, ?_, ?_, ?_, ?_, ?_⟩
  · rw [e 6 (by omega) (by omega)]; exact h3
  · unfold FC
    rw [e 4 (by omega) (by omega), e 8 (by omega) (by omega)]
    refine ⟨h4.1, h4.2.1, h4.2.2.1, h4.2.2.2.1, fun i hi => ?_⟩
    rw [e (14 + i) (by omega) (by omega)]
    exact h4.2.2.2.2 i hi
  · unfold DC
    rw [e 10 (by omega) (by omega), e (10 + 1) (by omega) (by omega), e (10 + 2) (by omega) (by omega)]
    exact h5
  · rw [e2 78 (by omega) (by omega)]; exact h6
  · intro j hj
    have := h7 j hj
    unfold KP DC at this ⊢
    rw [e (20 + 3 * j) (by omega) (by omega), e (20 + 3 * j + 1) (by omega) (by omega), e (20 + 3 * j + 2) (by omega) (by omega), e2 79 (by omega) (by omega), e2 80 (by omega) (by omega)]
    exact this
/-! ROWS, TEXTS, WHAT IS TOLD -/
def RowOk (I : IT) (r : Nat) : Prop := I (57 + 2 * r) 1 = 0 ∧ I (57 + 2 * r) 2 = I 82 r ∧ (I 82 r = -1 ∨ ∃ m, m ≤ 40 ∧ I 82 r = Int32.ofNat m ∧ ∀ k, k < m → I (58 + 2 * r) k = I 81 (40 * r + k))
def TextOk (I : IT) (r : Nat) : Prop := I (69 + 2 * r) 1 = 32 ∧ I (69 + 2 * r) 2 = I 84 r ∧ (I 84 r = -1 ∨ ∃ m, m ≤ 60 ∧ I 84 r = Int32.ofNat m ∧ ∀ k, k < m → I (70 + 2 * r) k = I 83 (60 * r + k))
def ToldOk (I : IT) (J : JT) : Prop := I 55 1 = I 77 8 ∧ I 55 2 = I 77 9 ∧ (∀ k, k < 6 → I 56 k = I 85 k) ∧ J 55 3 = J 77 10 ∧ J 55 4 = J 77 11
def Inv (I : IT) (J : JT) : Prop := (∀ r, r < 6 → RowOk I r) ∧ (∀ t, t < 4 → TextOk I t) ∧ ToldOk I J ∧ FarmOk I
/-- class and model answer alike, and stay alike -/
def Agr (N : Nat) (I : IT) (J : JT) (mx mm : Nat) (as : List Value) : Prop := ∃ v I1 J1 I2 J2, C 20 mx (.ref 1 :: as) (mk N I J) = some (some v, mk N I1 J1) ∧ C 20 mm (.ref 77 :: as) (mk N I1 J1) = some (some v, mk N I2 J2) ∧ Inv I2 J2 ∧ I2 0 = I 0
theorem agr {N : Nat} {I I1 I2 : IT} {J J1 J2 : JT} {mx mm : Nat} {as : List Value} {v : Value} (h1 : C 20 mx (.ref 1 :: as) (mk N I J) = some (some v, mk N I1 J1)) (h2 : C 20 mm (.ref 77 :: as) (mk N I1 J1) = some (some v, mk N I2 J2)) (h3 : Inv I2 J2) (h4 : I2 0 = I 0) : Agr N I J mx mm as := ⟨v, I1, J1, I2, J2, h1, h2, h3, h4⟩
theorem row_congr {I I' : IT} {r : Nat} (h1 : ∀ k, I' (57 + 2 * r) k = I (57 + 2 * r) k) (h2 : ∀ k, I' (58 + 2 * r) k = I (58 + 2 * r) k) (h3 : I' 82 r = I 82 r) (h4 : ∀ k, k < 40 → I' 81 (40 * r + k) = I 81 (40 * r + k)) (h : RowOk I r) : RowOk I' r := by
  obtain ⟨a, b, c⟩ := h
  refine ⟨by rw [h1]; exact a, by rw [h1, h3]; exact b, ?_⟩
  rw [h3]
  rcases c with c | ⟨m, c1, c2, c3⟩
  · exact Or.inl c
  · exact Or.inr ⟨m, c1, c2, fun k hk => by rw [h2, h4 k (by omega)]; exact c3 k hk⟩
theorem text_congr {I I' : IT} {r : Nat} (h1 : ∀ k, I' (69 + 2 * r) k = I (69 + 2 * r) k) (h2 : ∀ k, I' (70 + 2 * r) k = I (70 + 2 * r) k) (h3 : I' 84 r = I 84 r) (h4 : ∀ k, k < 60 → I' 83 (60 * r + k) = I 83 (60 * r + k)) (h : TextOk I r) : TextOk I' r := by
  obtain ⟨a, b, c⟩ := h
  refine ⟨by rw [h1]; exact a, by rw [h1, h3]; exact b, ?_⟩
  rw [h3]
  rcases c with c | ⟨m, c1, c2, c3⟩
  · exact Or.inl c
  · exact Or.inr ⟨m, c1, c2, fun k hk => by rw [h2, h4 k (by omega)]; exact c3 k hk⟩
def rfM (w : Nat) (I : IT) : IT := up (up I 77 8 (Int32.ofNat w)) 85 w (I 85 w + 1)
theorem rfC_at {w : Nat} {I : IT} {a k : Nat} (h1 : a ≠ 55) (h2 : a ≠ 56) : rfC w I a k = I a k := by
  unfold rfC; rw [up_at, up_at, if_neg (fun h => h2 h.1), if_neg (fun h => h1 h.1)]
theorem rfC_a {w : Nat} {I : IT} {a : Nat} (h1 : a ≠ 55) (h2 : a ≠ 56) : rfC w I a = I a := funext fun _ => rfC_at h1 h2
theorem rfM_at {w : Nat} {I : IT} {a k : Nat} (h1 : a ≠ 77) (h2 : a ≠ 85) : rfM w I a k = I a k := by
  unfold rfM; rw [up_at, up_at, if_neg (fun h => h2 h.1), if_neg (fun h => h1 h.1)]
theorem rfM_a {w : Nat} {I : IT} {a : Nat} (h1 : a ≠ 77) (h2 : a ≠ 85) : rfM w I a = I a := funext fun _ => rfM_at h1 h2
/-- what leaves all cells as they are but some that no one speaks of -/
theorem inv_congr {I I' : IT} {J J' : JT} (h : ∀ a, fz a ∨ (57 ≤ a ∧ a ≤ 76) ∨ (81 ≤ a ∧ a ≤ 84) → I' a = I a) (ht : ToldOk I J → ToldOk I' J') (hI : Inv I J) : Inv I' J' := by
  obtain ⟨h1, h2, h3, h4⟩ := hI
  refine ⟨fun r hr => ?_, fun r hr => ?_, ht h3, farm_congr (fun a ha => h a (Or.inl ha)) h4⟩
  · refine row_congr (fun k => ?_) (fun k => ?_) ?_ (fun k _ => ?_) (h1 r hr)
    · rw [h (57 + 2 * r) (by omega)]
    · rw [h (58 + 2 * r) (by omega)]
    · rw [h 82 (by omega)]
    · rw [h 81 (by omega)]
  · refine text_congr (fun k => ?_) (fun k => ?_) ?_ (fun k _ => ?_) (h2 r hr)
    · rw [h (69 + 2 * r) (by omega)]
    · rw [h (70 + 2 * r) (by omega)]
    · rw [h 84 (by omega)]
    · rw [h 83 (by omega)]
theorem inv_refuse {I : IT} {J : JT} {w : Nat} (hI : Inv I J) : Inv (rfM w (rfC w I)) J := by
  refine inv_congr (I := I) (J := J) (fun a ha => ?_) (fun ht => ?_) hI
  · unfold fz at ha
    rw [rfM_a (by omega) (by omega), rfC_a (by omega) (by omega)]
  · obtain ⟨t1, t2, t3, t4⟩ := ht
    unfold rfM rfC
    refine ⟨?_, ?_, fun k hk => ?_, t4⟩
    · simp [up_at]
    · simp [up_at, t2]
    · simp only [up_at]
      by_cases hkw : k = w
      · subst hkw; simp [t3 k hk]
      · simp [hkw, t3 k hk]
theorem inv_tell {I : IT} {J : JT} {v : Int32} (hI : Inv I J) : Inv (up (up I 55 2 v) 77 9 v) J := by
  refine inv_congr (I := I) (J := J) (fun a ha => ?_) (fun ht => ?_) hI
  · unfold fz at ha
    funext k
    rw [up_at, up_at, if_neg (by omega), if_neg (by omega)]
  · obtain ⟨t1, t2, t3, t4⟩ := ht
    refine ⟨?_, ?_, fun k hk => ?_, t4⟩
    · simp [up_at, t1]
    · simp [up_at]
    · simp [up_at, t3 k hk]
