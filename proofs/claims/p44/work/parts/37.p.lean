/-! numbers -/
section
variable {d N a b c k n m p t ι ν γ : Nat} {I : IT} {J : JT} {i v x y z w r s : Int32} {M : Mem} {I' : IT} {T : IT} {H0 : Nat → Fin 13} {l : Nat}
theorem oN_ne0 (h : 0 < m) (hm : m ≤ 4096) : (Int32.ofNat m = 0) = False := by
  simp only [eq_iff_iff, iff_false]
  intro e
  rw [show (0 : Int32) = Int32.ofNat 0 from rfl, oN_inj (by omega) (by omega)] at e
  omega
theorem oN_64 (h : 0 < m) (hm : m ≤ 4096) : ((Int32.ofNat m).toInt64 = 0) = False := by
  simp only [eq_iff_iff, iff_false]
  intro e
  have := congrArg Int64.toInt e
  rw [Int32.toInt_toInt64, oN_int (by omega)] at this
  rw [show (0 : Int64).toInt = 0 from rfl] at this
  omega
end
theorem ofNat_mod {j k : Nat} (hj : j < 2147483648) (hk : k < 2147483648) : Int32.ofNat j % Int32.ofNat k = Int32.ofNat (j % k) := by
  apply Int32.toInt_inj.mp
  have : j % k ≤ j := Nat.mod_le _ _
  rw [Int32.toInt_mod, oN_int hj, oN_int hk, oN_int (by omega), Int.ofNat_tmod]
theorem ofNat_div {j k : Nat} (hj : j < 2147483648) (hk : k < 2147483648) : Int32.ofNat j / Int32.ofNat k = Int32.ofNat (j / k) := by
  apply Int32.toInt_inj.mp
  have : j / k ≤ j := Nat.div_le_self _ _
  rw [Int32.toInt_div_of_ne_right _ _ (by
    intro h; have := congrArg Int32.toInt h; rw [oN_int hk] at this; rw [show (-1 : Int32).toInt = -1 from rfl] at this; omega), oN_int hj, oN_int hk, oN_int (by omega), Int.ofNat_tdiv]
section
variable {d N a b k n m i μ : Nat} {I : IT} {J : JT} {v x y z w : Int32} {M : Mem} {I' : IT} {T : IT} {H0 : Nat → Fin 13} {l : Nat}
abbrev ShP (g : Nat → Int32) (i : Nat) : Prop := ¬ g (78 + i) = -9 ∧ g (90 + i) = 0 ∧ g 69 < g (78 + i) + g (16 + i)
theorem up_A {I : IT} {a k : Nat} {u : Int32} : up I a k u = upA I a (fun q => if q = k then u else I a q) := by
  funext b q
  rw [upA_at2, up_at]
  by_cases hb : b = a
  · subst hb; rw [if_pos rfl]; by_cases hq : q = k
    · rw [if_pos ⟨rfl, hq⟩, if_pos hq]
    · rw [if_neg (fun h => hq h.2), if_neg hq]
  · rw [if_neg hb, if_neg (fun h => hb h.1)]
end
