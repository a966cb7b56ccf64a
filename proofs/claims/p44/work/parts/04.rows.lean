/-! THE PURE MACHINE's rows: an equation an instruction -/
theorem cat_int {x : Int32} : (Value.int x).category = 1 := rfl
theorem cat_long {x : Int64} : (Value.long x).category = 2 := rfl
theorem cat_ref {a : Nat} : (Value.ref a).category = 1 := rfl
theorem cat_null : Value.null.category = 1 := rfl
theorem cat_float {x : UInt32} : (Value.float x).category = 1 := rfl
section
variable {d m pc : Nat} {L S : List Value} {M : Mem}
theorem stepI_alu {own rk k : Nat} {ctor : Bool} {i : Instr} {S' : List Value} (h : alu i S = some (k, S')) : stepI own rk ctor i k pc L S M = nx (pc + k) L S' M := by
  cases i <;> first
    | (exfalso; simp only [alu] at h; cases h; done)
    | (simp only [stepI, h, if_true])
theorem R_alu {i : Instr} {k : Nat} {S' : List Value} (hi : ins m pc = some (i, k)) (h : alu i S = some (k, S')) : R d m pc L S M = R d m (pc + k) L S' M := by
  rw [R_eq, stp, hi]
  simp only
  rw [stepI_alu h]
  rfl
theorem R_iconst {n : Int} {v : Int32} (hi : ins m pc = some (.iconst n, 1)) (hv : Int32.ofInt n = v) : R d m pc L S M = R d m (pc + 1) L (.int v :: S) M := by subst hv; exact R_alu hi rfl
theorem R_bipush {n : Int} {v : Int32} (hi : ins m pc = some (.bipush n, 2)) (hv : (Int8.ofInt n).toInt32 = v) : R d m pc L S M = R d m (pc + 2) L (.int v :: S) M := by subst hv; exact R_alu hi rfl
theorem R_sipush {n : Int} {v : Int32} (hi : ins m pc = some (.sipush n, 3)) (hv : (Int16.ofInt n).toInt32 = v) : R d m pc L S M = R d m (pc + 3) L (.int v :: S) M := by subst hv; exact R_alu hi rfl
theorem R_lconst {n : Fin 2} {v : Int64} (hi : ins m pc = some (.lconst n, 1)) (hv : Int64.ofNat (n : Nat) = v) : R d m pc L S M = R d m (pc + 1) L (.long v :: S) M := by subst hv; exact R_alu hi rfl
theorem R_idiv {x y : Int32} (hi : ins m pc = some (.idiv, 1)) (hy : ¬ y = 0) : R d m pc L (.int y :: .int x :: S) M = R d m (pc + 1) L (.int (x / y) :: S) M := R_alu hi (by simp only [alu, bI2, if_neg hy, Option.map_some])
theorem R_irem {x y : Int32} (hi : ins m pc = some (.irem, 1)) (hy : ¬ y = 0) : R d m pc L (.int y :: .int x :: S) M = R d m (pc + 1) L (.int (x % y) :: S) M := R_alu hi (by simp only [alu, bI2, if_neg hy, Option.map_some])
theorem R_ldiv {x y : Int64} (hi : ins m pc = some (.ldiv, 1)) (hy : ¬ y = 0) : R d m pc L (.long y :: .long x :: S) M = R d m (pc + 1) L (.long (x / y) :: S) M := R_alu hi (by simp only [alu, bL2, if_neg hy, Option.map_some])
theorem R_lrem {x y : Int64} (hi : ins m pc = some (.lrem, 1)) (hy : ¬ y = 0) : R d m pc L (.long y :: .long x :: S) M = R d m (pc + 1) L (.long (x % y) :: S) M := R_alu hi (by simp only [alu, bL2, if_neg hy, Option.map_some])
theorem R_dup {v : Value} (hi : ins m pc = some (.dup, 1)) (hv : v.category = 1) : R d m pc L (v :: S) M = R d m (pc + 1) L (v :: v :: S) M := R_alu hi (by simp only [alu, if_pos hv])
theorem R_pop {v : Value} (hi : ins m pc = some (.pop, 1)) (hv : v.category = 1) : R d m pc L (v :: S) M = R d m (pc + 1) L S M := R_alu hi (by simp only [alu, if_pos hv])
theorem R_dup2 {v w : Value} (hi : ins m pc = some (.dup2, 1)) (hv : v.category = 1) (hw : w.category = 1) : R d m pc L (v :: w :: S) M = R d m (pc + 1) L (v :: w :: v :: w :: S) M := R_alu hi (by simp only [alu, if_pos (And.intro hv hw)])
theorem R_nx {i : Instr} {n pc' : Nat} {L' S' : List Value} {M' : Mem} (hi : ins m pc = some (i, n)) (h : stepI (mO m) (mK m) (mI m) i n pc L S M = nx pc' L' S' M') : R d m pc L S M = R d m pc' L' S' M' := by
  rw [R_eq, stp, hi]
  simp only
  rw [h]
  rfl
theorem R_iload {k : Nat} {x : Int32} (hi : ins m pc = some (.iload k, 2)) (hL : L[k]? = some (.int x)) : R d m pc L S M = R d m (pc + 2) L (.int x :: S) M := R_nx hi (by simp [stepI, ld, hL, wI])
theorem R_iload_n {k : Fin 4} {j : Nat} {x : Int32} (hi : ins m pc = some (.iload_n k, 1)) (hj : (k : Nat) = j) (hL : L[j]? = some (.int x)) : R d m pc L S M = R d m (pc + 1) L (.int x :: S) M := by subst hj; exact R_nx hi (by simp [stepI, ld, hL, wI])
theorem R_lload {k : Nat} {x : Int64} (hi : ins m pc = some (.lload k, 2)) (hL : L[k]? = some (.long x)) : R d m pc L S M = R d m (pc + 2) L (.long x :: S) M := R_nx hi (by simp [stepI, ld, hL, wL])
theorem R_lload_n {k : Fin 4} {j : Nat} {x : Int64} (hi : ins m pc = some (.lload_n k, 1)) (hj : (k : Nat) = j) (hL : L[j]? = some (.long x)) : R d m pc L S M = R d m (pc + 1) L (.long x :: S) M := by subst hj; exact R_nx hi (by simp [stepI, ld, hL, wL])
theorem R_aload {k : Nat} {v : Value} (hi : ins m pc = some (.aload k, 2)) (hL : L[k]? = some v) (hv : wA v = true) : R d m pc L S M = R d m (pc + 2) L (v :: S) M := R_nx hi (by simp [stepI, ld, hL, hv])
theorem R_aload_n {k : Fin 4} {j : Nat} {v : Value} (hi : ins m pc = some (.aload_n k, 1)) (hj : (k : Nat) = j) (hL : L[j]? = some v) (hv : wA v = true) : R d m pc L S M = R d m (pc + 1) L (v :: S) M := by subst hj; exact R_nx hi (by simp [stepI, ld, hL, hv])
theorem R_st {k : Nat} {v : Value} {L' : List Value} (h : k < L.length ∧ prevOk L k = true) (hL : L.set k v = L') : (k < L.length ∧ prevOk L k = true) ∧ L.set k v = L' := ⟨h, hL⟩
theorem R_istore {k : Nat} {x : Int32} {L' : List Value} (hi : ins m pc = some (.istore k, 2)) (h : k < L.length ∧ prevOk L k = true) (hL : L.set k (.int x) = L') : R d m pc L (.int x :: S) M = R d m (pc + 2) L' S M := by subst hL; exact R_nx hi (by simp [stepI, st1, h.1, h.2, wI])
theorem R_istore_n {k : Fin 4} {j : Nat} {x : Int32} {L' : List Value} (hi : ins m pc = some (.istore_n k, 1)) (hj : (k : Nat) = j) (h : j < L.length ∧ prevOk L j = true) (hL : L.set j (.int x) = L') : R d m pc L (.int x :: S) M = R d m (pc + 1) L' S M := by subst hj; subst hL; exact R_nx hi (by simp [stepI, st1, h.1, h.2, wI])
theorem R_astore {k : Nat} {v : Value} {L' : List Value} (hi : ins m pc = some (.astore k, 2)) (h : k < L.length ∧ prevOk L k = true) (hL : L.set k v = L') (hv : wA v = true) : R d m pc L (v :: S) M = R d m (pc + 2) L' S M := by subst hL; exact R_nx hi (by simp [stepI, st1, h.1, h.2, hv])
theorem R_astore_n {k : Fin 4} {j : Nat} {v : Value} {L' : List Value} (hi : ins m pc = some (.astore_n k, 1)) (hj : (k : Nat) = j) (h : j < L.length ∧ prevOk L j = true) (hL : L.set j v = L') (hv : wA v = true) : R d m pc L (v :: S) M = R d m (pc + 1) L' S M := by subst hj; subst hL; exact R_nx hi (by simp [stepI, st1, h.1, h.2, hv])
theorem R_lstore {k : Nat} {x : Int64} {L' : List Value} (hi : ins m pc = some (.lstore k, 2)) (h : k + 1 < L.length ∧ prevOk L k = true) (hL : (L.set k (.long x)).set (k + 1) (.float 0) = L') : R d m pc L (.long x :: S) M = R d m (pc + 2) L' S M := by subst hL; exact R_nx hi (by simp [stepI, st2, h.1, h.2])
theorem R_lstore_n {k : Fin 4} {j : Nat} {x : Int64} {L' : List Value} (hi : ins m pc = some (.lstore_n k, 1)) (hj : (k : Nat) = j) (h : j + 1 < L.length ∧ prevOk L j = true) (hL : (L.set j (.long x)).set (j + 1) (.float 0) = L') : R d m pc L (.long x :: S) M = R d m (pc + 1) L' S M := by subst hj; subst hL; exact R_nx hi (by simp [stepI, st2, h.1, h.2])
theorem R_iinc {k : Nat} {n : Int} {c x : Int32} {L' : List Value} (hi : ins m pc = some (.iinc k n, 3)) (hn : Int32.ofInt n = c) (hp : prevOk L k = true) (hx : L[k]? = some (.int x)) (hL : L.set k (.int (x + c)) = L') : R d m pc L S M = R d m (pc + 3) L' S M := by subst hn; subst hL; exact R_nx hi (by simp [stepI, hx, hp])
theorem jmp_ok {off : Int} {t : Nat} (ht : (pc : Int) + off = (t : Int)) : jmp pc off L S M = nx t L S M := by
  unfold jmp tgt
  rw [ht, if_pos (by omega), Int.toNat_natCast]
theorem tgt_ok {off : Int} {t : Nat} (ht : (pc : Int) + off = (t : Int)) : tgt pc off = t := by
  unfold tgt
  rw [ht, Int.toNat_natCast]
theorem R_goto {off : Int} {t : Nat} (hi : ins m pc = some (.goto off, 3)) (ht : (pc : Int) + off = (t : Int)) : R d m pc L S M = R d m t L S M := R_nx hi (by simp only [stepI, jmp_ok ht]; rfl)
theorem R_icmp {c : Jvm.ClassFile.Cond} {off : Int} {t : Nat} {x y : Int32} (hi : ins m pc = some (.if_icmp c off, 3)) (ht : (pc : Int) + off = (t : Int)) : R d m pc L (.int y :: .int x :: S) M = if icond c x y = true then R d m t L S M else R d m (pc + 3) L S M := by
  by_cases h : icond c x y = true
  · rw [if_pos h]; exact R_nx hi (by simp only [stepI, h, if_true]; rw [if_pos ⟨trivial, by omega⟩, tgt_ok ht])
  · rw [if_neg h]; exact R_nx hi (by simp only [stepI, if_neg h]; rw [if_pos ⟨trivial, by omega⟩])
theorem R_ifc {c : Jvm.ClassFile.Cond} {off : Int} {t : Nat} {x : Int32} (hi : ins m pc = some (.ifCond c off, 3)) (ht : (pc : Int) + off = (t : Int)) : R d m pc L (.int x :: S) M = if icond c x 0 = true then R d m t L S M else R d m (pc + 3) L S M := by
  by_cases h : icond c x 0 = true
  · rw [if_pos h]; exact R_nx hi (by simp only [stepI, h, if_true]; rw [if_pos ⟨trivial, by omega⟩, tgt_ok ht])
  · rw [if_neg h]; exact R_nx hi (by simp only [stepI, if_neg h]; rw [if_pos ⟨trivial, by omega⟩])
theorem ite_b {P : Prop} {hd : Decidable P} {a b : RV} : (if (decide P) = true then a else b) = if P then a else b := by by_cases h : P <;> simp [h]
theorem ite_nb {P : Prop} {hd : Decidable P} {a b : RV} : (if (!decide P) = true then a else b) = if P then b else a := by by_cases h : P <;> simp [h]
theorem R_ieq {off : Int} {t : Nat} {x y : Int32} (hi : ins m pc = some (.if_icmp .eq off, 3)) (ht : (pc : Int) + off = (t : Int)) : R d m pc L (.int y :: .int x :: S) M = if x = y then R d m t L S M else R d m (pc + 3) L S M := (R_icmp hi ht).trans ite_b
theorem R_ine {off : Int} {t : Nat} {x y : Int32} (hi : ins m pc = some (.if_icmp .ne off, 3)) (ht : (pc : Int) + off = (t : Int)) : R d m pc L (.int y :: .int x :: S) M = if x = y then R d m (pc + 3) L S M else R d m t L S M := (R_icmp hi ht).trans ite_nb
theorem R_ilt {off : Int} {t : Nat} {x y : Int32} (hi : ins m pc = some (.if_icmp .lt off, 3)) (ht : (pc : Int) + off = (t : Int)) : R d m pc L (.int y :: .int x :: S) M = if x < y then R d m t L S M else R d m (pc + 3) L S M := (R_icmp hi ht).trans ite_b
theorem R_ige {off : Int} {t : Nat} {x y : Int32} (hi : ins m pc = some (.if_icmp .ge off, 3)) (ht : (pc : Int) + off = (t : Int)) : R d m pc L (.int y :: .int x :: S) M = if x < y then R d m (pc + 3) L S M else R d m t L S M := (R_icmp hi ht).trans ite_nb
theorem R_igt {off : Int} {t : Nat} {x y : Int32} (hi : ins m pc = some (.if_icmp .gt off, 3)) (ht : (pc : Int) + off = (t : Int)) : R d m pc L (.int y :: .int x :: S) M = if y < x then R d m t L S M else R d m (pc + 3) L S M := (R_icmp hi ht).trans ite_b
theorem R_ile {off : Int} {t : Nat} {x y : Int32} (hi : ins m pc = some (.if_icmp .le off, 3)) (ht : (pc : Int) + off = (t : Int)) : R d m pc L (.int y :: .int x :: S) M = if y < x then R d m (pc + 3) L S M else R d m t L S M := (R_icmp hi ht).trans ite_nb
theorem R_zeq {off : Int} {t : Nat} {x : Int32} (hi : ins m pc = some (.ifCond .eq off, 3)) (ht : (pc : Int) + off = (t : Int)) : R d m pc L (.int x :: S) M = if x = 0 then R d m t L S M else R d m (pc + 3) L S M := (R_ifc hi ht).trans ite_b
theorem R_zne {off : Int} {t : Nat} {x : Int32} (hi : ins m pc = some (.ifCond .ne off, 3)) (ht : (pc : Int) + off = (t : Int)) : R d m pc L (.int x :: S) M = if x = 0 then R d m (pc + 3) L S M else R d m t L S M := (R_ifc hi ht).trans ite_nb
theorem R_zlt {off : Int} {t : Nat} {x : Int32} (hi : ins m pc = some (.ifCond .lt off, 3)) (ht : (pc : Int) + off = (t : Int)) : R d m pc L (.int x :: S) M = if x < 0 then R d m t L S M else R d m (pc + 3) L S M := (R_ifc hi ht).trans ite_b
theorem R_zge {off : Int} {t : Nat} {x : Int32} (hi : ins m pc = some (.ifCond .ge off, 3)) (ht : (pc : Int) + off = (t : Int)) : R d m pc L (.int x :: S) M = if x < 0 then R d m (pc + 3) L S M else R d m t L S M := (R_ifc hi ht).trans ite_nb
theorem R_zgt {off : Int} {t : Nat} {x : Int32} (hi : ins m pc = some (.ifCond .gt off, 3)) (ht : (pc : Int) + off = (t : Int)) : R d m pc L (.int x :: S) M = if 0 < x then R d m t L S M else R d m (pc + 3) L S M := (R_ifc hi ht).trans ite_b
theorem R_zle {off : Int} {t : Nat} {x : Int32} (hi : ins m pc = some (.ifCond .le off, 3)) (ht : (pc : Int) + off = (t : Int)) : R d m pc L (.int x :: S) M = if 0 < x then R d m (pc + 3) L S M else R d m t L S M := (R_ifc hi ht).trans ite_nb
/-- a reference or null, by case: the value's own test -/
def isNull (v : Value) : Bool := match v with | .null => true | _ => false
theorem R_ifnull {off : Int} {t : Nat} {v : Value} (hi : ins m pc = some (.ifnull off, 3)) (ht : (pc : Int) + off = (t : Int)) (hv : wA v = true) : R d m pc L (v :: S) M = if isNull v = true then R d m t L S M else R d m (pc + 3) L S M := by
  cases v with
  | null => simp only [isNull, if_true]; exact R_nx hi (by simp only [stepI, jmp_ok ht, if_true])
  | ref a => rw [if_neg (by simp [isNull])]; exact R_nx hi (by simp only [stepI, if_true])
  | int _ => cases hv
  | long _ => cases hv
  | float _ => cases hv
  | double _ => cases hv
  | retAddr _ => cases hv
theorem R_ifnonnull {off : Int} {t : Nat} {v : Value} (hi : ins m pc = some (.ifnonnull off, 3)) (ht : (pc : Int) + off = (t : Int)) (hv : wA v = true) : R d m pc L (v :: S) M = if isNull v = true then R d m (pc + 3) L S M else R d m t L S M := by
  cases v with
  | null => simp only [isNull, if_true]; exact R_nx hi (by simp only [stepI, if_true])
  | ref a => rw [if_neg (by simp [isNull])]; exact R_nx hi (by simp only [stepI, jmp_ok ht, if_true])
  | int _ => cases hv
  | long _ => cases hv
  | float _ => cases hv
  | double _ => cases hv
  | retAddr _ => cases hv
def swx (x : Int32) (dflt : Nat) : List (Int32 × Nat) → Nat
  | [] => dflt
  | (c, t) :: r => if x = c then t else swx x dflt r
def swOk (pc : Nat) (offs : List Int) : List (Int32 × Nat) → Int → Bool
  | [], lo => offs.isEmpty || decide (lo = lo)
  | (c, t) :: r, lo => match offs with
    | [] => false
    | o :: os => decide (c.toInt = lo) && decide ((pc : Int) + o = (t : Int)) && swOk pc os r (lo + 1)
theorem R_table {dflt lo hi' : Int} {offs : Array Int} {len t : Nat} {ps : List (Int32 × Nat)} {x : Int32} (hi : ins m pc = some (.tableswitch dflt lo hi' offs, len)) (hd : (pc : Int) + dflt = (t : Int))
    (hn : ps.length = offs.size) (hhi : hi' = lo + ps.length - 1) (hok : ∀ k (h : k < ps.length), (ps[k]).1.toInt = lo + k ∧ ∃ o, offs[k]? = some o ∧ (pc : Int) + o = ((ps[k]).2 : Int)) :
    R d m pc L (.int x :: S) M = R d m (swx x t ps) L S M := by
  have key : ∀ (qs : List (Int32 × Nat)) (j : Nat), (∀ k, qs[k]? = ps[j + k]?) → (∀ k, k < j → x.toInt ≠ lo + k) → stepI (mO m) (mK m) (mI m) (.tableswitch dflt lo hi' offs) len pc L (.int x :: S) M = nx (swx x t qs) L S M := by
    intro qs
    induction qs with
    | nil =>
      intro j hq hne
      have hj : ps.length ≤ j := by
        have := hq 0
        simp at this
        exact this
      have hout : x.toInt < lo ∨ hi' < x.toInt := by
        rcases Int.lt_or_le x.toInt lo with h | h
        · exact Or.inl h
        · right
          rcases Int.lt_or_le hi' x.toInt with h2 | h2
          · exact h2
          · exfalso
            exact hne (x.toInt - lo).toNat (by omega) (by omega)
      simp only [stepI, swx, if_pos hout, jmp_ok hd]
    | cons q qs ih =>
      intro j hq hne
      have h0 : ps[j]? = some q := by have := hq 0; simpa using this.symm
      obtain ⟨hjl, hqe⟩ := List.getElem?_eq_some_iff.mp h0
      obtain ⟨e1, o, e2, e3⟩ := hok j hjl
      rw [hqe] at e1 e3
      obtain ⟨qc, qt⟩ := q
      by_cases hx : x = qc
      · have hin : ¬ (x.toInt < lo ∨ hi' < x.toInt) := by subst hx; simp only at e1; omega
        have hidx : (x.toInt - lo).toNat = j := by subst hx; simp only at e1; omega
        simp only [stepI, swx, if_neg hin, hidx, e2, jmp_ok e3, if_pos hx]
      · rw [show swx x t ((qc, qt) :: qs) = swx x t qs from by simp only [swx, if_neg hx]]
        refine ih (j + 1) (fun k => ?_) (fun k hk => ?_)
        · have := hq (k + 1)
          rw [List.getElem?_cons_succ] at this
          rw [this]; congr 1; omega
        · rcases Nat.lt_or_ge k j with h | h
          · exact hne k h
          · have hkj : k = j := by omega
            subst hkj
            intro e
            apply hx
            apply Int32.toInt_inj.mp
            simp only at e1
            omega
  exact R_nx hi (key ps 0 (fun k => by simp) (fun k hk => absurd hk (Nat.not_lt_zero k)))
theorem R_rt {i : Instr} {n : Nat} {v : Option Value} (hi : ins m pc = some (i, n)) (h : stepI (mO m) (mK m) (mI m) i n pc L S M = rt v M) : R d m pc L S M = some (v, M) := by
  rw [R_eq, stp, hi]
  simp only
  rw [h]
  rfl
theorem R_iret {x : Int32} (hi : ins m pc = some (.ireturn, 1)) (hk : mK m = 1) : R d m pc L [.int x] M = some (some (.int x), M) := R_rt hi (by simp [stepI, retV, hk])
theorem R_zret {x : Int32} (hi : ins m pc = some (.ireturn, 1)) (hk : mK m = 2) : R d m pc L [.int x] M = if x = 0 ∨ x = 1 then some (some (.int x), M) else none := by
  by_cases h : x = 0 ∨ x = 1
  · rw [if_pos h]; exact R_rt hi (by simp [stepI, retV, hk, h])
  · rw [if_neg h, R_eq, stp, hi]
    simp [stepI, retV, hk, h, kont]
theorem R_lret {x : Int64} (hi : ins m pc = some (.lreturn, 1)) (hk : mK m = 3) : R d m pc L [.long x] M = some (some (.long x), M) := R_rt hi (by simp [stepI, hk])
theorem R_aret {v : Value} (hi : ins m pc = some (.areturn, 1)) (hk : mK m = 4) (hv : wA v = true) : R d m pc L [v] M = some (some v, M) := R_rt hi (by simp [stepI, hk, hv])
theorem R_vret (hi : ins m pc = some (.return_, 1)) (hk : mK m = 0) : R d m pc L [] M = some (none, M) := R_rt hi (by simp [stepI, hk])
theorem R_if {P : Prop} [Decidable P] {i : Instr} {n pc' : Nat} {L' S' : List Value} {M' : Mem} (hi : ins m pc = some (i, n)) (h : stepI (mO m) (mK m) (mI m) i n pc L S M = if P then nx pc' L' S' M' else none) : R d m pc L S M = if P then R d m pc' L' S' M' else none := by
  rw [R_eq, stp, hi]
  simp only
  rw [h]
  by_cases hP : P
  · rw [if_pos hP, if_pos hP]; rfl
  · rw [if_neg hP, if_neg hP]; rfl
theorem R_iaload {i : Int32} {a : Nat} (hi : ins m pc = some (.iaload, 1)) : R d m pc L (.int i :: .ref a :: S) M = if gI (rd M a) i = true then R d m (pc + 1) L (.int (datI (rd M a) i.toNatClampNeg) :: S) M else none := R_if hi (by simp only [stepI, true_and])
theorem R_aaload {i : Int32} {a : Nat} (hi : ins m pc = some (.aaload, 1)) : R d m pc L (.int i :: .ref a :: S) M = if gR (rd M a) i = true then R d m (pc + 1) L (refV (datR (rd M a) i.toNatClampNeg) :: S) M else none := R_if hi (by simp only [stepI, true_and])
theorem R_iastore {i x : Int32} {a : Nat} (hi : ins m pc = some (.iastore, 1)) : R d m pc L (.int x :: .int i :: .ref a :: S) M = if gI0 (rd M a) i = true then R d m (pc + 1) L S (wr M a (setI (rd M a) i.toNatClampNeg x)) else none := R_if hi (by simp only [stepI, true_and])
theorem R_aastore {i : Int32} {v a : Nat} (hi : ins m pc = some (.aastore, 1)) : R d m pc L (.ref v :: .int i :: .ref a :: S) M = if gR (rd M a) i = true ∧ isO (rd M v) (tagC (tagE (rd M a))) = true then R d m (pc + 1) L S (wr M a (setR (rd M a) i.toNatClampNeg v)) else none := R_if hi (by simp only [stepI, true_and])
theorem R_alen {a : Nat} (hi : ins m pc = some (.arraylength, 1)) : R d m pc L (.ref a :: S) M = if (isIE (rd M a) || isRE (rd M a)) = true then R d m (pc + 1) L (.int (Int32.ofNat (lenE (rd M a))) :: S) M else none := R_if hi (by simp only [stepI, true_and])
theorem R_getf {idx ci k a : Nat} {b : Bool} (hi : ins m pc = some (.getfield idx, 3)) (hf : fldT (mO m) idx = some (ci, k, b)) : R d m pc L (.ref a :: S) M = if isO (rd M a) ci = true ∧ k < (fldsE (rd M a)).length then R d m (pc + 3) L (fldE (rd M a) k :: S) M else none := R_if hi (by simp only [stepI, hf, true_and])
theorem R_putf {idx ci k a : Nat} {b : Bool} {v : Value} {ty : FieldType} (hi : ins m pc = some (.putfield idx, 3)) (hf : fldT (mO m) idx = some (ci, k, b)) (hty : fTy ci k = ty) (hfin : fFin ci k = true → mI m = true ∧ ci = mO m) : R d m pc L (v :: .ref a :: S) M = if isO (rd M a) ci = true ∧ k < (fldsE (rd M a)).length ∧ fitV ty v = true then R d m (pc + 3) L S (wr M a (setF (rd M a) k v)) else none := by
  subst hty
  refine R_if hi ?_
  simp only [stepI, hf, true_and]
  congr 1
  simp only [eq_iff_iff]
  constructor
  · rintro ⟨h1, h2, h3, -⟩; exact ⟨h1, h2, h3⟩
  · rintro ⟨h1, h2, h3⟩; exact ⟨h1, h2, h3, hfin⟩
theorem R_call {i : Instr} {n m' pc' : Nat} {as L' S' : List Value} (hi : ins m pc = some (i, n)) (h : stepI (mO m) (mK m) (mI m) i n pc L S M = some (.inr (.inr (m', as, pc', L', S')))) : R d m pc L S M = K d m pc' L' S' (C d m' as M) := by
  rw [R_eq, stp, hi]
  simp only
  rw [h]
  rfl
theorem R_none {i : Instr} {n : Nat} (hi : ins m pc = some (i, n)) (h : stepI (mO m) (mK m) (mI m) i n pc L S M = none) : R d m pc L S M = none := by
  rw [R_eq, stp, hi]
  simp only
  rw [h]
  rfl
theorem pcallS_ok {n : Nat} {as S' : List Value} (hl : as.length = n) (hc : catS S' ≤ 8) : pcallS m n pc L (as.reverse ++ S') = some (.inr (.inr (m, as, pc + 3, L, S'))) := by
  unfold pcallS
  have h1 : (as.reverse ++ S').drop n = S' := by rw [← hl]; simp
  have h2 : (as.reverse ++ S').take n = as.reverse := by rw [← hl]; simp
  rw [h1, h2, if_pos ⟨by simp [hl], hc⟩, List.reverse_reverse]
theorem R_invS {idx m' kd : Nat} {as S0 : List Value} (hi : ins m pc = some (.invokestatic idx, 3)) (hf : mthT (mO m) idx = some (m', kd)) (hk : kd = 2 ∨ kd = 3) (hs : mS m' = true) (hn : as.length = mN m') (hS : as.reverse ++ S = S0) (hc : catS S ≤ 8) :
    R d m pc L S0 M = K d m (pc + 3) L S (C d m' as M) := by
  subst hS
  refine R_call hi ?_
  simp only [stepI, hf, if_true]
  rw [if_neg (by omega)]
  simp only [callK]
  rw [if_neg (by simp), if_pos ⟨trivial, hk, hs⟩, pcallS_ok hn hc]
theorem R_invI {idx m' kd a : Nat} {as S0 : List Value} (hi : ins m pc = some (.invokespecial idx, 3)) (hf : mthT (mO m) idx = some (m', kd)) (hk : kd = 4 ∨ kd = 5) (hs : mS m' = false) (hn : as.length + 1 = mN m') (hS : as.reverse ++ (.ref a :: S) = S0) (hc : catS S ≤ 8) :
    R d m pc L S0 M = K d m (pc + 3) L S (C d m' (.ref a :: as) M) := by
  subst hS
  refine R_call hi ?_
  have hr : recvA (as.reverse ++ .ref a :: S) (mN m' - 1) = some a := by
    unfold recvA
    rw [← hn, Nat.add_sub_cancel, List.getElem?_append_right (by simp)]
    simp
  simp only [stepI, hf, if_true]
  rw [if_neg (by omega)]
  simp only [callK]
  rw [if_neg (by simp), if_neg (by simp), if_pos ⟨trivial, hk, hs⟩, hr]
  simp only
  rw [if_pos (by omega), show as.reverse ++ Value.ref a :: S = (Value.ref a :: as).reverse ++ S by simp, pcallS_ok (by simpa using hn) hc]
theorem R_invV {idx m' kd a ci : Nat} {as S0 : List Value} (hi : ins m pc = some (.invokevirtual idx, 3)) (hf : mthT (mO m) idx = some (m', kd)) (hk : kd = 0 ∨ kd = 1) (hs : mS m' = false) (hn : as.length + 1 = mN m') (hS : as.reverse ++ (.ref a :: S) = S0) (hc : catS S ≤ 8) (ho : mO m' = ci) :
    R d m pc L S0 M = if isO (rd M a) ci = true then K d m (pc + 3) L S (C d m' (.ref a :: as) M) else none := by
  subst hS; subst ho
  have hr : recvA (as.reverse ++ .ref a :: S) (mN m' - 1) = some a := by
    unfold recvA
    rw [← hn, Nat.add_sub_cancel, List.getElem?_append_right (by simp)]
    simp
  by_cases h : isO (rd M a) (mO m') = true
  · rw [if_pos h]
    refine R_call hi ?_
    simp only [stepI, hf, if_true, callK]
    rw [if_pos ⟨trivial, hk, hs⟩, hr]
    simp only
    rw [if_pos ⟨h, by omega⟩, show as.reverse ++ Value.ref a :: S = (Value.ref a :: as).reverse ++ S by simp, pcallS_ok (by simpa using hn) hc]
  · rw [if_neg h]
    refine R_none hi ?_
    simp only [stepI, hf, if_true, callK]
    rw [if_pos ⟨trivial, hk, hs⟩, hr]
    simp only
    rw [if_neg (fun q => h q.1)]
theorem R_obj {idx m' a : Nat} (hi : ins m pc = some (.invokespecial idx, 3)) (hf : mthT (mO m) idx = some (m', 6)) (hc : catS S ≤ 8) : R d m pc L (.ref a :: S) M = R d m (pc + 3) L S M := R_nx hi (by simp only [stepI, hf, if_true, if_pos hc])
theorem R_copy {idx m' a b : Nat} {sp dp n : Int32} (hi : ins m pc = some (.invokestatic idx, 3)) (hf : mthT (mO m) idx = some (m', 7)) : R d m pc L (.int n :: .int dp :: .ref b :: .int sp :: .ref a :: S) M =
    if isIE (rd M a) = true ∧ isIE (rd M b) = true ∧ tagE (rd M a) = 0 ∧ tagE (rd M b) = 0 ∧ ¬ sp < 0 ∧ ¬ dp < 0 ∧ ¬ n < 0 ∧ sp.toNatClampNeg + n.toNatClampNeg ≤ lenE (rd M a) ∧ dp.toNatClampNeg + n.toNatClampNeg ≤ lenE (rd M b) ∧ catS S ≤ 8 then
      R d m (pc + 3) L S (wr M b (pI 0 (lenE (rd M b)) (va_cpy (datI (rd M a)) (datI (rd M b)) sp.toNatClampNeg dp.toNatClampNeg n.toNatClampNeg)))
    else none := R_if hi (by simp only [stepI, hf, if_true, copyS])
theorem R_new {idx ci : Nat} (hi : ins m pc = some (.new idx, 3)) (hf : clsT (mO m) idx = some ci) : R d m pc L S M = R d m (pc + 3) L (.ref M.2.1 :: S) (al M (pO ci (defs ci)) (defs ci).length) := R_nx hi (by simp only [stepI, hf, if_true])
theorem R_newI {n : Int32} (hi : ins m pc = some (.newarray .int, 2)) : R d m pc L (.int n :: S) M = if ¬ n < 0 ∧ n.toNatClampNeg ≤ 4096 then R d m (pc + 2) L (.ref M.2.1 :: S) (al M (pI 0 n.toNatClampNeg (fun _ => 0)) n.toNatClampNeg) else none := R_if hi (by simp only [stepI, true_and])
theorem R_anew {n : Int32} {idx t : Nat} (hi : ins m pc = some (.anewarray idx, 3)) (hf : aclT (mO m) idx = some t) : R d m pc L (.int n :: S) M = if ¬ n < 0 ∧ n.toNatClampNeg ≤ 4096 then R d m (pc + 3) L (.ref M.2.1 :: S) (al M (pR t n.toNatClampNeg (fun _ => none)) n.toNatClampNeg) else none := R_if hi (by simp only [stepI, hf, true_and])
theorem R_ldc {idx : Nat} {v : Int32} (hi : ins m pc = some (.ldc idx, 2)) (hf : ldcT (mO m) idx = some v) : R d m pc L S M = R d m (pc + 2) L (.int v :: S) M := R_nx hi (by simp only [stepI, hf, if_true])
theorem R_ldcw {idx : Nat} {v : Int32} (hi : ins m pc = some (.ldc_w idx, 3)) (hf : ldcT (mO m) idx = some v) : R d m pc L S M = R d m (pc + 3) L (.int v :: S) M := R_nx hi (by simp only [stepI, hf, if_true])
theorem R_ldc2 {idx : Nat} {v : Int64} (hi : ins m pc = some (.ldc2_w idx, 3)) (hf : ldlT (mO m) idx = some v) : R d m pc L S M = R d m (pc + 3) L (.long v :: S) M := R_nx hi (by simp only [stepI, hf, if_true])
end
