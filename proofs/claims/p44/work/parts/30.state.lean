abbrev shL : List ((Nat × Nat) ⊕ ((Nat × Nat × List Nat) ⊕ (Nat × List (Nat × Nat)))) := [
  .inr (.inr (99, [])),
  .inr (.inr (9, [(2, 2), (2, 3), (2, 4), (2, 29), (2, 35), (2, 50), (2, 53), (2, 55)])),
  .inr (.inl (15, 6, [57, 59, 61, 63, 65, 67])),
  .inr (.inl (15, 4, [69, 71, 73, 75])),
  .inr (.inr (1, [(2, 5), (2, 7), (2, 9), (2, 10), (2, 13), (0, 0), (0, 0), (0, 0)])),
  .inr (.inr (2, [(2, 6)])),
  .inl (0, 8),
  .inr (.inr (2, [(2, 8)])),
  .inl (0, 8),
  .inr (.inl (18, 6, [14, 15, 16, 17, 18, 19])),
  .inr (.inr (0, [(2, 11), (2, 12), (0, 0)])),
  .inl (0, 40),
  .inl (0, 40),
  .inr (.inl (10, 3, [20, 23, 26])),
  .inr (.inr (8, [(0, 0), (0, 0), (0, 0), (0, 0), (0, 0), (0, 0)])),
  .inr (.inr (8, [(0, 0), (0, 0), (0, 0), (0, 0), (0, 0), (0, 0)])),
  .inr (.inr (8, [(0, 0), (0, 0), (0, 0), (0, 0), (0, 0), (0, 0)])),
  .inr (.inr (8, [(0, 0), (0, 0), (0, 0), (0, 0), (0, 0), (0, 0)])),
  .inr (.inr (8, [(0, 0), (0, 0), (0, 0), (0, 0), (0, 0), (0, 0)])),
  .inr (.inr (8, [(0, 0), (0, 0), (0, 0), (0, 0), (0, 0), (0, 0)])),
  .inr (.inr (0, [(2, 21), (2, 22), (0, 0)])),
  .inl (0, 40),
  .inl (0, 40),
  .inr (.inr (0, [(2, 24), (2, 25), (0, 0)])),
  .inl (0, 40),
  .inl (0, 40),
  .inr (.inr (0, [(2, 27), (2, 28), (0, 0)])),
  .inl (0, 40),
  .inl (0, 40),
  .inr (.inr (4, [(2, 30), (2, 32), (2, 33), (2, 34), (0, 0), (0, 0), (0, 0)])),
  .inr (.inr (2, [(2, 31)])),
  .inl (0, 8),
  .inl (0, 6),
  .inl (0, 6),
  .inl (0, 6),
  .inr (.inr (3, [(2, 36), (2, 37), (0, 0)])),
  .inl (0, 5),
  .inr (.inl (12, 6, [38, 40, 42, 44, 46, 48])),
  .inr (.inr (2, [(2, 39)])),
  .inl (0, 8),
  .inr (.inr (2, [(2, 41)])),
  .inl (0, 8),
  .inr (.inr (2, [(2, 43)])),
  .inl (0, 8),
  .inr (.inr (2, [(2, 45)])),
  .inl (0, 8),
  .inr (.inr (2, [(2, 47)])),
  .inl (0, 8),
  .inr (.inr (2, [(2, 49)])),
  .inl (0, 8),
  .inr (.inr (6, [(2, 51), (2, 52), (0, 0)])),
  .inl (0, 4),
  .inl (0, 4),
  .inr (.inr (2, [(2, 54)])),
  .inl (0, 8),
  .inr (.inr (7, [(2, 56), (0, 0), (0, 0), (1, 0), (1, 0)])),
  .inl (0, 6),
  .inr (.inr (5, [(2, 58), (0, 0), (0, 0)])),
  .inl (0, 40),
  .inr (.inr (5, [(2, 60), (0, 0), (0, 0)])),
  .inl (0, 40),
  .inr (.inr (5, [(2, 62), (0, 0), (0, 0)])),
  .inl (0, 40),
  .inr (.inr (5, [(2, 64), (0, 0), (0, 0)])),
  .inl (0, 40),
  .inr (.inr (5, [(2, 66), (0, 0), (0, 0)])),
  .inl (0, 40),
  .inr (.inr (5, [(2, 68), (0, 0), (0, 0)])),
  .inl (0, 40),
  .inr (.inr (5, [(2, 70), (0, 0), (0, 0)])),
  .inl (0, 60),
  .inr (.inr (5, [(2, 72), (0, 0), (0, 0)])),
  .inl (0, 60),
  .inr (.inr (5, [(2, 74), (0, 0), (0, 0)])),
  .inl (0, 60),
  .inr (.inr (5, [(2, 76), (0, 0), (0, 0)])),
  .inl (0, 60)]
/-! THE STATE: after the constructors every cell keeps its shape; what it holds are ints I (cell, place) and longs J -/
abbrev Sh : Type := (Nat × Nat) ⊕ ((Nat × Nat × List Nat) ⊕ (Nat × List (Nat × Nat)))
/-- N tells the script's length and how many of the law's later arrays there are: N = 4 * length + how many -/
def shX (N a : Nat) : Sh := if a = 77 then .inl (0, 48) else if a = 78 ∧ 1 ≤ N % 4 then .inl (0, 14) else if (a = 79 ∧ 2 ≤ N % 4) ∨ (a = 80 ∧ 3 ≤ N % 4) then .inl (0, 16) else .inr (.inr (99, []))
def sh (N a : Nat) : Sh := if a = 0 then .inl (9, N / 4) else if a < 77 then shL.getD a (.inr (.inr (99, []))) else shX N a
def slN (N : Nat) : Nat := if N % 4 = 0 then 1112 else if N % 4 = 1 then 1126 else if N % 4 = 2 then 1142 else 1158
def mkv (q : Nat × Nat) (x : Int32) (y : Int64) : Value := match q.1 with
  | 0 => .int x
  | 1 => .long y
  | _ => .ref q.2
def fillV : List (Nat × Nat) → Nat → (Nat → Int32) → (Nat → Int64) → List Value
  | [], _, _, _ => []
  | q :: qs, k, f, g => mkv q (f k) (g k) :: fillV qs (k + 1) f g
def fill (s : Sh) (f : Nat → Int32) (g : Nat → Int64) : PE := match s with
  | .inl t => .inl (t.1, t.2, f)
  | .inr (.inl t) => .inr (.inl (t.1, t.2.1, fun j => t.2.2[j]?))
  | .inr (.inr o) => .inr (.inr (o.1, fillV o.2 0 f g))
abbrev IT : Type := Nat → Nat → Int32
abbrev JT : Type := Nat → Nat → Int64
def mk (N : Nat) (I : IT) (J : JT) : Mem := (fun a => fill (sh N a) (I a) (J a), 78 + N % 4, slN N)
def up (I : IT) (a k : Nat) (x : Int32) : IT := fun b j => if b = a ∧ j = k then x else I b j
def upJ (J : JT) (a k : Nat) (x : Int64) : JT := fun b j => if b = a ∧ j = k then x else J b j
def upA (I : IT) (a : Nat) (f : Nat → Int32) : IT := fun b => if b = a then f else I b
theorem up_same (I : IT) (a k : Nat) (x : Int32) : up I a k x a k = x := by simp [up]
theorem up_at (I : IT) (a k b j : Nat) (x : Int32) : up I a k x b j = if b = a ∧ j = k then x else I b j := rfl
theorem upA_at (I : IT) (a b : Nat) (f : Nat → Int32) : upA I a f b = if b = a then f else I b := rfl
theorem upJ_at (J : JT) (a k b j : Nat) (x : Int64) : upJ J a k x b j = if b = a ∧ j = k then x else J b j := rfl
def isOs (s : Sh) (c : Nat) : Bool := match s with
  | .inr (.inr o) => o.1 == c
  | _ => false
def lenOs (s : Sh) : Nat := match s with
  | .inr (.inr o) => o.2.length
  | _ => 0
def fldS (s : Sh) (k : Nat) (x : Int32) (y : Int64) : Value := match s with
  | .inr (.inr o) => match o.2[k]? with
    | some q => mkv q x y
    | none => .null
  | _ => .null
def lenS (s : Sh) : Nat := match s with
  | .inl t => t.2
  | .inr (.inl t) => t.2.1
  | _ => 0
def gIs (s : Sh) (i : Int32) : Bool := match s with
  | .inl t => (t.1 == 0 || t.1 == 9) && inb i t.2
  | _ => false
def gI0s (s : Sh) (i : Int32) : Bool := match s with
  | .inl t => t.1 == 0 && inb i t.2
  | _ => false
def gZs (s : Sh) (i : Int32) : Bool := match s with
  | .inl t => t.1 == 1 && inb i t.2
  | _ => false
def gRs (s : Sh) (i : Int32) : Bool := match s with
  | .inr (.inl t) => tagOk t.1 && inb i t.2.1
  | _ => false
def isIs (s : Sh) : Bool := match s with
  | .inl t => t.1 == 0 || t.1 == 1 || t.1 == 9
  | _ => false
def isRs (s : Sh) : Bool := match s with
  | .inr (.inl t) => tagOk t.1
  | _ => false
def tagS (s : Sh) : Nat := match s with
  | .inl t => t.1
  | .inr (.inl t) => t.1
  | .inr (.inr t) => t.1
def datRs (s : Sh) (k : Nat) : Option Nat := match s with
  | .inr (.inl t) => t.2.2[k]?
  | _ => none
def isArr (s : Sh) : Bool := match s with
  | .inl _ => true
  | _ => false
section
variable {N a k c : Nat} {I : IT} {J : JT} {i x : Int32} {y : Int64}
theorem rd_mk : rd (mk N I J) a = fill (sh N a) (I a) (J a) := rfl
theorem fillV_len : ∀ (l : List (Nat × Nat)) (k : Nat) (f : Nat → Int32) (g : Nat → Int64), (fillV l k f g).length = l.length := by
  intro l
  induction l with
  | nil => intro k f g; rfl
  | cons q l ih => intro k f g; simp [fillV, ih]
theorem fillV_at : ∀ (l : List (Nat × Nat)) (k j : Nat) (f : Nat → Int32) (g : Nat → Int64), (fillV l k f g)[j]? = (l[j]?).map fun q => mkv q (f (k + j)) (g (k + j)) := by
  intro l
  induction l with
  | nil => intro k j f g; simp [fillV]
  | cons q l ih =>
    intro k j f g
    cases j with
    | zero => simp [fillV]
    | succ j =>
      rw [fillV, List.getElem?_cons_succ, List.getElem?_cons_succ, ih]
      rw [show k + 1 + j = k + (j + 1) by omega]
theorem isO_mk : isO (rd (mk N I J) a) c = isOs (sh N a) c := by
  rw [rd_mk]
  rcases sh N a with t | t | t <;> rfl
theorem len_mk : (fldsE (rd (mk N I J) a)).length = lenOs (sh N a) := by
  rw [rd_mk]
  rcases sh N a with t | t | t
  · rfl
  · rfl
  · exact fillV_len _ _ _ _
theorem fld_mk : fldE (rd (mk N I J) a) k = fldS (sh N a) k (I a k) (J a k) := by
  rw [rd_mk]
  rcases sh N a with t | t | t
  · rfl
  · rfl
  · show (fillV t.2 0 (I a) (J a)).getD k .null = _
    rw [List.getD_eq_getElem?_getD, fillV_at]
    simp only [fldS, Nat.zero_add]
    rcases t.2[k]? with _ | q <;> rfl
theorem gI_mk : gI (rd (mk N I J) a) i = gIs (sh N a) i := by
  rw [rd_mk]
  rcases sh N a with t | t | t
  · simp only [fill, gI, gIs, isIE, tagE, lenE]
    cases h0 : (t.1 == 0) <;> cases h1 : (t.1 == 9) <;> simp
  · rfl
  · rfl
theorem gI0_mk : gI0 (rd (mk N I J) a) i = gI0s (sh N a) i := by
  rw [rd_mk]
  rcases sh N a with t | t | t
  · simp only [fill, gI0, gI0s, isIE, tagE, lenE]
    cases h0 : (t.1 == 0) <;> simp
  · rfl
  · rfl
theorem gZ_mk : gZ (rd (mk N I J) a) i = gZs (sh N a) i := by
  rw [rd_mk]
  rcases sh N a with t | t | t
  · simp only [fill, gZ, gZs, isIE, tagE, lenE]
    cases h0 : (t.1 == 1) <;> simp
  · rfl
  · rfl
theorem gR_mk : gR (rd (mk N I J) a) i = gRs (sh N a) i := by
  rw [rd_mk]
  rcases sh N a with t | t | t <;> rfl
theorem isI_mk : isIE (rd (mk N I J) a) = isIs (sh N a) := by
  rw [rd_mk]
  rcases sh N a with t | t | t <;> rfl
theorem isR_mk : isRE (rd (mk N I J) a) = isRs (sh N a) := by
  rw [rd_mk]
  rcases sh N a with t | t | t <;> rfl
theorem tag_mk : tagE (rd (mk N I J) a) = tagS (sh N a) := by
  rw [rd_mk]
  rcases sh N a with t | t | t <;> rfl
theorem lenE_mk : lenE (rd (mk N I J) a) = lenS (sh N a) := by
  rw [rd_mk]
  rcases sh N a with t | t | t <;> rfl
theorem datR_mk : datR (rd (mk N I J) a) k = datRs (sh N a) k := by
  rw [rd_mk]
  rcases sh N a with t | t | t <;> rfl
theorem datI_mk (h : isArr (sh N a) = true) : datI (rd (mk N I J) a) = I a := by
  rw [rd_mk]
  rcases hs : sh N a with t | t | t
  · rfl
  · rw [hs] at h; cases h
  · rw [hs] at h; cases h
theorem mk_ext {M : Mem} (h : ∀ b, M.1 b = fill (sh N b) (I b) (J b)) (h2 : M.2 = (78 + N % 4, slN N)) : M = mk N I J := by
  obtain ⟨f, q⟩ := M
  simp only at h2
  subst h2
  unfold mk
  congr 1
  funext b
  exact h b
theorem wrI_mk (h : isArr (sh N a) = true) : wr (mk N I J) a (setI (rd (mk N I J) a) k x) = mk N (up I a k x) J := by
  refine mk_ext (fun b => ?_) rfl
  show (if b = a then setI (rd (mk N I J) a) k x else fill (sh N b) (I b) (J b)) = _
  by_cases hb : b = a
  · subst hb
    rw [if_pos rfl, rd_mk]
    rcases hs : sh N b with t | t | t
    · show (Sum.inl (t.1, t.2, upd (I b) k x) : PE) = Sum.inl (t.1, t.2, up I b k x b)
      congr 3
      funext j
      simp [upd, up]
    · rw [hs] at h; cases h
    · rw [hs] at h; cases h
  · rw [if_neg hb]
    congr 1
    funext j
    simp [up, hb]
theorem wrA_mk {f : Nat → Int32} {n : Nat} (h : sh N a = .inl (0, n)) : wr (mk N I J) a (pI 0 n f) = mk N (upA I a f) J := by
  refine mk_ext (fun b => ?_) rfl
  show (if b = a then pI 0 n f else fill (sh N b) (I b) (J b)) = _
  by_cases hb : b = a
  · subst hb
    rw [if_pos rfl, h]
    simp [fill, upA]
  · rw [if_neg hb]
    simp [upA, hb]
theorem fillV_setI : ∀ (l : List (Nat × Nat)) (o k : Nat) (f : Nat → Int32) (g : Nat → Int64) (x : Int32) (z : Nat), l[k]? = some (0, z) → (fillV l o f g).set k (.int x) = fillV l o (fun j => if j = o + k then x else f j) g := by
  intro l
  induction l with
  | nil => intro o k f g x z h; simp at h
  | cons q l ih =>
    intro o k f g x z h
    have rest : ∀ (l : List (Nat × Nat)) (o2 : Nat), o < o2 → k = 0 → fillV l o2 f g = fillV l o2 (fun j => if j = o + k then x else f j) g := by
      intro l
      induction l with
      | nil => intro o2 _ _; rfl
      | cons q l ih2 =>
        intro o2 h2 h3
        rw [fillV, fillV, if_neg (by omega), ih2 (o2 + 1) (by omega) h3]
    cases k with
    | zero =>
      rw [List.getElem?_cons_zero] at h
      cases h
      rw [fillV, fillV, List.set_cons_zero, rest l (o + 1) (by omega) rfl]
      simp [mkv]
    | succ k =>
      rw [List.getElem?_cons_succ] at h
      rw [fillV, fillV, List.set_cons_succ, ih (o + 1) k f g x z h, if_neg (by omega), show o + 1 + k = o + (k + 1) by omega]
theorem fillV_setJ : ∀ (l : List (Nat × Nat)) (o k : Nat) (f : Nat → Int32) (g : Nat → Int64) (x : Int64) (z : Nat), l[k]? = some (1, z) → (fillV l o f g).set k (.long x) = fillV l o f (fun j => if j = o + k then x else g j) := by
  intro l
  induction l with
  | nil => intro o k f g x z h; simp at h
  | cons q l ih =>
    intro o k f g x z h
    have rest : ∀ (l : List (Nat × Nat)) (o2 : Nat), o < o2 → k = 0 → fillV l o2 f g = fillV l o2 f (fun j => if j = o + k then x else g j) := by
      intro l
      induction l with
      | nil => intro o2 _ _; rfl
      | cons q l ih2 =>
        intro o2 h2 h3
        rw [fillV, fillV, if_neg (by omega), ih2 (o2 + 1) (by omega) h3]
    cases k with
    | zero =>
      rw [List.getElem?_cons_zero] at h
      cases h
      rw [fillV, fillV, List.set_cons_zero, rest l (o + 1) (by omega) rfl]
      simp [mkv]
    | succ k =>
      rw [List.getElem?_cons_succ] at h
      rw [fillV, fillV, List.set_cons_succ, ih (o + 1) k f g x z h, if_neg (by omega), show o + 1 + k = o + (k + 1) by omega]
def fkS (s : Sh) (k : Nat) : Nat := match s with
  | .inr (.inr o) => match o.2[k]? with
    | some q => q.1
    | none => 9
  | _ => 9
theorem wrF_mk (h : fkS (sh N a) k = 0) : wr (mk N I J) a (setF (rd (mk N I J) a) k (.int x)) = mk N (up I a k x) J := by
  refine mk_ext (fun b => ?_) rfl
  show (if b = a then setF (rd (mk N I J) a) k (.int x) else fill (sh N b) (I b) (J b)) = _
  by_cases hb : b = a
  · subst hb
    rw [if_pos rfl, rd_mk]
    rcases hs : sh N b with t | t | t
    · rw [hs] at h; cases h
    · rw [hs] at h; cases h
    · rw [hs] at h
      simp only [fkS] at h
      rcases hq : t.2[k]? with _ | ⟨q1, q2⟩
      · rw [hq] at h; cases h
      · rw [hq] at h
        simp only at h
        subst h
        show (Sum.inr (.inr (t.1, (fillV t.2 0 (I b) (J b)).set k (.int x))) : PE) = Sum.inr (.inr (t.1, fillV t.2 0 (up I b k x b) (J b)))
        rw [fillV_setI t.2 0 k (I b) (J b) x q2 hq]
        congr 4
        funext j
        simp [up]
  · rw [if_neg hb]
    congr 1
    funext j
    simp [up, hb]
theorem wrJ_mk (h : fkS (sh N a) k = 1) : wr (mk N I J) a (setF (rd (mk N I J) a) k (.long y)) = mk N I (upJ J a k y) := by
  refine mk_ext (fun b => ?_) rfl
  show (if b = a then setF (rd (mk N I J) a) k (.long y) else fill (sh N b) (I b) (J b)) = _
  by_cases hb : b = a
  · subst hb
    rw [if_pos rfl, rd_mk]
    rcases hs : sh N b with t | t | t
    · rw [hs] at h; cases h
    · rw [hs] at h; cases h
    · rw [hs] at h
      simp only [fkS] at h
      rcases hq : t.2[k]? with _ | ⟨q1, q2⟩
      · rw [hq] at h; cases h
      · rw [hq] at h
        simp only at h
        subst h
        show (Sum.inr (.inr (t.1, (fillV t.2 0 (I b) (J b)).set k (.long y))) : PE) = Sum.inr (.inr (t.1, fillV t.2 0 (I b) (upJ J b k y b)))
        rw [fillV_setJ t.2 0 k (I b) (J b) y q2 hq]
        congr 4
        funext j
        simp [upJ]
  · rw [if_neg hb]
    congr 1
    funext j
    simp [upJ, hb]
theorem mk_nx : (mk N I J).2.1 = 78 + N % 4 := rfl
theorem al_mk {z : Nat → Int32} (h : N % 4 < 3) (hs : sh (N + 1) (78 + N % 4) = .inl (0, k)) (hl : slN (N + 1) = slN N + k) : al (mk N I J) (pI 0 k z) k = mk (N + 1) (upA I (78 + N % 4) z) J := by
  refine mk_ext (fun b => ?_) (Prod.ext (by show 78 + N % 4 + 1 = 78 + (N + 1) % 4; omega) (by show slN N + k = slN (N + 1); exact hl.symm))
  show (if b = 78 + N % 4 then pI 0 k z else fill (sh N b) (I b) (J b)) = _
  by_cases hb : b = 78 + N % 4
  · rw [if_pos hb, hb, hs]
    simp [fill, upA]
  · rw [if_neg hb]
    have e : sh (N + 1) b = sh N b := by
      unfold sh
      by_cases h0 : b = 0
      · rw [if_pos h0, if_pos h0, show (N + 1) / 4 = N / 4 by omega]
      · rw [if_neg h0, if_neg h0]
        by_cases h1 : b < 77
        · rw [if_pos h1, if_pos h1]
        · rw [if_neg h1, if_neg h1]
          unfold shX
          by_cases h2 : b = 77
          · rw [if_pos h2, if_pos h2]
          · rw [if_neg h2, if_neg h2]
            by_cases h3 : b = 78
            · rw [if_pos (show b = 78 ∧ 1 ≤ (N + 1) % 4 by omega), if_pos (show b = 78 ∧ 1 ≤ N % 4 by omega)]
            · rw [if_neg (show ¬ (b = 78 ∧ 1 ≤ (N + 1) % 4) by omega), if_neg (show ¬ (b = 78 ∧ 1 ≤ N % 4) by omega)]
              by_cases h4 : (b = 79 ∧ 2 ≤ N % 4) ∨ (b = 80 ∧ 3 ≤ N % 4)
              · rw [if_pos (show (b = 79 ∧ 2 ≤ (N + 1) % 4) ∨ (b = 80 ∧ 3 ≤ (N + 1) % 4) by omega), if_pos h4]
              · rw [if_neg (show ¬ ((b = 79 ∧ 2 ≤ (N + 1) % 4) ∨ (b = 80 ∧ 3 ≤ (N + 1) % 4)) by omega), if_neg h4]
    rw [e, show upA I (78 + N % 4) z b = I b by simp [upA, hb]]
end

theorem sh_1 {N : Nat} : sh N 1 = .inr (.inr (9, [(2, 2), (2, 3), (2, 4), (2, 29), (2, 35), (2, 50), (2, 53), (2, 55)])) := of_eq_true (eq_self _)
theorem sh_2 {N : Nat} : sh N 2 = .inr (.inl (15, 6, [57, 59, 61, 63, 65, 67])) := of_eq_true (eq_self _)
theorem sh_3 {N : Nat} : sh N 3 = .inr (.inl (15, 4, [69, 71, 73, 75])) := of_eq_true (eq_self _)
theorem sh_4 {N : Nat} : sh N 4 = .inr (.inr (1, [(2, 5), (2, 7), (2, 9), (2, 10), (2, 13), (0, 0), (0, 0), (0, 0)])) := of_eq_true (eq_self _)
theorem sh_5 {N : Nat} : sh N 5 = .inr (.inr (2, [(2, 6)])) := of_eq_true (eq_self _)
theorem sh_6 {N : Nat} : sh N 6 = .inl (0, 8) := of_eq_true (eq_self _)
theorem sh_7 {N : Nat} : sh N 7 = .inr (.inr (2, [(2, 8)])) := of_eq_true (eq_self _)
theorem sh_8 {N : Nat} : sh N 8 = .inl (0, 8) := of_eq_true (eq_self _)
theorem sh_9 {N : Nat} : sh N 9 = .inr (.inl (18, 6, [14, 15, 16, 17, 18, 19])) := of_eq_true (eq_self _)
theorem sh_10 {N : Nat} : sh N 10 = .inr (.inr (0, [(2, 11), (2, 12), (0, 0)])) := of_eq_true (eq_self _)
theorem sh_11 {N : Nat} : sh N 11 = .inl (0, 40) := of_eq_true (eq_self _)
theorem sh_12 {N : Nat} : sh N 12 = .inl (0, 40) := of_eq_true (eq_self _)
theorem sh_13 {N : Nat} : sh N 13 = .inr (.inl (10, 3, [20, 23, 26])) := of_eq_true (eq_self _)
theorem sh_14 {N : Nat} : sh N 14 = .inr (.inr (8, [(0, 0), (0, 0), (0, 0), (0, 0), (0, 0), (0, 0)])) := of_eq_true (eq_self _)
theorem sh_15 {N : Nat} : sh N 15 = .inr (.inr (8, [(0, 0), (0, 0), (0, 0), (0, 0), (0, 0), (0, 0)])) := of_eq_true (eq_self _)
theorem sh_16 {N : Nat} : sh N 16 = .inr (.inr (8, [(0, 0), (0, 0), (0, 0), (0, 0), (0, 0), (0, 0)])) := of_eq_true (eq_self _)
theorem sh_17 {N : Nat} : sh N 17 = .inr (.inr (8, [(0, 0), (0, 0), (0, 0), (0, 0), (0, 0), (0, 0)])) := of_eq_true (eq_self _)
theorem sh_18 {N : Nat} : sh N 18 = .inr (.inr (8, [(0, 0), (0, 0), (0, 0), (0, 0), (0, 0), (0, 0)])) := of_eq_true (eq_self _)
theorem sh_19 {N : Nat} : sh N 19 = .inr (.inr (8, [(0, 0), (0, 0), (0, 0), (0, 0), (0, 0), (0, 0)])) := of_eq_true (eq_self _)
theorem sh_20 {N : Nat} : sh N 20 = .inr (.inr (0, [(2, 21), (2, 22), (0, 0)])) := of_eq_true (eq_self _)
theorem sh_21 {N : Nat} : sh N 21 = .inl (0, 40) := of_eq_true (eq_self _)
theorem sh_22 {N : Nat} : sh N 22 = .inl (0, 40) := of_eq_true (eq_self _)
theorem sh_23 {N : Nat} : sh N 23 = .inr (.inr (0, [(2, 24), (2, 25), (0, 0)])) := of_eq_true (eq_self _)
theorem sh_24 {N : Nat} : sh N 24 = .inl (0, 40) := of_eq_true (eq_self _)
theorem sh_25 {N : Nat} : sh N 25 = .inl (0, 40) := of_eq_true (eq_self _)
theorem sh_26 {N : Nat} : sh N 26 = .inr (.inr (0, [(2, 27), (2, 28), (0, 0)])) := of_eq_true (eq_self _)
theorem sh_27 {N : Nat} : sh N 27 = .inl (0, 40) := of_eq_true (eq_self _)
theorem sh_28 {N : Nat} : sh N 28 = .inl (0, 40) := of_eq_true (eq_self _)
theorem sh_29 {N : Nat} : sh N 29 = .inr (.inr (4, [(2, 30), (2, 32), (2, 33), (2, 34), (0, 0), (0, 0), (0, 0)])) := of_eq_true (eq_self _)
theorem sh_30 {N : Nat} : sh N 30 = .inr (.inr (2, [(2, 31)])) := of_eq_true (eq_self _)
theorem sh_31 {N : Nat} : sh N 31 = .inl (0, 8) := of_eq_true (eq_self _)
theorem sh_32 {N : Nat} : sh N 32 = .inl (0, 6) := of_eq_true (eq_self _)
theorem sh_33 {N : Nat} : sh N 33 = .inl (0, 6) := of_eq_true (eq_self _)
theorem sh_34 {N : Nat} : sh N 34 = .inl (0, 6) := of_eq_true (eq_self _)
theorem sh_35 {N : Nat} : sh N 35 = .inr (.inr (3, [(2, 36), (2, 37), (0, 0)])) := of_eq_true (eq_self _)
theorem sh_36 {N : Nat} : sh N 36 = .inl (0, 5) := of_eq_true (eq_self _)
theorem sh_37 {N : Nat} : sh N 37 = .inr (.inl (12, 6, [38, 40, 42, 44, 46, 48])) := of_eq_true (eq_self _)
theorem sh_38 {N : Nat} : sh N 38 = .inr (.inr (2, [(2, 39)])) := of_eq_true (eq_self _)
theorem sh_39 {N : Nat} : sh N 39 = .inl (0, 8) := of_eq_true (eq_self _)
theorem sh_40 {N : Nat} : sh N 40 = .inr (.inr (2, [(2, 41)])) := of_eq_true (eq_self _)
theorem sh_41 {N : Nat} : sh N 41 = .inl (0, 8) := of_eq_true (eq_self _)
theorem sh_42 {N : Nat} : sh N 42 = .inr (.inr (2, [(2, 43)])) := of_eq_true (eq_self _)
theorem sh_43 {N : Nat} : sh N 43 = .inl (0, 8) := of_eq_true (eq_self _)
theorem sh_44 {N : Nat} : sh N 44 = .inr (.inr (2, [(2, 45)])) := of_eq_true (eq_self _)
theorem sh_45 {N : Nat} : sh N 45 = .inl (0, 8) := of_eq_true (eq_self _)
theorem sh_46 {N : Nat} : sh N 46 = .inr (.inr (2, [(2, 47)])) := of_eq_true (eq_self _)
theorem sh_47 {N : Nat} : sh N 47 = .inl (0, 8) := of_eq_true (eq_self _)
theorem sh_48 {N : Nat} : sh N 48 = .inr (.inr (2, [(2, 49)])) := of_eq_true (eq_self _)
theorem sh_49 {N : Nat} : sh N 49 = .inl (0, 8) := of_eq_true (eq_self _)
theorem sh_50 {N : Nat} : sh N 50 = .inr (.inr (6, [(2, 51), (2, 52), (0, 0)])) := of_eq_true (eq_self _)
theorem sh_51 {N : Nat} : sh N 51 = .inl (0, 4) := of_eq_true (eq_self _)
theorem sh_52 {N : Nat} : sh N 52 = .inl (0, 4) := of_eq_true (eq_self _)
theorem sh_53 {N : Nat} : sh N 53 = .inr (.inr (2, [(2, 54)])) := of_eq_true (eq_self _)
theorem sh_54 {N : Nat} : sh N 54 = .inl (0, 8) := of_eq_true (eq_self _)
theorem sh_55 {N : Nat} : sh N 55 = .inr (.inr (7, [(2, 56), (0, 0), (0, 0), (1, 0), (1, 0)])) := of_eq_true (eq_self _)
theorem sh_56 {N : Nat} : sh N 56 = .inl (0, 6) := of_eq_true (eq_self _)
theorem sh_57 {N : Nat} : sh N 57 = .inr (.inr (5, [(2, 58), (0, 0), (0, 0)])) := of_eq_true (eq_self _)
theorem sh_58 {N : Nat} : sh N 58 = .inl (0, 40) := of_eq_true (eq_self _)
theorem sh_59 {N : Nat} : sh N 59 = .inr (.inr (5, [(2, 60), (0, 0), (0, 0)])) := of_eq_true (eq_self _)
theorem sh_60 {N : Nat} : sh N 60 = .inl (0, 40) := of_eq_true (eq_self _)
theorem sh_61 {N : Nat} : sh N 61 = .inr (.inr (5, [(2, 62), (0, 0), (0, 0)])) := of_eq_true (eq_self _)
theorem sh_62 {N : Nat} : sh N 62 = .inl (0, 40) := of_eq_true (eq_self _)
theorem sh_63 {N : Nat} : sh N 63 = .inr (.inr (5, [(2, 64), (0, 0), (0, 0)])) := of_eq_true (eq_self _)
theorem sh_64 {N : Nat} : sh N 64 = .inl (0, 40) := of_eq_true (eq_self _)
theorem sh_65 {N : Nat} : sh N 65 = .inr (.inr (5, [(2, 66), (0, 0), (0, 0)])) := of_eq_true (eq_self _)
theorem sh_66 {N : Nat} : sh N 66 = .inl (0, 40) := of_eq_true (eq_self _)
theorem sh_67 {N : Nat} : sh N 67 = .inr (.inr (5, [(2, 68), (0, 0), (0, 0)])) := of_eq_true (eq_self _)
theorem sh_68 {N : Nat} : sh N 68 = .inl (0, 40) := of_eq_true (eq_self _)
theorem sh_69 {N : Nat} : sh N 69 = .inr (.inr (5, [(2, 70), (0, 0), (0, 0)])) := of_eq_true (eq_self _)
theorem sh_70 {N : Nat} : sh N 70 = .inl (0, 60) := of_eq_true (eq_self _)
theorem sh_71 {N : Nat} : sh N 71 = .inr (.inr (5, [(2, 72), (0, 0), (0, 0)])) := of_eq_true (eq_self _)
theorem sh_72 {N : Nat} : sh N 72 = .inl (0, 60) := of_eq_true (eq_self _)
theorem sh_73 {N : Nat} : sh N 73 = .inr (.inr (5, [(2, 74), (0, 0), (0, 0)])) := of_eq_true (eq_self _)
theorem sh_74 {N : Nat} : sh N 74 = .inl (0, 60) := of_eq_true (eq_self _)
theorem sh_75 {N : Nat} : sh N 75 = .inr (.inr (5, [(2, 76), (0, 0), (0, 0)])) := of_eq_true (eq_self _)
theorem sh_76 {N : Nat} : sh N 76 = .inl (0, 60) := of_eq_true (eq_self _)
theorem sh_77 {N : Nat} : sh N 77 = .inl (0, 48) := of_eq_true (eq_self _)
theorem sh_78 {N : Nat} (h : 1 ≤ N % 4) : sh N 78 = .inl (0, 14) := by unfold sh shX; rw [if_neg (by omega), if_neg (by omega), if_neg (by omega), if_pos (by omega)]
theorem sh_79 {N : Nat} (h : 2 ≤ N % 4) : sh N 79 = .inl (0, 16) := by unfold sh shX; rw [if_neg (by omega), if_neg (by omega), if_neg (by omega), if_neg (by omega), if_pos (by omega)]
theorem sh_80 {N : Nat} (h : 3 ≤ N % 4) : sh N 80 = .inl (0, 16) := by unfold sh shX; rw [if_neg (by omega), if_neg (by omega), if_neg (by omega), if_neg (by omega), if_pos (by omega)]
theorem sh_0 {N : Nat} : sh N 0 = .inl (9, N / 4) := of_eq_true (eq_self _)
