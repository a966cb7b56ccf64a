/-! THE PURE MACHINE: the claim's bytecode over a heap of numbered cells; all later rows speak of it; part 05 ties it to the real machine, once. -/
abbrev PE : Type := (Nat × Nat × (Nat → Int32)) ⊕ ((Nat × Nat × (Nat → Option Nat)) ⊕ (Nat × List Value))
abbrev pI (t n : Nat) (f : Nat → Int32) : PE := .inl (t, n, f)
abbrev pR (t n : Nat) (f : Nat → Option Nat) : PE := .inr (.inl (t, n, f))
abbrev pO (c : Nat) (fs : List Value) : PE := .inr (.inr (c, fs))
abbrev Mem : Type := (Nat → PE) × Nat × Nat
def rd (M : Mem) (a : Nat) : PE := M.1 a
def wr (M : Mem) (a : Nat) (c : PE) : Mem := (fun b => if b = a then c else M.1 b, M.2)
def al (M : Mem) (c : PE) (n : Nat) : Mem := (fun b => if b = M.2.1 then c else M.1 b, M.2.1 + 1, M.2.2 + n)
theorem rd_wr (M : Mem) (a b : Nat) (c : PE) : rd (wr M a c) b = if b = a then c else rd M b := rfl
theorem rd_al (M : Mem) (b n : Nat) (c : PE) : rd (al M c n) b = if b = M.2.1 then c else rd M b := rfl
/-- the tags of arrays: 0 of ints, 1 of booleans, 9 the script; of references ten more than the class -/
def tagOk (t : Nat) : Bool := t == 10 || t == 12 || t == 15 || t == 18
def isIE : PE → Bool
  | .inl x => x.1 == 0 || x.1 == 1 || x.1 == 9
  | _ => false
def isRE : PE → Bool
  | .inr (.inl x) => tagOk x.1
  | _ => false
def tagE : PE → Nat
  | .inl x => x.1
  | .inr (.inl x) => x.1
  | .inr (.inr x) => x.1
def lenE : PE → Nat
  | .inl x => x.2.1
  | .inr (.inl x) => x.2.1
  | .inr (.inr _) => 0
def datI : PE → Nat → Int32
  | .inl x => x.2.2
  | _ => fun _ => 0
def datR : PE → Nat → Option Nat
  | .inr (.inl x) => x.2.2
  | _ => fun _ => none
def isO (c : PE) (ci : Nat) : Bool := match c with
  | .inr (.inr x) => x.1 == ci
  | _ => false
def fldsE : PE → List Value
  | .inr (.inr x) => x.2
  | _ => []
def fldE (c : PE) (k : Nat) : Value := (fldsE c).getD k .null
def inb (i : Int32) (n : Nat) : Bool := !(decide (i < 0)) && decide (i.toNatClampNeg < n)
def gI (c : PE) (i : Int32) : Bool := isIE c && (tagE c == 0 || tagE c == 9) && inb i (lenE c)
def gI0 (c : PE) (i : Int32) : Bool := isIE c && tagE c == 0 && inb i (lenE c)
def gZ (c : PE) (i : Int32) : Bool := isIE c && tagE c == 1 && inb i (lenE c)
def gR (c : PE) (i : Int32) : Bool := isRE c && inb i (lenE c)
def setI (c : PE) (k : Nat) (x : Int32) : PE := .inl (tagE c, lenE c, upd (datI c) k x)
def setR (c : PE) (k : Nat) (x : Nat) : PE := .inr (.inl (tagE c, lenE c, va_up (datR c) k (some x)))
def setF (c : PE) (k : Nat) (v : Value) : PE := .inr (.inr (tagE c, (fldsE c).set k v))
def fitV (ty : FieldType) (v : Value) : Bool := match v with
  | .int x => (ty == .int) || (ty == .boolean && (x == 0 || x == 1))
  | .long _ => ty == .long
  | .null => refKind ty
  | .ref _ => refKind ty
  | _ => false
def refV (o : Option Nat) : Value := match o with
  | none => .null
  | some a => .ref a
def catS (S : List Value) : Nat := (S.map fun v => v.category).sum
def prevOk (L : List Value) (i : Nat) : Bool := match i with
  | 0 => true
  | i + 1 => (L.getD i (.float 0)).category == 1
def slotL (as : List Value) : List Value := as.flatMap fun v => if v.category = 2 then [v, .float 0] else [v]
abbrev SR : Type := (Option Value × Mem) ⊕ ((Nat × List Value × List Value × Mem) ⊕ (Nat × List Value × Nat × List Value × List Value))
abbrev nx (pc : Nat) (L S : List Value) (M : Mem) : Option SR := some (.inr (.inl (pc, L, S, M)))
abbrev rt (v : Option Value) (M : Mem) : Option SR := some (.inl (v, M))
def tgt (pc : Nat) (off : Int) : Nat := ((pc : Int) + off).toNat
def jmp (pc : Nat) (off : Int) (L S : List Value) (M : Mem) : Option SR := if 0 ≤ (pc : Int) + off then nx (tgt pc off) L S M else none
def bI2 (S : List Value) (f : Int32 → Int32 → Option Value) : Option (Nat × List Value) := match S with
  | .int y :: .int x :: S' => (f x y).map fun v => (1, v :: S')
  | _ => none
def bL2 (S : List Value) (f : Int64 → Int64 → Option Value) : Option (Nat × List Value) := match S with
  | .long y :: .long x :: S' => (f x y).map fun v => (1, v :: S')
  | _ => none
def bI1 (S : List Value) (f : Int32 → Value) : Option (Nat × List Value) := match S with
  | .int x :: S' => some (1, f x :: S')
  | _ => none
def bL1 (S : List Value) (f : Int64 → Value) : Option (Nat × List Value) := match S with
  | .long x :: S' => some (1, f x :: S')
  | _ => none
/-- what only the operands see: how long the instruction is, the operands behind it -/
def alu (i : Instr) (S : List Value) : Option (Nat × List Value) := match i with
  | .aconst_null => some (1, .null :: S)
  | .iconst n => some (1, .int (Int32.ofInt n) :: S)
  | .lconst n => some (1, .long (Int64.ofNat (n : Nat)) :: S)
  | .bipush n => some (2, .int (Int8.ofInt n).toInt32 :: S)
  | .sipush n => some (3, .int (Int16.ofInt n).toInt32 :: S)
  | .iadd => bI2 S fun x y => some (.int (x + y))
  | .isub => bI2 S fun x y => some (.int (x - y))
  | .imul => bI2 S fun x y => some (.int (x * y))
  | .iand => bI2 S fun x y => some (.int (x &&& y))
  | .ior => bI2 S fun x y => some (.int (x ||| y))
  | .ixor => bI2 S fun x y => some (.int (x ^^^ y))
  | .idiv => bI2 S fun x y => if y = 0 then none else some (.int (x / y))
  | .irem => bI2 S fun x y => if y = 0 then none else some (.int (x % y))
  | .ishl => bI2 S fun x y => some (.int (x <<< (y &&& 31)))
  | .ishr => bI2 S fun x y => some (.int (x >>> (y &&& 31)))
  | .ladd => bL2 S fun x y => some (.long (x + y))
  | .lsub => bL2 S fun x y => some (.long (x - y))
  | .lmul => bL2 S fun x y => some (.long (x * y))
  | .ldiv => bL2 S fun x y => if y = 0 then none else some (.long (x / y))
  | .lrem => bL2 S fun x y => if y = 0 then none else some (.long (x % y))
  | .lcmp => bL2 S fun x y => some (.int (lg_cmp x y))
  | .i2l => bI1 S fun x => .long x.toInt64
  | .l2i => bL1 S fun x => .int x.toInt32
  | .i2b => bI1 S fun x => .int x.toInt8.toInt32
  | .dup => match S with
    | v :: S' => if v.category = 1 then some (1, v :: v :: S') else none
    | _ => none
  | .dup2 => match S with
    | v :: w :: S' => if v.category = 1 ∧ w.category = 1 then some (1, v :: w :: v :: w :: S') else none
    | _ => none
  | .pop => match S with
    | v :: S' => if v.category = 1 then some (1, S') else none
    | _ => none
  | _ => none
def icond (op : Jvm.ClassFile.Cond) (x y : Int32) : Bool := match op with
  | .eq => decide (x = y)
  | .ne => !decide (x = y)
  | .lt => decide (x < y)
  | .ge => !decide (x < y)
  | .gt => decide (y < x)
  | .le => !decide (y < x)
def ld (k len : Nat) (i : Nat) (want : Value → Bool) (pc : Nat) (L S : List Value) (M : Mem) : Option SR := match L[i]? with
  | some v => if len = k ∧ want v = true then nx (pc + k) L (v :: S) M else none
  | none => none
def st1 (k len : Nat) (i : Nat) (want : Value → Bool) (pc : Nat) (L S : List Value) (M : Mem) : Option SR := match S with
  | v :: S' => if len = k ∧ want v = true ∧ i < L.length ∧ prevOk L i = true then nx (pc + k) (L.set i v) S' M else none
  | _ => none
def st2 (k len : Nat) (i : Nat) (pc : Nat) (L S : List Value) (M : Mem) : Option SR := match S with
  | .long x :: S' => if len = k ∧ i + 1 < L.length ∧ prevOk L i = true then nx (pc + k) ((L.set i (.long x)).set (i + 1) (.float 0)) S' M else none
  | _ => none
def wI (v : Value) : Bool := match v with | .int _ => true | _ => false
def wL (v : Value) : Bool := match v with | .long _ => true | _ => false
def wA (v : Value) : Bool := match v with | .null => true | .ref _ => true | _ => false
def retV (rk : Nat) (v : Value) : Bool := match v with
  | .int x => rk == 1 || (rk == 2 && (x == 0 || x == 1))
  | .long _ => rk == 3
  | .null => rk == 4
  | .ref _ => rk == 4
  | _ => false
def defs (ci : Nat) : List Value := (dfl.getD ci [])
/-- a call's arguments taken from the operands -/
def pcallS (m n pc : Nat) (L S : List Value) : Option SR := if n ≤ S.length ∧ catS (S.drop n) ≤ 8 then some (.inr (.inr (m, (S.take n).reverse, pc + 3, L, S.drop n))) else none
def recvA (S : List Value) (n : Nat) : Option Nat := match S[n]? with
  | some (.ref a) => some a
  | _ => none
def callK (kd : Nat) (op : Nat) (m pc : Nat) (L S : List Value) (M : Mem) : Option SR :=
  if op = 0 ∧ (kd = 0 ∨ kd = 1) ∧ mS m = false then
    match recvA S (mN m - 1) with
    | some a => if isO (rd M a) (mO m) = true ∧ 1 ≤ mN m then pcallS m (mN m) pc L S else none
    | none => none
  else if op = 1 ∧ (kd = 2 ∨ kd = 3) ∧ mS m = true then pcallS m (mN m) pc L S
  else if op = 2 ∧ (kd = 4 ∨ kd = 5) ∧ mS m = false then
    match recvA S (mN m - 1) with
    | some _ => if 1 ≤ mN m then pcallS m (mN m) pc L S else none
    | none => none
  else none
def copyS (pc : Nat) (L S : List Value) (M : Mem) : Option SR := match S with
  | .int n :: .int dp :: .ref b :: .int sp :: .ref a :: S' =>
    if isIE (rd M a) = true ∧ isIE (rd M b) = true ∧ tagE (rd M a) = 0 ∧ tagE (rd M b) = 0 ∧ ¬ sp < 0 ∧ ¬ dp < 0 ∧ ¬ n < 0 ∧ sp.toNatClampNeg + n.toNatClampNeg ≤ lenE (rd M a) ∧ dp.toNatClampNeg + n.toNatClampNeg ≤ lenE (rd M b) ∧ catS S' ≤ 8 then
      nx (pc + 3) L S' (wr M b (pI 0 (lenE (rd M b)) (va_cpy (datI (rd M a)) (datI (rd M b)) sp.toNatClampNeg dp.toNatClampNeg n.toNatClampNeg)))
    else none
  | _ => none
/-- one instruction -/
def stepI (own rk : Nat) (ctor : Bool) (i : Instr) (len pc : Nat) (L S : List Value) (M : Mem) : Option SR := match i with
  | .iload k => ld 2 len k wI pc L S M
  | .iload_n k => ld 1 len k wI pc L S M
  | .lload k => ld 2 len k wL pc L S M
  | .lload_n k => ld 1 len k wL pc L S M
  | .aload k => ld 2 len k wA pc L S M
  | .aload_n k => ld 1 len k wA pc L S M
  | .istore k => st1 2 len k wI pc L S M
  | .istore_n k => st1 1 len k wI pc L S M
  | .astore k => st1 2 len k wA pc L S M
  | .astore_n k => st1 1 len k wA pc L S M
  | .lstore k => st2 2 len k pc L S M
  | .lstore_n k => st2 1 len k pc L S M
  | .iinc k n => match L[k]? with
    | some (.int x) => if len = 3 ∧ prevOk L k = true then nx (pc + 3) (L.set k (.int (x + Int32.ofInt n))) S M else none
    | _ => none
  | .goto off => if len = 3 then jmp pc off L S M else none
  | .ifCond c off => match S with
    | .int x :: S' => if len = 3 ∧ 0 ≤ (pc : Int) + off then (if icond c x 0 = true then nx (tgt pc off) L S' M else nx (pc + 3) L S' M) else none
    | _ => none
  | .if_icmp c off => match S with
    | .int y :: .int x :: S' => if len = 3 ∧ 0 ≤ (pc : Int) + off then (if icond c x y = true then nx (tgt pc off) L S' M else nx (pc + 3) L S' M) else none
    | _ => none
  | .ifnull off => match S with
    | .null :: S' => if len = 3 then jmp pc off L S' M else none
    | .ref _ :: S' => if len = 3 then nx (pc + 3) L S' M else none
    | _ => none
  | .ifnonnull off => match S with
    | .null :: S' => if len = 3 then nx (pc + 3) L S' M else none
    | .ref _ :: S' => if len = 3 then jmp pc off L S' M else none
    | _ => none
  | .tableswitch dflt lo hi offs => match S with
    | .int x :: S' => if x.toInt < lo ∨ hi < x.toInt then jmp pc dflt L S' M else match offs[(x.toInt - lo).toNat]? with
      | some off => jmp pc off L S' M
      | none => none
    | _ => none
  | .ireturn => match S with
    | [.int x] => if len = 1 ∧ retV rk (.int x) = true then rt (some (.int x)) M else none
    | _ => none
  | .lreturn => match S with
    | [.long x] => if len = 1 ∧ rk = 3 then rt (some (.long x)) M else none
    | _ => none
  | .areturn => match S with
    | [v] => if len = 1 ∧ rk = 4 ∧ wA v = true then rt (some v) M else none
    | _ => none
  | .return_ => match S with
    | [] => if len = 1 ∧ rk = 0 then rt none M else none
    | _ => none
  | .iaload => match S with
    | .int i :: .ref a :: S' => if len = 1 ∧ gI (rd M a) i = true then nx (pc + 1) L (.int (datI (rd M a) i.toNatClampNeg) :: S') M else none
    | _ => none
  | .aaload => match S with
    | .int i :: .ref a :: S' => if len = 1 ∧ gR (rd M a) i = true then nx (pc + 1) L (refV (datR (rd M a) i.toNatClampNeg) :: S') M else none
    | _ => none
  | .iastore => match S with
    | .int x :: .int i :: .ref a :: S' => if len = 1 ∧ gI0 (rd M a) i = true then nx (pc + 1) L S' (wr M a (setI (rd M a) i.toNatClampNeg x)) else none
    | _ => none
  | .aastore => match S with
    | .ref v :: .int i :: .ref a :: S' => if len = 1 ∧ gR (rd M a) i = true ∧ isO (rd M v) (tagC (tagE (rd M a))) = true then nx (pc + 1) L S' (wr M a (setR (rd M a) i.toNatClampNeg v)) else none
    | _ => none
  | .arraylength => match S with
    | .ref a :: S' => if len = 1 ∧ (isIE (rd M a) || isRE (rd M a)) = true then nx (pc + 1) L (.int (Int32.ofNat (lenE (rd M a))) :: S') M else none
    | _ => none
  | .getfield idx => match S, fldT own idx with
    | .ref a :: S', some e => if len = 3 ∧ isO (rd M a) e.1 = true ∧ e.2.1 < (fldsE (rd M a)).length then nx (pc + 3) L (fldE (rd M a) e.2.1 :: S') M else none
    | _, _ => none
  | .putfield idx => match S, fldT own idx with
    | v :: .ref a :: S', some e => if len = 3 ∧ isO (rd M a) e.1 = true ∧ e.2.1 < (fldsE (rd M a)).length ∧ fitV (fTy e.1 e.2.1) v = true ∧ (fFin e.1 e.2.1 = true → ctor = true ∧ e.1 = own) then nx (pc + 3) L S' (wr M a (setF (rd M a) e.2.1 v)) else none
    | _, _ => none
  | .invokevirtual idx => match mthT own idx with
    | some e => if len = 3 then callK e.2 0 e.1 pc L S M else none
    | none => none
  | .invokestatic idx => match mthT own idx with
    | some e => if len = 3 then (if e.2 = 7 then copyS pc L S M else callK e.2 1 e.1 pc L S M) else none
    | none => none
  | .invokespecial idx => match mthT own idx with
    | some e => if len = 3 then (if e.2 = 6 then (match S with
        | .ref _ :: S' => if catS S' ≤ 8 then nx (pc + 3) L S' M else none
        | _ => none) else callK e.2 2 e.1 pc L S M) else none
    | none => none
  | .new idx => match clsT own idx with
    | some ci => if len = 3 then nx (pc + 3) L (.ref M.2.1 :: S) (al M (pO ci (defs ci)) (defs ci).length) else none
    | none => none
  | .newarray .int => match S with
    | .int n :: S' => if len = 2 ∧ ¬ n < 0 ∧ n.toNatClampNeg ≤ 4096 then nx (pc + 2) L (.ref M.2.1 :: S') (al M (pI 0 n.toNatClampNeg (fun _ => 0)) n.toNatClampNeg) else none
    | _ => none
  | .anewarray idx => match S, aclT own idx with
    | .int n :: S', some t => if len = 3 ∧ ¬ n < 0 ∧ n.toNatClampNeg ≤ 4096 then nx (pc + 3) L (.ref M.2.1 :: S') (al M (pR t n.toNatClampNeg (fun _ => none)) n.toNatClampNeg) else none
    | _, _ => none
  | .ldc idx => match ldcT own idx with
    | some v => if len = 2 then nx (pc + 2) L (.int v :: S) M else none
    | none => none
  | .ldc_w idx => match ldcT own idx with
    | some v => if len = 3 then nx (pc + 3) L (.int v :: S) M else none
    | none => none
  | .ldc2_w idx => match ldlT own idx with
    | some v => if len = 3 then nx (pc + 3) L (.long v :: S) M else none
    | none => none
  | i => match alu i S with
    | some (k, S') => if len = k then nx (pc + k) L S' M else none
    | none => none
def ins (m pc : Nat) : Option (Instr × Nat) := match decode (mC m) pc with
  | .ok x => some x
  | .error _ => none
theorem insOf {m pc : Nat} {b : ByteArray} {x : Instr × Nat} (hb : mC m = b) (hd : decode b pc = .ok x) : ins m pc = some x := by
  subst hb
  simp [ins, hd]
def stp (m pc : Nat) (L S : List Value) (M : Mem) : Option SR := match ins m pc with
  | some x => stepI (mO m) (mK m) (mI m) x.1 x.2 pc L S M
  | none => none
abbrev RV : Type := Option (Option Value × Mem)
def loopF (call : Nat → List Value → Mem → RV) (m : Nat) : Nat → Nat → List Value → List Value → Mem → RV
  | 0, _, _, _, _ => none
  | f + 1, pc, L, S, M => match stp m pc L S M with
    | none => none
    | some (.inl r) => some r
    | some (.inr (.inl x)) => loopF call m f x.1 x.2.1 x.2.2.1 x.2.2.2
    | some (.inr (.inr x)) => match call x.1 x.2.1 M with
      | none => none
      | some r => loopF call m f x.2.2.1 x.2.2.2.1 (r.1.toList ++ x.2.2.2.2) r.2
def entryL (m : Nat) (as : List Value) : Option (List Value) := if as.length = mN m ∧ (slotL as).length ≤ mL m then some (slotL as ++ List.replicate (mL m - (slotL as).length) (.float 0)) else none
def callF : Nat → Nat → Nat → List Value → Mem → RV
  | 0, _, _, _, _ => none
  | d + 1, f, m, as, M => match entryL m as with
    | none => none
    | some L => loopF (callF d f) m f 0 L [] M
theorem loopF_mono {c1 c2 : Nat → List Value → Mem → RV} (hc : ∀ m as M r, c1 m as M = some r → c2 m as M = some r) (m : Nat) : ∀ (f g pc : Nat) (L S : List Value) (M : Mem) (r : Option Value × Mem), f ≤ g → loopF c1 m f pc L S M = some r → loopF c2 m g pc L S M = some r := by
  intro f
  induction f with
  | zero => intro g pc L S M r _ h; simp [loopF] at h
  | succ f ih =>
    intro g pc L S M r hg h
    obtain ⟨g, rfl⟩ : ∃ k, g = k + 1 := ⟨g - 1, by omega⟩
    rw [loopF] at h ⊢
    rcases hs : stp m pc L S M with _ | (x | (x | x))
    · rw [hs] at h; cases h
    · rw [hs] at h; exact h
    · rw [hs] at h; exact ih g _ _ _ _ _ (by omega) h
    · rw [hs] at h
      simp only at h ⊢
      rcases hk : c1 x.1 x.2.1 M with _ | q
      · rw [hk] at h; cases h
      · rw [hk] at h
        rw [hc _ _ _ _ hk]
        exact ih g _ _ _ _ _ (by omega) h
theorem callF_mono : ∀ (d f g m : Nat) (as : List Value) (M : Mem) (r : Option Value × Mem), f ≤ g → callF d f m as M = some r → callF d g m as M = some r := by
  intro d
  induction d with
  | zero => intro f g m as M r _ h; simp [callF] at h
  | succ d ih =>
    intro f g m as M r hg h
    rw [callF] at h ⊢
    rcases he : entryL m as with _ | L
    · rw [he] at h; cases h
    · rw [he] at h
      exact loopF_mono (fun m as M r hk => ih f g m as M r hg hk) m f g 0 L [] M r hg h
noncomputable def lim (g : Nat → RV) : RV := @dite _ (∃ f r, g f = some r) (Classical.propDecidable _) (fun h => some (Classical.choose (Classical.choose_spec h))) (fun _ => none)
theorem lim_iff {g : Nat → RV} (hm : ∀ f f' r, f ≤ f' → g f = some r → g f' = some r) (r : Option Value × Mem) : lim g = some r ↔ ∃ f, g f = some r := by
  unfold lim
  by_cases h : ∃ f r, g f = some r
  · rw [dif_pos h]
    have h1 := Classical.choose_spec (Classical.choose_spec h)
    generalize Classical.choose (Classical.choose_spec h) = r0 at h1 ⊢
    generalize Classical.choose h = f0 at h1
    constructor
    · intro e; cases e; exact ⟨f0, h1⟩
    · rintro ⟨f, hf⟩
      have a := hm f0 (max f0 f) r0 (Nat.le_max_left _ _) h1
      have b := hm f (max f0 f) r (Nat.le_max_right _ _) hf
      exact a.symm.trans b
  · rw [dif_neg h]
    constructor
    · intro e; cases e
    · rintro ⟨f, hf⟩; exact absurd ⟨f, r, hf⟩ h
noncomputable def R (d m pc : Nat) (L S : List Value) (M : Mem) : RV := lim fun f => loopF (callF d f) m f pc L S M
noncomputable def C (d m : Nat) (as : List Value) (M : Mem) : RV := lim fun f => callF d f m as M
theorem R_iff {d m pc : Nat} {L S : List Value} {M : Mem} {r : Option Value × Mem} : R d m pc L S M = some r ↔ ∃ f, loopF (callF d f) m f pc L S M = some r :=
  lim_iff (fun f f' r h e => loopF_mono (fun m as M r hk => callF_mono d f f' m as M r h hk) m f f' pc L S M r h e) r
theorem C_iff {d m : Nat} {as : List Value} {M : Mem} {r : Option Value × Mem} : C d m as M = some r ↔ ∃ f, callF d f m as M = some r :=
  lim_iff (fun f f' r h e => callF_mono d f f' m as M r h e) r
/-- what goes on behind a call: first order, so that simp doesn't walk ahead -/
noncomputable def K (d m pc : Nat) (L S : List Value) (x : RV) : RV := match x with
  | none => none
  | some r => R d m pc L (r.1.toList ++ S) r.2
theorem K_some {d m pc : Nat} {L S : List Value} {v : Value} {M : Mem} : K d m pc L S (some (some v, M)) = R d m pc L (v :: S) M := rfl
theorem K_void {d m pc : Nat} {L S : List Value} {M : Mem} : K d m pc L S (some (none, M)) = R d m pc L S M := rfl
theorem K_none {d m pc : Nat} {L S : List Value} : K d m pc L S none = none := rfl
theorem K_r {d m pc : Nat} {L S : List Value} {r : Option Value × Mem} : K d m pc L S (some r) = R d m pc L (r.1.toList ++ S) r.2 := rfl
theorem rv_ext {a b : RV} (h : ∀ r, a = some r ↔ b = some r) : a = b := by
  rcases a with _ | a
  · rcases b with _ | b
    · rfl
    · exact ((h b).mpr rfl)
  · exact ((h a).mp rfl).symm
noncomputable def kont (d m : Nat) (M : Mem) (o : Option SR) : RV := match o with
  | none => none
  | some (.inl r) => some r
  | some (.inr (.inl x)) => R d m x.1 x.2.1 x.2.2.1 x.2.2.2
  | some (.inr (.inr x)) => K d m x.2.2.1 x.2.2.2.1 x.2.2.2.2 (C d x.1 x.2.1 M)
theorem R_eq (d m pc : Nat) (L S : List Value) (M : Mem) : R d m pc L S M = kont d m M (stp m pc L S M) := by
  refine rv_ext fun r => ?_
  rw [R_iff]
  rcases hs : stp m pc L S M with _ | (x | (x | x))
  · constructor
    · rintro ⟨f, hf⟩
      cases f with
      | zero => simp [loopF] at hf
      | succ f => rw [loopF, hs] at hf; cases hf
    · intro h; cases h
  · constructor
    · rintro ⟨f, hf⟩
      cases f with
      | zero => simp [loopF] at hf
      | succ f => rw [loopF, hs] at hf; exact hf
    · intro h; exact ⟨1, by rw [loopF, hs]; exact h⟩
  · show _ ↔ R d m x.1 x.2.1 x.2.2.1 x.2.2.2 = some r
    rw [R_iff]
    constructor
    · rintro ⟨f, hf⟩
      cases f with
      | zero => simp [loopF] at hf
      | succ f =>
        rw [loopF, hs] at hf
        exact ⟨f + 1, loopF_mono (fun m as M r hk => hk) m f (f + 1) _ _ _ _ r (by omega) hf⟩
    · rintro ⟨f, hf⟩
      refine ⟨f + 1, ?_⟩
      rw [loopF, hs]
      exact loopF_mono (fun m as M r hk => callF_mono d f (f + 1) m as M r (by omega) hk) m f f _ _ _ _ r (Nat.le_refl _) hf
  · show _ ↔ K d m x.2.2.1 x.2.2.2.1 x.2.2.2.2 (C d x.1 x.2.1 M) = some r
    constructor
    · rintro ⟨f, hf⟩
      cases f with
      | zero => simp [loopF] at hf
      | succ f =>
        rw [loopF, hs] at hf
        simp only at hf
        rcases hk : callF d (f + 1) x.1 x.2.1 M with _ | q
        · rw [hk] at hf; cases hf
        · rw [hk] at hf
          rw [C_iff.mpr ⟨f + 1, hk⟩, K_r, R_iff]
          exact ⟨f + 1, loopF_mono (fun m as M r hk => hk) m f (f + 1) _ _ _ _ r (by omega) hf⟩
    · intro h
      rcases hk : C d x.1 x.2.1 M with _ | q
      · rw [hk] at h; cases h
      · rw [hk, K_r, R_iff] at h
        obtain ⟨f, hf⟩ := h
        obtain ⟨g, hg⟩ := C_iff.mp hk
        refine ⟨max f g + 1, ?_⟩
        rw [loopF, hs]
        simp only
        rw [callF_mono d g (max f g + 1) _ _ _ _ (by omega) hg]
        exact loopF_mono (fun m as M r hk => callF_mono d f (max f g + 1) m as M r (by omega) hk) m f (max f g) _ _ _ _ r (by omega) hf
theorem C_zero (m : Nat) (as : List Value) (M : Mem) : C 0 m as M = none := by
  refine rv_ext fun r => ?_
  rw [C_iff]
  constructor
  · rintro ⟨f, hf⟩; simp [callF] at hf
  · intro h; cases h
theorem C_eq {d m : Nat} {as : List Value} {M : Mem} {L : List Value} (he : entryL m as = some L) : C (d + 1) m as M = R d m 0 L [] M := by
  refine rv_ext fun r => ?_
  rw [C_iff, R_iff]
  constructor
  · rintro ⟨f, hf⟩; rw [callF, he] at hf; exact ⟨f, hf⟩
  · rintro ⟨f, hf⟩; exact ⟨f, by rw [callF, he]; exact hf⟩
