section
variable {p : Program} {l : Launch} {e : Env} {Rm : Room} {s : State} {mid : MethodId} {args : Array Value} {below : List Frame} {meth : Method} {c : Code} {Q : State → Prop} {D : va_G} {ad : Nat → Nat} {dA : Nat → ClassId} {base b0 Ls : Nat} {xs : Nat → Int32} {m pc len : Nat} {L S : List Value} {M : Mem}
/-- how a method ends -/
def RetF (i : Instr) (len : Nat) (S : List Value) (v : Option Value) (rk : Nat) : Prop :=
  len = 1 ∧ ((i = .ireturn ∧ ∃ x, S = [.int x] ∧ v = some (.int x) ∧ retV rk (.int x) = true) ∨ (i = .lreturn ∧ ∃ x, S = [.long x] ∧ v = some (.long x) ∧ rk = 3) ∨ (i = .areturn ∧ ∃ w, S = [w] ∧ v = some w ∧ rk = 4 ∧ wA w = true) ∨ (i = .return_ ∧ S = [] ∧ v = none ∧ rk = 0))
/-- what a call is -/
def CallF (m : Nat) (M : Mem) (i : Instr) (len pc : Nat) (L S : List Value) (y : Nat × List Value × Nat × List Value × List Value) : Prop :=
  len = 3 ∧ y.2.2.1 = pc + 3 ∧ y.2.2.2.1 = L ∧ S = y.2.1.reverse ++ y.2.2.2.2 ∧ catS y.2.2.2.2 ≤ 8 ∧ y.2.1.length = mN y.1 ∧ ∃ idx kd, mthT (mO m) idx = some (y.1, kd) ∧
    ((i = .invokevirtual idx ∧ (kd = 0 ∨ kd = 1) ∧ mS y.1 = false ∧ ∃ a as, y.2.1 = .ref a :: as ∧ isO (rd M a) (mO y.1) = true) ∨ (i = .invokestatic idx ∧ (kd = 2 ∨ kd = 3) ∧ mS y.1 = true) ∨ (i = .invokespecial idx ∧ (kd = 4 ∨ kd = 5) ∧ mS y.1 = false ∧ ∃ a as, y.2.1 = .ref a :: as))
theorem pcall_inv {m' n pc : Nat} {L S : List Value} {r : SR} (h : pcallS m' n pc L S = some r) : ∃ as S', S = as.reverse ++ S' ∧ as.length = n ∧ catS S' ≤ 8 ∧ r = .inr (.inr (m', as, pc + 3, L, S')) := by
  unfold pcallS at h
  split at h
  · rename_i hc
    cases h
    exact ⟨(S.take n).reverse, S.drop n, by simp, by simp [hc.1], hc.2, rfl⟩
  · cases h
theorem recv_inv {as S' : List Value} {a : Nat} (h : recvA (as.reverse ++ S') (as.length - 1) = some a) (h1 : 1 ≤ as.length) : ∃ as', as = .ref a :: as' := by
  cases as with
  | nil => simp at h1
  | cons v as =>
    unfold recvA at h
    rw [List.reverse_cons, List.append_assoc, List.length_cons, Nat.add_sub_cancel, List.getElem?_append_right (by simp)] at h
    simp at h
    split at h
    · rename_i q
      cases h
      cases q
      exact ⟨as, rfl⟩
    · cases h
theorem callK_inv {kd op m' pc : Nat} {L S : List Value} {M : Mem} {r : SR} (h : callK kd op m' pc L S M = some r) : ∃ as S', r = .inr (.inr (m', as, pc + 3, L, S')) ∧ S = as.reverse ++ S' ∧ catS S' ≤ 8 ∧ as.length = mN m' ∧
    ((op = 0 ∧ (kd = 0 ∨ kd = 1) ∧ mS m' = false ∧ ∃ a as', as = .ref a :: as' ∧ isO (rd M a) (mO m') = true) ∨ (op = 1 ∧ (kd = 2 ∨ kd = 3) ∧ mS m' = true) ∨ (op = 2 ∧ (kd = 4 ∨ kd = 5) ∧ mS m' = false ∧ ∃ a as', as = .ref a :: as')) := by
  unfold callK at h
  split at h
  · rename_i hc
    split at h
    · rename_i a ha
      split at h
      · rename_i ho
        obtain ⟨as, S', rfl, hl, h8, rfl⟩ := pcall_inv h
        rw [← hl] at ha
        obtain ⟨as', rfl⟩ := recv_inv ha (by omega)
        exact ⟨_, S', rfl, rfl, h8, hl, Or.inl ⟨hc.1, hc.2.1, hc.2.2, a, as', rfl, ho.1⟩⟩
      · cases h
    · cases h
  · split at h
    · rename_i hc
      obtain ⟨as, S', rfl, hl, h8, rfl⟩ := pcall_inv h
      exact ⟨_, S', rfl, rfl, h8, hl, Or.inr (Or.inl hc)⟩
    · split at h
      · rename_i hc
        split at h
        · rename_i a ha
          split at h
          · rename_i h1
            obtain ⟨as, S', rfl, hl, h8, rfl⟩ := pcall_inv h
            rw [← hl] at ha
            obtain ⟨as', rfl⟩ := recv_inv ha (by omega)
            exact ⟨_, S', rfl, rfl, h8, hl, Or.inr (Or.inr ⟨hc.1, hc.2.1, hc.2.2, a, as', rfl⟩)⟩
          · cases h
        · cases h
      · cases h
/-- every step of the pure machine, tied -/
theorem adq_step (hLL : L.length = mL m) (hR : 1 ≤ Rm.frames ∧ 100 ≤ Rm.locals) (X : Ctx p s mid args meth c D ad dA base b0 Ls xs m) {i : Instr} {r : SR} (h : stepI (mO m) (mK m) (mI m) i len pc L S M = some r) (hd : decode (mC m) pc = .ok (i, len)) :
    (∃ v, r = .inl (v, M) ∧ RetF i len S v (mK m)) ∨ (∃ x, r = .inr (.inl x) ∧ (NS p l e Rm s mid args below meth c Q D ad dA base Ls xs m pc L S M x ∨ ∃ n, NAl p l e Rm s mid args below meth c Q D ad dA base Ls xs m pc L S M x n)) ∨ (∃ y, r = .inr (.inr y) ∧ CallF m M i len pc L S y) := by
  cases i
  case iload k =>
    simp only [stepI] at h
    obtain ⟨x, rfl, hx⟩ := ns_iload X h hd
    exact Or.inr (Or.inl ⟨x, rfl, Or.inl hx⟩)
  case iload_n k =>
    simp only [stepI] at h
    obtain ⟨x, rfl, hx⟩ := ns_iload_n X h hd
    exact Or.inr (Or.inl ⟨x, rfl, Or.inl hx⟩)
  case lload k =>
    simp only [stepI] at h
    obtain ⟨x, rfl, hx⟩ := ns_lload X h hd
    exact Or.inr (Or.inl ⟨x, rfl, Or.inl hx⟩)
  case lload_n k =>
    simp only [stepI] at h
    obtain ⟨x, rfl, hx⟩ := ns_lload_n X h hd
    exact Or.inr (Or.inl ⟨x, rfl, Or.inl hx⟩)
  case aload k =>
    simp only [stepI] at h
    obtain ⟨x, rfl, hx⟩ := ns_aload X h hd
    exact Or.inr (Or.inl ⟨x, rfl, Or.inl hx⟩)
  case aload_n k =>
    simp only [stepI] at h
    obtain ⟨x, rfl, hx⟩ := ns_aload_n X h hd
    exact Or.inr (Or.inl ⟨x, rfl, Or.inl hx⟩)
  case istore k =>
    simp only [stepI] at h
    obtain ⟨x, rfl, hx⟩ := ns_istore hLL X h hd
    exact Or.inr (Or.inl ⟨x, rfl, Or.inl hx⟩)
  case istore_n k =>
    simp only [stepI] at h
    obtain ⟨x, rfl, hx⟩ := ns_istore_n hLL X h hd
    exact Or.inr (Or.inl ⟨x, rfl, Or.inl hx⟩)
  case astore k =>
    simp only [stepI] at h
    obtain ⟨x, rfl, hx⟩ := ns_astore hLL X h hd
    exact Or.inr (Or.inl ⟨x, rfl, Or.inl hx⟩)
  case astore_n k =>
    simp only [stepI] at h
    obtain ⟨x, rfl, hx⟩ := ns_astore_n hLL X h hd
    exact Or.inr (Or.inl ⟨x, rfl, Or.inl hx⟩)
  case lstore k =>
    simp only [stepI] at h
    obtain ⟨x, rfl, hx⟩ := ns_lstore hLL X h hd
    exact Or.inr (Or.inl ⟨x, rfl, Or.inl hx⟩)
  case lstore_n k =>
    simp only [stepI] at h
    obtain ⟨x, rfl, hx⟩ := ns_lstore_n hLL X h hd
    exact Or.inr (Or.inl ⟨x, rfl, Or.inl hx⟩)
  case iinc k n =>
    simp only [stepI] at h
    split at h
    · rename_i x hx
      split at h
      · rename_i hc; cases h; exact Or.inr (Or.inl ⟨_, rfl, Or.inl (ns_iinc hLL X hx hc.2 hc.1 hd)⟩)
      · cases h
    · cases h
  case goto off =>
    simp only [stepI] at h
    split at h
    · rename_i hc
      obtain ⟨t, ht, rfl⟩ := jmp_inv h
      exact Or.inr (Or.inl ⟨_, rfl, Or.inl (ns_goto X ht hc hd)⟩)
    · cases h
  case ifCond op off =>
    simp only [stepI] at h
    split at h
    · rename_i x1 S1
      split at h
      · rename_i hc
        have e1 := h
        split at h
        · rename_i hi; cases h; have hx := ns_ifc (l := l) (e := e) (Rm := Rm) (below := below) (Q := Q) (L := L) (M := M) (S' := S1) (x := x1) X hc.2 hc.1 hd; rw [if_pos hi] at hx; exact Or.inr (Or.inl ⟨_, rfl, Or.inl (hx)⟩)
        · rename_i hi; cases h; have hx := ns_ifc (l := l) (e := e) (Rm := Rm) (below := below) (Q := Q) (L := L) (M := M) (S' := S1) (x := x1) X hc.2 hc.1 hd; rw [if_neg hi] at hx; exact Or.inr (Or.inl ⟨_, rfl, Or.inl (hx)⟩)
      · cases h
    · cases h
  case if_icmp op off =>
    simp only [stepI] at h
    split at h
    · rename_i y1 x1 S1
      split at h
      · rename_i hc
        have e1 := h
        split at h
        · rename_i hi; cases h; have hx := ns_icmp (l := l) (e := e) (Rm := Rm) (below := below) (Q := Q) (L := L) (M := M) (S' := S1) (x := x1) (y := y1) X hc.2 hc.1 hd; rw [if_pos hi] at hx; exact Or.inr (Or.inl ⟨_, rfl, Or.inl (hx)⟩)
        · rename_i hi; cases h; have hx := ns_icmp (l := l) (e := e) (Rm := Rm) (below := below) (Q := Q) (L := L) (M := M) (S' := S1) (x := x1) (y := y1) X hc.2 hc.1 hd; rw [if_neg hi] at hx; exact Or.inr (Or.inl ⟨_, rfl, Or.inl (hx)⟩)
      · cases h
    · cases h
  case ifnull off =>
    simp only [stepI] at h
    split at h
    · split at h
      · rename_i hc; obtain ⟨t, ht, rfl⟩ := jmp_inv h; exact Or.inr (Or.inl ⟨_, rfl, Or.inl (ns_ifnull_N X ht hc hd)⟩)
      · cases h
    · split at h
      · rename_i hc; cases h; exact Or.inr (Or.inl ⟨_, rfl, Or.inl (ns_ifnull_R X hc hd)⟩)
      · cases h
    · cases h
  case ifnonnull off =>
    simp only [stepI] at h
    split at h
    · split at h
      · rename_i hc; cases h; exact Or.inr (Or.inl ⟨_, rfl, Or.inl (ns_ifnonnull_N X hc hd)⟩)
      · cases h
    · split at h
      · rename_i hc; obtain ⟨t, ht, rfl⟩ := jmp_inv h; exact Or.inr (Or.inl ⟨_, rfl, Or.inl (ns_ifnonnull_R X ht hc hd)⟩)
      · cases h
    · cases h
  case tableswitch df lo hi offs =>
    simp only [stepI] at h
    split at h
    · split at h
      · rename_i hc; obtain ⟨t, ht, rfl⟩ := jmp_inv h; exact Or.inr (Or.inl ⟨_, rfl, Or.inl (ns_tabOut X hc ht hd)⟩)
      · rename_i hc
        split at h
        · rename_i off ho; obtain ⟨t, ht, rfl⟩ := jmp_inv h; exact Or.inr (Or.inl ⟨_, rfl, Or.inl (ns_tabIn X hc ho ht hd)⟩)
        · cases h
    · cases h
  case ireturn =>
    simp only [stepI] at h
    split at h
    · split at h
      · rename_i x hc; cases h; exact Or.inl ⟨_, rfl, hc.1, Or.inl ⟨rfl, x, rfl, rfl, hc.2⟩⟩
      · cases h
    · cases h
  case lreturn =>
    simp only [stepI] at h
    split at h
    · split at h
      · rename_i x hc; cases h; exact Or.inl ⟨_, rfl, hc.1, Or.inr (Or.inl ⟨rfl, x, rfl, rfl, hc.2⟩)⟩
      · cases h
    · cases h
  case areturn =>
    simp only [stepI] at h
    split at h
    · split at h
      · rename_i x hc; cases h; exact Or.inl ⟨_, rfl, hc.1, Or.inr (Or.inr (Or.inl ⟨rfl, x, rfl, rfl, hc.2.1, hc.2.2⟩))⟩
      · cases h
    · cases h
  case return_ =>
    simp only [stepI] at h
    split at h
    · split at h
      · rename_i hc; cases h; exact Or.inl ⟨_, rfl, hc.1, Or.inr (Or.inr (Or.inr ⟨rfl, rfl, rfl, hc.2⟩))⟩
      · cases h
    · cases h
  case iaload =>
    simp only [stepI] at h
    split at h
    · split at h
      · rename_i hc; cases h; exact Or.inr (Or.inl ⟨_, rfl, Or.inl (ns_iaload X hc.1 hc.2 hd)⟩)
      · cases h
    · cases h
  case aaload =>
    simp only [stepI] at h
    split at h
    · split at h
      · rename_i hc; cases h; exact Or.inr (Or.inl ⟨_, rfl, Or.inl (ns_aaload X hc.1 hc.2 hd)⟩)
      · cases h
    · cases h
  case iastore =>
    simp only [stepI] at h
    split at h
    · split at h
      · rename_i hc; cases h; exact Or.inr (Or.inl ⟨_, rfl, Or.inl (ns_iastore X hc.1 hc.2 hd)⟩)
      · cases h
    · cases h
  case aastore =>
    simp only [stepI] at h
    split at h
    · split at h
      · rename_i hc; cases h; exact Or.inr (Or.inl ⟨_, rfl, Or.inl (ns_aastore X hc.1 hc.2.1 hc.2.2 hd)⟩)
      · cases h
    · cases h
  case arraylength =>
    simp only [stepI] at h
    split at h
    · split at h
      · rename_i hc; cases h; exact Or.inr (Or.inl ⟨_, rfl, Or.inl (ns_alen X hc.1 hc.2 hd)⟩)
      · cases h
    · cases h
  case getfield idx =>
    simp only [stepI] at h
    split at h
    · rename_i e1 he
      split at h
      · rename_i hc; obtain ⟨e2, e3, e4⟩ := e1; cases h; exact Or.inr (Or.inl ⟨_, rfl, Or.inl (ns_getf X he hc.1 hc.2.1 hc.2.2 hd)⟩)
      · cases h
    · cases h
  case putfield idx =>
    simp only [stepI] at h
    split at h
    · rename_i e1 he
      split at h
      · rename_i hc; obtain ⟨e2, e3, e4⟩ := e1; cases h; exact Or.inr (Or.inl ⟨_, rfl, Or.inl (ns_putf X he hc.1 hc.2.1 hc.2.2.1 hc.2.2.2.1 hc.2.2.2.2 hd)⟩)
      · cases h
    · cases h
  case invokevirtual idx =>
    simp only [stepI] at h
    split at h
    · rename_i e1 he
      split at h
      · rename_i hc
        obtain ⟨as, S', rfl, hS, h8, hl, h3⟩ := callK_inv h
        obtain ⟨e2, e3⟩ := e1
        rcases h3 with h3 | h3 | h3
        · exact Or.inr (Or.inr ⟨_, rfl, hc, rfl, rfl, hS, h8, hl, idx, e3, he, Or.inl ⟨rfl, h3.2⟩⟩)
        · exact absurd h3.1 (by decide)
        · exact absurd h3.1 (by decide)
      · cases h
    · cases h
  case invokestatic idx =>
    simp only [stepI] at h
    split at h
    · rename_i e1 he
      split at h
      · rename_i hc
        obtain ⟨e2, e3⟩ := e1
        split at h
        · rename_i h7
          have h7 : e3 = 7 := h7
          subst h7
          unfold copyS at h
          split at h
          · split at h
            · rename_i hg; cases h; exact Or.inr (Or.inl ⟨_, rfl, Or.inl (ns_copy hR X he hc hg hd)⟩)
            · cases h
          · cases h
        · obtain ⟨as, S', rfl, hS, h8, hl, h3⟩ := callK_inv h
          rcases h3 with h3 | h3 | h3
          · exact absurd h3.1 (by decide)
          · exact Or.inr (Or.inr ⟨_, rfl, hc, rfl, rfl, hS, h8, hl, idx, e3, he, Or.inr (Or.inl ⟨rfl, h3.2⟩)⟩)
          · exact absurd h3.1 (by decide)
      · cases h
    · cases h
  case invokespecial idx =>
    simp only [stepI] at h
    split at h
    · rename_i e1 he
      split at h
      · rename_i hc
        obtain ⟨e2, e3⟩ := e1
        split at h
        · rename_i h6
          have h6 : e3 = 6 := h6
          subst h6
          split at h
          · split at h
            · rename_i h8; cases h; exact Or.inr (Or.inl ⟨_, rfl, Or.inl (ns_obj hR X he h8 hc hd)⟩)
            · cases h
          · cases h
        · obtain ⟨as, S', rfl, hS, h8, hl, h3⟩ := callK_inv h
          rcases h3 with h3 | h3 | h3
          · exact absurd h3.1 (by decide)
          · exact absurd h3.1 (by decide)
          · exact Or.inr (Or.inr ⟨_, rfl, hc, rfl, rfl, hS, h8, hl, idx, e3, he, Or.inr (Or.inr ⟨rfl, h3.2⟩)⟩)
      · cases h
    · cases h
  case new idx =>
    simp only [stepI] at h
    split at h
    · rename_i ci he
      split at h
      · rename_i hc; cases h; exact Or.inr (Or.inl ⟨_, rfl, Or.inr ⟨_, na_new X he hc hd⟩⟩)
      · cases h
    · cases h
  case newarray aty =>
    cases aty
    case int =>
      simp only [stepI] at h
      split at h
      · split at h
        · rename_i hc; cases h; exact Or.inr (Or.inl ⟨_, rfl, Or.inr ⟨_, na_newI X hc.1 hc.2.1 hc.2.2 hd⟩⟩)
        · cases h
      · cases h
    all_goals
      simp only [stepI] at h
      split at h
      · rename_i k S' ha
        split at h
        · rename_i hk; cases h; exact Or.inr (Or.inl ⟨_, rfl, Or.inl (ns_alu X ha hk hd)⟩)
        · cases h
      · cases h
  case anewarray idx =>
    simp only [stepI] at h
    split at h
    · rename_i t he
      split at h
      · rename_i hc; cases h; exact Or.inr (Or.inl ⟨_, rfl, Or.inr ⟨_, na_anew X he hc.1 hc.2.1 hc.2.2 hd⟩⟩)
      · cases h
    · cases h
  case ldc idx =>
    simp only [stepI] at h
    split at h
    · rename_i v he
      split at h
      · rename_i hc; cases h; exact Or.inr (Or.inl ⟨_, rfl, Or.inl (ns_ldc X he hc hd)⟩)
      · cases h
    · cases h
  case ldc_w idx =>
    simp only [stepI] at h
    split at h
    · rename_i v he
      split at h
      · rename_i hc; cases h; exact Or.inr (Or.inl ⟨_, rfl, Or.inl (ns_ldc_w X he hc hd)⟩)
      · cases h
    · cases h
  case ldc2_w idx =>
    simp only [stepI] at h
    split at h
    · rename_i v he
      split at h
      · rename_i hc; cases h; exact Or.inr (Or.inl ⟨_, rfl, Or.inl (ns_ldc2_w X he hc hd)⟩)
      · cases h
    · cases h
  all_goals
    simp only [stepI] at h
    split at h
    · rename_i k S' ha
      split at h
      · rename_i hk; cases h; exact Or.inr (Or.inl ⟨_, rfl, Or.inl (ns_alu X ha hk hd)⟩)
      · cases h
    · cases h
end
