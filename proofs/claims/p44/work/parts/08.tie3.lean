theorem rem32 (x y : Int32) : x - x / y * y = x % y := by
  apply Int32.toInt_inj.mp
  rw [Int32.toInt_sub, Int32.toInt_mul, Int32.toInt_div, Int.bmod_mul_bmod, Int.sub_bmod_bmod, Int.mul_comm, ← Int.tmod_def, ← Int32.toInt_mod]
  exact Int.bmod_eq_of_le_mul_two (by have := Int32.le_toInt (x % y); omega) (by have := Int32.toInt_lt (x % y); omega)
theorem rem64 (x y : Int64) : x - x / y * y = x % y := by
  apply Int64.toInt_inj.mp
  rw [Int64.toInt_sub, Int64.toInt_mul, Int64.toInt_div, Int.bmod_mul_bmod, Int.sub_bmod_bmod, Int.mul_comm, ← Int.tmod_def, ← Int64.toInt_mod]
  exact Int.bmod_eq_of_le_mul_two (by have := Int64.le_toInt (x % y); omega) (by have := Int64.toInt_lt (x % y); omega)
section
variable {p : Program} {l : Launch} {e : Env} {Rm : Room} {s : State} {mid : MethodId} {args : Array Value} {below : List Frame} {meth : Method} {c : Code} {Q : State → Prop} {D : va_G} {ad : Nat → Nat} {dA : Nat → ClassId} {base b0 Ls : Nat} {xs : Nat → Int32} {m pc len : Nat} {L S : List Value} {M : Mem}
def Ctx (p : Program) (s : State) (mid : MethodId) (args : Array Value) (meth : Method) (c : Code) (D : va_G) (ad : Nat → Nat) (dA : Nat → ClassId) (base b0 Ls : Nat) (xs : Nat → Int32) (m : Nat) : Prop :=
  p.tables.exec = Jvm.exec ∧ c.code = mC m ∧ c.maxLocals = mL m ∧ s.vm.findClass (RNm (mO m)) = some mid.cls ∧ (∀ w ∈ TB, w.before args s = true) ∧ va_K D cls (tysL dA) s ∧ va_X b0 Ls xs s s.heap ∧ base ≤ s.heap.size ∧ Geo ad base b0 ∧ (mI m = true → meth.name = "<init>") ∧ (∀ w ∈ NB, va_Nw w s) ∧ ∀ t, tagOk t = true → va_AO (RNm (tagC t)) s
theorem w_alu (X : Ctx p s mid args meth c D ad dA base b0 Ls xs m) {i : Instr} {S' : List Value} {H : Heap} {locs : List Loc} {ls : Array Slot} {cells slots : Nat} (h : alu i S = some (len, S')) (hd : decode (mC m) pc = .ok (i, len))
    (kk : W p l e Rm s mid args below meth c H locs cells slots Q (F0 mid (pc + len) ls (S'.map (rl ad)))) : W p l e Rm s mid args below meth c H locs cells slots Q (F0 mid pc ls (S.map (rl ad))) := by
  obtain ⟨hx, hb, -⟩ := X
  cases i
  case aconst_null => simp only [alu] at h; cases h; exact lv_null hx hb hd kk
  case iconst n => simp only [alu] at h; cases h; exact lv_iconst hx hb hd rfl kk
  case lconst n => simp only [alu] at h; cases h; exact lv_lconst hx hb hd rfl kk
  case bipush n => simp only [alu] at h; cases h; exact lv_bipush hx hb hd rfl kk
  case sipush n => simp only [alu] at h; cases h; exact lv_sipush hx hb hd rfl kk
  case iadd => obtain ⟨x, y, S0, v, rfl, hv, hr⟩ := bI2_inv h; cases hr; cases hv; exact lv_iadd hx hb hd kk
  case isub => obtain ⟨x, y, S0, v, rfl, hv, hr⟩ := bI2_inv h; cases hr; cases hv; exact lv_isub hx hb hd kk
  case imul => obtain ⟨x, y, S0, v, rfl, hv, hr⟩ := bI2_inv h; cases hr; cases hv; exact lv_imul hx hb hd kk
  case iand => obtain ⟨x, y, S0, v, rfl, hv, hr⟩ := bI2_inv h; cases hr; cases hv; exact lv_iand hx hb hd kk
  case ior => obtain ⟨x, y, S0, v, rfl, hv, hr⟩ := bI2_inv h; cases hr; cases hv; exact lv_ior hx hb hd kk
  case ixor => obtain ⟨x, y, S0, v, rfl, hv, hr⟩ := bI2_inv h; cases hr; cases hv; exact lv_ixor hx hb hd kk
  case ishl => obtain ⟨x, y, S0, v, rfl, hv, hr⟩ := bI2_inv h; cases hr; cases hv; exact lv_ishl hx hb hd kk
  case ishr => obtain ⟨x, y, S0, v, rfl, hv, hr⟩ := bI2_inv h; cases hr; cases hv; exact lv_ishr hx hb hd kk
  case idiv =>
    obtain ⟨x, y, S0, v, rfl, hv, hr⟩ := bI2_inv h
    by_cases hy : y = 0
    · rw [if_pos hy] at hv; cases hv
    · rw [if_neg hy] at hv; cases hr; cases hv; exact lv_idiv hx hb hd hy kk
  case irem =>
    obtain ⟨x, y, S0, v, rfl, hv, hr⟩ := bI2_inv h
    by_cases hy : y = 0
    · rw [if_pos hy] at hv; cases hv
    · rw [if_neg hy] at hv; cases hr; cases hv; exact lv_irem hx hb hd hy (by rw [rem32]; exact kk)
  case ladd => obtain ⟨x, y, S0, v, rfl, hv, hr⟩ := bL2_inv h; cases hr; cases hv; exact lv_ladd hx hb hd kk
  case lsub => obtain ⟨x, y, S0, v, rfl, hv, hr⟩ := bL2_inv h; cases hr; cases hv; exact lv_lsub hx hb hd kk
  case lmul => obtain ⟨x, y, S0, v, rfl, hv, hr⟩ := bL2_inv h; cases hr; cases hv; exact lv_lmul hx hb hd kk
  case lcmp => obtain ⟨x, y, S0, v, rfl, hv, hr⟩ := bL2_inv h; cases hr; cases hv; exact W.lcmp hx hb hd kk
  case ldiv =>
    obtain ⟨x, y, S0, v, rfl, hv, hr⟩ := bL2_inv h
    by_cases hy : y = 0
    · rw [if_pos hy] at hv; cases hv
    · rw [if_neg hy] at hv; cases hr; cases hv; exact lv_ldiv hx hb hd hy kk
  case lrem =>
    obtain ⟨x, y, S0, v, rfl, hv, hr⟩ := bL2_inv h
    by_cases hy : y = 0
    · rw [if_pos hy] at hv; cases hv
    · rw [if_neg hy] at hv; cases hr; cases hv; exact lv_lrem hx hb hd hy (by rw [rem64]; exact kk)
  case i2l => obtain ⟨x, S0, rfl, hr⟩ := bI1_inv h; cases hr; exact lv_i2l hx hb hd rfl kk
  case l2i => obtain ⟨x, S0, rfl, hr⟩ := bL1_inv h; cases hr; exact lv_l2i hx hb hd rfl kk
  case i2b => obtain ⟨x, S0, rfl, hr⟩ := bI1_inv h; cases hr; exact lv_i2b hx hb hd rfl kk
  case dup =>
    simp only [alu] at h
    split at h
    · split at h
      · rename_i hv; cases h; exact lv_dup hx hb hd ((rl_cat ad _).trans hv) kk
      · cases h
    · cases h
  case dup2 =>
    simp only [alu] at h
    split at h
    · split at h
      · rename_i hv; cases h; exact lv_dup2_11 hx hb hd ((rl_cat ad _).trans hv.1) ((rl_cat ad _).trans hv.2) kk
      · cases h
    · cases h
  case pop =>
    simp only [alu] at h
    split at h
    · split at h
      · rename_i hv; cases h; exact lv_pop hx hb hd ((rl_cat ad _).trans hv) kk
      · cases h
    · cases h
  all_goals first | (simp only [alu] at h; done) | (simp only [alu] at h; cases h; done)
/-- what goes on behind a step -/
def KN (p : Program) (l : Launch) (e : Env) (Rm : Room) (s : State) (mid : MethodId) (args : Array Value) (below : List Frame) (meth : Method) (c : Code) (Q : State → Prop) (D : va_G) (ad : Nat → Nat) (dA : Nat → ClassId) (base Ls : Nat) (xs : Nat → Int32) (m : Nat) (x : Nat × List Value × List Value × Mem) (k n : Nat) : Prop :=
  ∀ (H1 : Heap) (locs1 : List Loc) (ls1 : Array Slot), Cor D ad dA Ls xs x.2.2.2 H1 → va_S (fun q => base ≤ q) s.heap H1 locs1 → lv_has ls1 (mL m) (asc ad x.2.1) → W p l e Rm s mid args below meth c H1 locs1 k n Q (F0 mid x.1 ls1 (x.2.2.1.map (rl ad)))
/-- a step that makes no cell -/
def NS (p : Program) (l : Launch) (e : Env) (Rm : Room) (s : State) (mid : MethodId) (args : Array Value) (below : List Frame) (meth : Method) (c : Code) (Q : State → Prop) (D : va_G) (ad : Nat → Nat) (dA : Nat → ClassId) (base Ls : Nat) (xs : Nat → Int32) (m pc : Nat) (L S : List Value) (M : Mem) (x : Nat × List Value × List Value × Mem) : Prop :=
  x.2.2.2.2 = M.2 ∧ x.2.1.length = L.length ∧ ∀ (H : Heap) (locs : List Loc) (ls : Array Slot) (cells slots : Nat), Cor D ad dA Ls xs M H → va_S (fun q => base ≤ q) s.heap H locs → lv_has ls (mL m) (asc ad L) → KN p l e Rm s mid args below meth c Q D ad dA base Ls xs m x cells slots →
    W p l e Rm s mid args below meth c H locs cells slots Q (F0 mid pc ls (S.map (rl ad)))
theorem ns_alu (X : Ctx p s mid args meth c D ad dA base b0 Ls xs m) {i : Instr} {k : Nat} {S' : List Value} (h : alu i S = some (k, S')) (hk : len = k) (hd : decode (mC m) pc = .ok (i, len)) : NS p l e Rm s mid args below meth c Q D ad dA base Ls xs m pc L S M (pc + k, L, S', M) := by
  subst hk
  exact ⟨rfl, rfl, fun H locs ls cells slots hC hS hl kk => w_alu X h hd (kk H locs ls hC hS hl)⟩
theorem wI_ex {v : Value} (h : wI v = true) : ∃ x, v = .int x := by cases v <;> first | (cases h; done) | exact ⟨_, rfl⟩
theorem wL_ex {v : Value} (h : wL v = true) : ∃ x, v = .long x := by cases v <;> first | (cases h; done) | exact ⟨_, rfl⟩
theorem wA_ex {v : Value} (h : wA v = true) : v = .null ∨ ∃ x, v = .ref x := by cases v <;> first | (cases h; done) | exact Or.inl rfl | exact Or.inr ⟨_, rfl⟩
theorem ns_iload (X : Ctx p s mid args meth c D ad dA base b0 Ls xs m) {k : Nat} {r : SR} (h : ld 2 len k wI pc L S M = some r) (hd : decode (mC m) pc = .ok (.iload k, len)) : ∃ x, r = .inr (.inl x) ∧ NS p l e Rm s mid args below meth c Q D ad dA base Ls xs m pc L S M x := by
  obtain ⟨v, hv, rfl, hw, rfl⟩ := ld_inv h
  obtain ⟨x, rfl⟩ := wI_ex hw
  exact ⟨_, rfl, rfl, rfl, fun H locs ls cells slots hC hS hl kk => lv_iload X.1 X.2.1 hd (lv_of hl hv (fun z hz => by cases hz)) (kk H locs ls hC hS hl)⟩
theorem ns_iload_n (X : Ctx p s mid args meth c D ad dA base b0 Ls xs m) {k : Fin 4} {r : SR} (h : ld 1 len k wI pc L S M = some r) (hd : decode (mC m) pc = .ok (.iload_n k, len)) : ∃ x, r = .inr (.inl x) ∧ NS p l e Rm s mid args below meth c Q D ad dA base Ls xs m pc L S M x := by
  obtain ⟨v, hv, rfl, hw, rfl⟩ := ld_inv h
  obtain ⟨x, rfl⟩ := wI_ex hw
  exact ⟨_, rfl, rfl, rfl, fun H locs ls cells slots hC hS hl kk => lv_iload_n X.1 X.2.1 hd rfl (lv_of hl hv (fun z hz => by cases hz)) (kk H locs ls hC hS hl)⟩
theorem ns_lload (X : Ctx p s mid args meth c D ad dA base b0 Ls xs m) {k : Nat} {r : SR} (h : ld 2 len k wL pc L S M = some r) (hd : decode (mC m) pc = .ok (.lload k, len)) : ∃ x, r = .inr (.inl x) ∧ NS p l e Rm s mid args below meth c Q D ad dA base Ls xs m pc L S M x := by
  obtain ⟨v, hv, rfl, hw, rfl⟩ := ld_inv h
  obtain ⟨x, rfl⟩ := wL_ex hw
  exact ⟨_, rfl, rfl, rfl, fun H locs ls cells slots hC hS hl kk => lv_lload X.1 X.2.1 hd (lv_of hl hv (fun z hz => by cases hz)) (kk H locs ls hC hS hl)⟩
theorem ns_lload_n (X : Ctx p s mid args meth c D ad dA base b0 Ls xs m) {k : Fin 4} {r : SR} (h : ld 1 len k wL pc L S M = some r) (hd : decode (mC m) pc = .ok (.lload_n k, len)) : ∃ x, r = .inr (.inl x) ∧ NS p l e Rm s mid args below meth c Q D ad dA base Ls xs m pc L S M x := by
  obtain ⟨v, hv, rfl, hw, rfl⟩ := ld_inv h
  obtain ⟨x, rfl⟩ := wL_ex hw
  exact ⟨_, rfl, rfl, rfl, fun H locs ls cells slots hC hS hl kk => lv_lload_n X.1 X.2.1 hd rfl (lv_of hl hv (fun z hz => by cases hz)) (kk H locs ls hC hS hl)⟩
theorem ns_aload (X : Ctx p s mid args meth c D ad dA base b0 Ls xs m) {k : Nat} {r : SR} (h : ld 2 len k wA pc L S M = some r) (hd : decode (mC m) pc = .ok (.aload k, len)) : ∃ x, r = .inr (.inl x) ∧ NS p l e Rm s mid args below meth c Q D ad dA base Ls xs m pc L S M x := by
  obtain ⟨v, hv, rfl, hw, rfl⟩ := ld_inv h
  rcases wA_ex hw with rfl | ⟨x, rfl⟩
  · exact ⟨_, rfl, rfl, rfl, fun H locs ls cells slots hC hS hl kk => lv_aloadN X.1 X.2.1 hd (lv_of hl hv (fun z hz => by cases hz)) (kk H locs ls hC hS hl)⟩
  · exact ⟨_, rfl, rfl, rfl, fun H locs ls cells slots hC hS hl kk => lv_aload X.1 X.2.1 hd (lv_of hl hv (fun z hz => by cases hz)) (kk H locs ls hC hS hl)⟩
theorem ns_aload_n (X : Ctx p s mid args meth c D ad dA base b0 Ls xs m) {k : Fin 4} {r : SR} (h : ld 1 len k wA pc L S M = some r) (hd : decode (mC m) pc = .ok (.aload_n k, len)) : ∃ x, r = .inr (.inl x) ∧ NS p l e Rm s mid args below meth c Q D ad dA base Ls xs m pc L S M x := by
  obtain ⟨v, hv, rfl, hw, rfl⟩ := ld_inv h
  rcases wA_ex hw with rfl | ⟨x, rfl⟩
  · exact ⟨_, rfl, rfl, rfl, fun H locs ls cells slots hC hS hl kk => lv_aload_nN X.1 X.2.1 hd rfl (lv_of hl hv (fun z hz => by cases hz)) (kk H locs ls hC hS hl)⟩
  · exact ⟨_, rfl, rfl, rfl, fun H locs ls cells slots hC hS hl kk => lv_aload_n X.1 X.2.1 hd rfl (lv_of hl hv (fun z hz => by cases hz)) (kk H locs ls hC hS hl)⟩
variable (hLL : L.length = mL m)
theorem ns_istore (hLL : L.length = mL m) (X : Ctx p s mid args meth c D ad dA base b0 Ls xs m) {k : Nat} {r : SR} (h : st1 2 len k wI pc L S M = some r) (hd : decode (mC m) pc = .ok (.istore k, len)) : ∃ x, r = .inr (.inl x) ∧ NS p l e Rm s mid args below meth c Q D ad dA base Ls xs m pc L S M x := by
  obtain ⟨v, S', rfl, rfl, hw, hlt, hp, rfl⟩ := st1_inv h
  obtain ⟨x, rfl⟩ := wI_ex hw
  exact ⟨_, rfl, rfl, List.length_set, fun H locs ls cells slots hC hS hl kk => lv_istore X.1 X.2.1 hd hl (hLL ▸ hlt) rfl (fun ls1 hl1 => kk H locs ls1 hC hS (lv_less hl1 (asc_set hp)))⟩
theorem ns_istore_n (hLL : L.length = mL m) (X : Ctx p s mid args meth c D ad dA base b0 Ls xs m) {k : Fin 4} {r : SR} (h : st1 1 len k wI pc L S M = some r) (hd : decode (mC m) pc = .ok (.istore_n k, len)) : ∃ x, r = .inr (.inl x) ∧ NS p l e Rm s mid args below meth c Q D ad dA base Ls xs m pc L S M x := by
  obtain ⟨v, S', rfl, rfl, hw, hlt, hp, rfl⟩ := st1_inv h
  obtain ⟨x, rfl⟩ := wI_ex hw
  exact ⟨_, rfl, rfl, List.length_set, fun H locs ls cells slots hC hS hl kk => lv_istore_n X.1 X.2.1 hd rfl hl (hLL ▸ hlt) rfl (fun ls1 hl1 => kk H locs ls1 hC hS (lv_less hl1 (asc_set hp)))⟩
theorem ns_astore (hLL : L.length = mL m) (X : Ctx p s mid args meth c D ad dA base b0 Ls xs m) {k : Nat} {r : SR} (h : st1 2 len k wA pc L S M = some r) (hd : decode (mC m) pc = .ok (.astore k, len)) : ∃ x, r = .inr (.inl x) ∧ NS p l e Rm s mid args below meth c Q D ad dA base Ls xs m pc L S M x := by
  obtain ⟨v, S', rfl, rfl, hw, hlt, hp, rfl⟩ := st1_inv h
  rcases wA_ex hw with rfl | ⟨x, rfl⟩
  · exact ⟨_, rfl, rfl, List.length_set, fun H locs ls cells slots hC hS hl kk => lv_astoreN X.1 X.2.1 hd hl (hLL ▸ hlt) rfl (fun ls1 hl1 => kk H locs ls1 hC hS (lv_less hl1 (asc_set hp)))⟩
  · exact ⟨_, rfl, rfl, List.length_set, fun H locs ls cells slots hC hS hl kk => lv_astore X.1 X.2.1 hd hl (hLL ▸ hlt) rfl (fun ls1 hl1 => kk H locs ls1 hC hS (lv_less hl1 (asc_set hp)))⟩
theorem ns_astore_n (hLL : L.length = mL m) (X : Ctx p s mid args meth c D ad dA base b0 Ls xs m) {k : Fin 4} {r : SR} (h : st1 1 len k wA pc L S M = some r) (hd : decode (mC m) pc = .ok (.astore_n k, len)) : ∃ x, r = .inr (.inl x) ∧ NS p l e Rm s mid args below meth c Q D ad dA base Ls xs m pc L S M x := by
  obtain ⟨v, S', rfl, rfl, hw, hlt, hp, rfl⟩ := st1_inv h
  rcases wA_ex hw with rfl | ⟨x, rfl⟩
  · exact ⟨_, rfl, rfl, List.length_set, fun H locs ls cells slots hC hS hl kk => lv_astore_nN X.1 X.2.1 hd rfl hl (hLL ▸ hlt) rfl (fun ls1 hl1 => kk H locs ls1 hC hS (lv_less hl1 (asc_set hp)))⟩
  · exact ⟨_, rfl, rfl, List.length_set, fun H locs ls cells slots hC hS hl kk => lv_astore_n X.1 X.2.1 hd rfl hl (hLL ▸ hlt) rfl (fun ls1 hl1 => kk H locs ls1 hC hS (lv_less hl1 (asc_set hp)))⟩
theorem ns_lstore (hLL : L.length = mL m) (X : Ctx p s mid args meth c D ad dA base b0 Ls xs m) {k : Nat} {r : SR} (h : st2 2 len k pc L S M = some r) (hd : decode (mC m) pc = .ok (.lstore k, len)) : ∃ x, r = .inr (.inl x) ∧ NS p l e Rm s mid args below meth c Q D ad dA base Ls xs m pc L S M x := by
  obtain ⟨x, S', rfl, rfl, hlt, hp, rfl⟩ := st2_inv h
  exact ⟨_, rfl, rfl, by simp, fun H locs ls cells slots hC hS hl kk => lv_lstore X.1 X.2.1 hd hl (hLL ▸ hlt) rfl (fun ls1 hl1 => kk H locs ls1 hC hS (lv_less hl1 (asc_set2 hp)))⟩
theorem ns_lstore_n (hLL : L.length = mL m) (X : Ctx p s mid args meth c D ad dA base b0 Ls xs m) {k : Fin 4} {r : SR} (h : st2 1 len k pc L S M = some r) (hd : decode (mC m) pc = .ok (.lstore_n k, len)) : ∃ x, r = .inr (.inl x) ∧ NS p l e Rm s mid args below meth c Q D ad dA base Ls xs m pc L S M x := by
  obtain ⟨x, S', rfl, rfl, hlt, hp, rfl⟩ := st2_inv h
  exact ⟨_, rfl, rfl, by simp, fun H locs ls cells slots hC hS hl kk => lv_lstore_n X.1 X.2.1 hd rfl hl (hLL ▸ hlt) rfl (fun ls1 hl1 => kk H locs ls1 hC hS (lv_less hl1 (asc_set2 hp)))⟩
end
