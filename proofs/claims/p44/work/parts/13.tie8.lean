/-! THE TIE, last: the whole of it -/
theorem stepI_mono {own rk len pc : Nat} {ctor : Bool} {i : Instr} {L S : List Value} {M : Mem} {x : Nat × List Value × List Value × Mem} (h : stepI own rk ctor i len pc L S M = some (.inr (.inl x))) : M.2.1 ≤ x.2.2.2.2.1 ∧ M.2.2 ≤ x.2.2.2.2.2 := by
  cases i
  case newarray aty =>
    cases aty <;> simp only [stepI] at h <;> (repeat' (split at h)) <;> first
      | (cases h; done)
      | (cases h; exact ⟨Nat.le_refl _, Nat.le_refl _⟩)
      | (cases h; exact ⟨Nat.le_succ _, Nat.le_add_right _ _⟩)
  all_goals
    simp only [stepI, ld, st1, st2, jmp, copyS, callK, pcallS] at h
    (repeat' (split at h)) <;> first
      | (cases h; done)
      | (cases h; exact ⟨Nat.le_refl _, Nat.le_refl _⟩)
      | (cases h; exact ⟨Nat.le_succ _, Nat.le_add_right _ _⟩)
theorem stepI_inl {own rk len pc : Nat} {ctor : Bool} {i : Instr} {L S : List Value} {M : Mem} {x : Option Value × Mem} (h : stepI own rk ctor i len pc L S M = some (.inl x)) : x.2 = M := by
  cases i
  case newarray aty =>
    cases aty <;> simp only [stepI] at h <;> (repeat' (split at h)) <;> (cases h; done)
  all_goals
    simp only [stepI, ld, st1, st2, jmp, copyS, callK, pcallS] at h
    (repeat' (split at h)) <;> first
      | (cases h; done)
      | (cases h; rfl)
theorem loop_mono {call : Nat → List Value → Mem → RV} (hc : ∀ m as M r, call m as M = some r → M.2.1 ≤ r.2.2.1 ∧ M.2.2 ≤ r.2.2.2) (m : Nat) : ∀ (f pc : Nat) (L S : List Value) (M : Mem) (r : Option Value × Mem), loopF call m f pc L S M = some r → M.2.1 ≤ r.2.2.1 ∧ M.2.2 ≤ r.2.2.2 := by
  intro f
  induction f with
  | zero => intro pc L S M r h; simp [loopF] at h
  | succ f ih =>
    intro pc L S M r h
    rw [loopF] at h
    rcases hs : stp m pc L S M with _ | (x | (x | x))
    · rw [hs] at h; cases h
    · rw [hs] at h
      cases h
      unfold stp at hs
      split at hs
      · rw [stepI_inl hs]; exact ⟨Nat.le_refl _, Nat.le_refl _⟩
      · cases hs
    · rw [hs] at h
      have h2 := ih _ _ _ _ _ h
      unfold stp at hs
      split at hs
      · have h1 := stepI_mono hs
        exact ⟨Nat.le_trans h1.1 h2.1, Nat.le_trans h1.2 h2.2⟩
      · cases hs
    · rw [hs] at h
      simp only at h
      rcases hk : call x.1 x.2.1 M with _ | q
      · rw [hk] at h; cases h
      · rw [hk] at h
        have h1 := hc _ _ _ _ hk
        have h2 := ih _ _ _ _ _ h
        exact ⟨Nat.le_trans h1.1 h2.1, Nat.le_trans h1.2 h2.2⟩
theorem call_mono : ∀ (d f m : Nat) (as : List Value) (M : Mem) (r : Option Value × Mem), callF d f m as M = some r → M.2.1 ≤ r.2.2.1 ∧ M.2.2 ≤ r.2.2.2 := by
  intro d
  induction d with
  | zero => intro f m as M r h; simp [callF] at h
  | succ d ih =>
    intro f m as M r h
    rw [callF] at h
    split at h
    · cases h
    · exact loop_mono (fun m as M r h => ih f m as M r h) m f _ _ _ _ _ h
theorem entry2 {m : Nat} {as L : List Value} (h2 : mN m = 2) (hl : mL m = 2) (h : entryL m as = some L) : ∃ a b, as = [a, b] ∧ a.category = 1 ∧ b.category = 1 ∧ L = [a, b] := by
  unfold entryL at h
  rw [h2, hl] at h
  split at h
  · rename_i hc
    obtain ⟨h3, h4⟩ := hc
    match as, h3 with
    | [a, b], _ =>
      rcases lv_cat a with ha | ha
      · rcases lv_cat b with hb | hb
        · refine ⟨a, b, rfl, ha, hb, ?_⟩
          simp [slotL, ha, hb] at h
          exact h.symm
        · simp [slotL, ha, hb] at h4
      · rcases lv_cat b with hb | hb
        · simp [slotL, ha, hb] at h4
        · simp [slotL, ha, hb] at h4
  · cases h
theorem notI {v : Value} (h : ∀ x, v ≠ .int x) : wI v = false := by
  cases v with
  | int x => exact absurd rfl (h x)
  | _ => rfl
theorem max_inv {d f : Nat} {as : List Value} {M M1 : Mem} {v : Option Value} (h : callF d f iJ9_max_7cf53 as M = some (v, M1)) : ∃ x y : Int32, as = [.int x, .int y] ∧ v = some (.int (if x < y then y else x)) ∧ M1 = M := by
  have hC := C_iff.mpr ⟨f, h⟩
  cases d with
  | zero => simp [callF] at h
  | succ d =>
    rw [callF] at h
    rcases he : entryL iJ9_max_7cf53 as with _ | L
    · rw [he] at h; cases h
    · obtain ⟨a, b, rfl, ha, hb, rfl⟩ := entry2 (by decide +kernel) (by decide +kernel) he
      rw [C_eq he] at hC
      by_cases h1 : ∃ x, a = .int x
      · obtain ⟨x, rfl⟩ := h1
        by_cases h2 : ∃ y, b = .int y
        · obtain ⟨y, rfl⟩ := h2
          rw [e_J9_max_7cf53_0, e_J9_max_7cf53_1, e_J9_max_7cf53_2] at hC
          by_cases hxy : x < y
          · rw [if_pos hxy, e_J9_max_7cf53_9, e_J9_max_7cf53_10] at hC
            cases hC
            exact ⟨x, y, rfl, by rw [if_pos hxy], rfl⟩
          · rw [if_neg hxy, e_J9_max_7cf53_5, e_J9_max_7cf53_6, e_J9_max_7cf53_10] at hC
            cases hC
            exact ⟨x, y, rfl, by rw [if_neg hxy], rfl⟩
        · exfalso
          rw [e_J9_max_7cf53_0] at hC
          rw [R_none (insOf (x := (.iload_n 1, 1)) b_J9_max_7cf53 (by decide +kernel)) (by
            have := notI (fun x hx => h2 ⟨x, hx⟩)
            simp [stepI, ld, this])] at hC
          cases hC
      · exfalso
        rw [R_none (insOf (x := (.iload_n 0, 1)) b_J9_max_7cf53 (by decide +kernel)) (by
          have := notI (fun x hx => h1 ⟨x, hx⟩)
          simp [stepI, ld, this])] at hC
        cases hC
theorem min_inv {d f : Nat} {as : List Value} {M M1 : Mem} {v : Option Value} (h : callF d f iJ9_min_7cf53 as M = some (v, M1)) : ∃ x y : Int32, as = [.int x, .int y] ∧ v = some (.int (if y < x then y else x)) ∧ M1 = M := by
  have hC := C_iff.mpr ⟨f, h⟩
  cases d with
  | zero => simp [callF] at h
  | succ d =>
    rw [callF] at h
    rcases he : entryL iJ9_min_7cf53 as with _ | L
    · rw [he] at h; cases h
    · obtain ⟨a, b, rfl, ha, hb, rfl⟩ := entry2 (by decide +kernel) (by decide +kernel) he
      rw [C_eq he] at hC
      by_cases h1 : ∃ x, a = .int x
      · obtain ⟨x, rfl⟩ := h1
        by_cases h2 : ∃ y, b = .int y
        · obtain ⟨y, rfl⟩ := h2
          rw [e_J9_min_7cf53_0, e_J9_min_7cf53_1, e_J9_min_7cf53_2] at hC
          by_cases hxy : y < x
          · rw [if_pos hxy, e_J9_min_7cf53_9, e_J9_min_7cf53_10] at hC
            cases hC
            exact ⟨x, y, rfl, by rw [if_pos hxy], rfl⟩
          · rw [if_neg hxy, e_J9_min_7cf53_5, e_J9_min_7cf53_6, e_J9_min_7cf53_10] at hC
            cases hC
            exact ⟨x, y, rfl, by rw [if_neg hxy], rfl⟩
        · exfalso
          rw [e_J9_min_7cf53_0] at hC
          rw [R_none (insOf (x := (.iload_n 1, 1)) b_J9_min_7cf53 (by decide +kernel)) (by
            have := notI (fun x hx => h2 ⟨x, hx⟩)
            simp [stepI, ld, this])] at hC
          cases hC
      · exfalso
        rw [R_none (insOf (x := (.iload_n 0, 1)) b_J9_min_7cf53 (by decide +kernel)) (by
          have := notI (fun x hx => h1 ⟨x, hx⟩)
          simp [stepI, ld, this])] at hC
        cases hC
theorem mathL_ok : (mthL.all fun e => !(e.2.1 == iJ9_max_7cf53 || e.2.1 == iJ9_min_7cf53) || e.2.2.1 == 2) = true := by decide +kernel
theorem math_kd {o i m kd : Nat} (h : mthT o i = some (m, kd)) (hm : m = iJ9_max_7cf53 ∨ m = iJ9_min_7cf53) : kd = 2 := by
  unfold mthT at h
  split at h
  · cases h
  · obtain ⟨e, he, hh⟩ := Option.map_eq_some_iff.mp h
    have hc := List.all_eq_true.mp mathL_ok _ (lookup_mem _ _ _ he)
    obtain ⟨e1, e2, e3⟩ := e
    simp only [Prod.mk.injEq] at hh
    obtain ⟨rfl, rfl⟩ := hh
    simp only [Bool.or_eq_true, Bool.not_eq_true', Bool.or_eq_false_iff, beq_eq_false_iff_ne, beq_iff_eq] at hc
    rcases hc with hc | hc
    · rcases hm with hm | hm
      · exact absurd hm hc.1
      · exact absurd hm hc.2
    · exact hc
theorem math_words : (decide (Jvm.Cond.static Lib.Math.max.name ∈ TB) && (decide (Jvm.Cond.static Lib.Math.min.name ∈ TB) && (decide (Jvm.Cond.initialized "java/lang/Math" ∈ TB) && (decide (mY iJ9_max_7cf53 = Lib.Math.max.name) && (decide (mY iJ9_min_7cf53 = Lib.Math.min.name) && (decide (mC iJ9_max_7cf53 = Lib.Math.max.code) && (decide (mC iJ9_min_7cf53 = Lib.Math.min.code) && (decide (mL iJ9_max_7cf53 = 2 ∧ mL iJ9_min_7cf53 = 2) && decide (mR iJ9_max_7cf53 = some .int ∧ mR iJ9_min_7cf53 = some .int))))))))) = true := by decide +kernel
section
variable {p : Program} {l : Launch} {e : Env} {Rm : Room} {s : State} {mid : MethodId} {args : Array Value} {below : List Frame} {meth : Method} {c : Code} {Q : State → Prop} {D : va_G} {ad : Nat → Nat} {dA : Nat → ClassId} {base b0 Ls : Nat} {xs : Nat → Int32} {m pc len : Nat} {L S : List Value} {M : Mem}
theorem w_math (hR : 1 ≤ Rm.frames ∧ 100 ≤ Rm.locals) (X : Ctx p s mid args meth c D ad dA base b0 Ls xs m) {i : Instr} {y : Nat × List Value × Nat × List Value × List Value} {H : Heap} {locs : List Loc} {ls : Array Slot} {cells slots d f : Nat} {v : Option Value} {M' : Mem}
    (hd : decode (mC m) pc = .ok (i, len)) (hc : CallF m M i len pc L S y) (hv : callF d f y.1 y.2.1 M = some (v, M')) (hm : y.1 = iJ9_max_7cf53 ∨ y.1 = iJ9_min_7cf53) (hl : lv_has ls (mL m) (asc ad L)) (hmc : cells ≤ Rm.cells) (hms : slots ≤ Rm.slots)
    (kk : W p l e Rm s mid args below meth c H locs cells slots Q (F0 mid (pc + 3) ls ((v.toList ++ y.2.2.2.2).map (rl ad)))) :
    W p l e Rm s mid args below meth c H locs cells slots Q (F0 mid pc ls (S.map (rl ad))) ∧ M' = M := by
  obtain ⟨m', as, pc', L', S'⟩ := y
  obtain ⟨rfl, rfl, rfl, rfl, h8, hn, idx, kd, hf, hk⟩ := hc
  simp only at h8 hn hf hk hv hm kk
  have hkd := math_kd hf hm
  subst hkd
  obtain ⟨wN, wT, e1, e2, hm', hk7, hsel, hini⟩ := mthT_ok hf
  have wT := wT rfl
  simp only [wM, e1, e2] at wT
  have hwd := math_words
  simp only [Bool.and_eq_true, decide_eq_true_eq] at hwd
  obtain ⟨q1, q2, q3, q4, q5, q6, q7, q8, q9⟩ := hwd
  have hcode := code_in hm'
  obtain ⟨hx, hb, hml, hown, hts, hK, hX, hbs, hG, hct, hNB, hAO⟩ := X
  have hi : i = .invokestatic idx := by
    rcases hk with ⟨-, hk, -⟩ | ⟨hi, -⟩ | ⟨-, hk, -⟩
    · omega
    · exact hi
    · omega
  subst hi
  have h13 : ((S'.map (rl ad)).map fun v => v.category).sum + 13 ≤ Rm.locals := by rw [rl_cats]; omega
  rcases hm with rfl | rfl
  · obtain ⟨x, y, rfl, rfl, rfl⟩ := max_inv hv
    rw [q4] at wT hcode
    rw [q6, q8.1, q9.1] at hcode
    exact ⟨va_mmax hx hb (hml.trans hl.1.symm) hown (hts _ wT) (hts _ q1) (hts _ q3) (hts _ hcode) hR.1 h13 hmc hms hd kk, rfl⟩
  · obtain ⟨x, y, rfl, rfl, rfl⟩ := min_inv hv
    rw [q5] at wT hcode
    rw [q7, q8.2, q9.2] at hcode
    exact ⟨va_mmin hx hb (hml.trans hl.1.symm) hown (hts _ wT) (hts _ q2) (hts _ q3) (hts _ hcode) hR.1 h13 hmc hms hd kk, rfl⟩
def Hend (p : Program) (l : Launch) (e : Env) (Rm : Room) (s : State) (mid : MethodId) (args : Array Value) (below : List Frame) (meth : Method) (c : Code) (Q : State → Prop) (D : va_G) (ad : Nat → Nat) (dA : Nat → ClassId) (base Ls : Nat) (xs : Nat → Int32) (m mc ms : Nat) (v : Option Value) (M' : Mem) : Prop :=
  ∀ (H : Heap) (locs : List Loc) (ls : Array Slot) (pc : Nat) (i : Instr) (S : List Value), decode (mC m) pc = .ok (i, 1) → RetF i 1 S v (mK m) → Cor D ad dA Ls xs M' H → va_S (fun q => base ≤ q) s.heap H locs → W p l e Rm s mid args below meth c H locs mc ms Q (F0 mid pc ls (S.map (rl ad)))
theorem adq_loop {d f0 : Nat} (hfr : d + 1 ≤ Rm.frames) (hlo : 100 * d + 100 ≤ Rm.locals) (X : Ctx p s mid args meth c D ad dA base b0 Ls xs m) (IH : ∀ (m' : Nat) (as : List Value) (M : Mem) (v : Option Value) (M' : Mem), callF d f0 m' as M = some (v, M') → MetP l D ad dA base b0 Ls xs d m' as M v M') (v : Option Value) (M' : Mem) :
    ∀ (f pc : Nat) (L S : List Value) (M : Mem), loopF (callF d f0) m f pc L S M = some (v, M') → L.length = mL m → ∀ (H : Heap) (locs : List Loc) (ls : Array Slot) (cells slots : Nat), Cor D ad dA Ls xs M H → va_S (fun q => base ≤ q) s.heap H locs → lv_has ls (mL m) (asc ad L) → s.heap.size + cells + 1 = base + M.2.1 → cells + (M'.2.1 - M.2.1) ≤ Rm.cells → slots + (M'.2.2 - M.2.2) ≤ Rm.slots →
      Hend p l e Rm s mid args below meth c Q D ad dA base Ls xs m (cells + (M'.2.1 - M.2.1)) (slots + (M'.2.2 - M.2.2)) v M' → W p l e Rm s mid args below meth c H locs cells slots Q (F0 mid pc ls (S.map (rl ad))) := by
  intro f
  induction f with
  | zero => intro pc L S M h; simp [loopF] at h
  | succ f ih =>
    intro pc L S M h hLL H locs ls cells slots hC hS hl hcell hmc hms hE
    have hmono := loop_mono (fun m as M r h => call_mono d f0 m as M r h) m _ _ _ _ _ _ h
    rw [loopF] at h
    rcases hi : ins m pc with _ | ⟨i, len⟩
    · rw [stp, hi] at h; cases h
    · have hd : decode (mC m) pc = .ok (i, len) := by
        unfold ins at hi
        split at hi
        · rename_i q hq; cases hi; exact hq
        · cases hi
      have hst : stp m pc L S M = stepI (mO m) (mK m) (mI m) i len pc L S M := by rw [stp, hi]
      rcases hs : stepI (mO m) (mK m) (mI m) i len pc L S M with _ | r
      · rw [hst, hs] at h; cases h
      · rw [hst, hs] at h
        rcases adq_step (l := l) (e := e) (Rm := Rm) (below := below) (Q := Q) hLL ⟨by omega, by omega⟩ X hs hd with ⟨v1, rfl, hr⟩ | ⟨x, rfl, hx⟩ | ⟨y, rfl, hy⟩
        · cases h
          have hlen := hr.1
          subst hlen
          have := hE H locs ls pc i S hd hr hC hS
          rw [Nat.sub_self, Nat.sub_self, Nat.add_zero, Nat.add_zero] at this
          exact this
        · simp only at h
          rcases hx with hx | ⟨n, hx⟩
          · obtain ⟨x1, x2, x3⟩ := hx
            refine x3 H locs ls cells slots hC hS hl fun H1 locs1 ls1 z1 z2 z3 => ?_
            have k := ih x.1 x.2.1 x.2.2.1 x.2.2.2 h (x2.trans hLL) H1 locs1 ls1 cells slots z1 z2 z3
            rw [x1] at k
            exact k hcell hmc hms hE
          · obtain ⟨x1, x1', x2, x3⟩ := hx
            have hm2 := loop_mono (fun m as M r h => call_mono d f0 m as M r h) m _ _ _ _ _ _ h
            simp only at hm2
            rw [x1, x1'] at hm2
            refine x3 H locs ls cells slots hC hS hl hcell (by omega) (by omega) fun H1 locs1 ls1 z1 z2 z3 => ?_
            have k := ih x.1 x.2.1 x.2.2.1 x.2.2.2 h (x2.trans hLL) H1 locs1 ls1 (cells + 1) (slots + n) z1 z2 z3
            rw [x1, x1'] at k
            rw [show cells + 1 + (M'.2.1 - (M.2.1 + 1)) = cells + (M'.2.1 - M.2.1) by omega, show slots + n + (M'.2.2 - (M.2.2 + n)) = slots + (M'.2.2 - M.2.2) by omega] at k
            exact k (by omega) hmc hms hE
        · simp only at h
          rcases hk : callF d f0 y.1 y.2.1 M with _ | ⟨v1, M1⟩
          · rw [hk] at h; cases h
          · rw [hk] at h
            simp only at h
            have hyL : y.2.2.2.1 = L := hy.2.2.1
            have hypc : y.2.2.1 = pc + 3 := hy.2.1
            rw [hyL, hypc] at h
            have hm2 := loop_mono (fun m as M r h => call_mono d f0 m as M r h) m _ _ _ _ _ _ h
            have hm1 := call_mono d f0 _ _ _ _ hk
            simp only at hm1 hm2
            have hM := IH _ _ _ _ _ hk
            by_cases hmath : y.1 = iJ9_max_7cf53 ∨ y.1 = iJ9_min_7cf53
            · have hMM : M1 = M := by
                rcases hmath with hq | hq
                · rw [hq] at hk; obtain ⟨_, _, _, _, z⟩ := max_inv hk; exact z
                · rw [hq] at hk; obtain ⟨_, _, _, _, z⟩ := min_inv hk; exact z
              subst hMM
              exact (w_math ⟨by omega, by omega⟩ X hd hy hk hmath hl (by omega) (by omega) (ih (pc + 3) L _ _ h hLL H locs ls cells slots hC hS hl hcell hmc hms hE)).1
            · refine w_call hfr hlo X hd hy hM (fun q => hmath (Or.inl q)) (fun q => hmath (Or.inr q)) hC hS hl hcell (by omega) (by omega) fun H1 locs1 z1 z2 => ?_
              have k := ih (pc + 3) L (v1.toList ++ y.2.2.2.2) M1 h hLL H1 locs1 ls (cells + (M1.2.1 - M.2.1)) (slots + (M1.2.2 - M.2.2)) z1 z2 hl (by omega)
              rw [show cells + (M1.2.1 - M.2.1) + (M'.2.1 - M1.2.1) = cells + (M'.2.1 - M.2.1) by omega, show slots + (M1.2.2 - M.2.2) + (M'.2.2 - M1.2.2) = slots + (M'.2.2 - M.2.2) by omega] at k
              exact k hmc hms hE
theorem args_asc (n : Nat) : ∀ (as : List Value) (k i : Nat) (v : Value), (slotL as ++ List.replicate n (.float 0))[i]? = some v → (∀ z, v ≠ .float z) → (k + i, rl ad v) ∈ lv_args k (as.map (rl ad)) := by
  intro as
  induction as with
  | nil =>
    intro k i v h hf
    simp only [slotL, List.flatMap_nil, List.nil_append] at h
    rw [List.getElem?_replicate] at h
    split at h
    · cases h; exact absurd rfl (hf 0)
    · cases h
  | cons a as ih =>
    intro k i v h hf
    rw [List.map_cons, lv_args, rl_cat]
    rcases lv_cat a with ha | ha
    · have e1 : slotL (a :: as) = a :: slotL as := by simp [slotL, ha]
      rw [e1, List.cons_append] at h
      cases i with
      | zero => simp at h; subst h; exact List.mem_cons_self
      | succ i =>
        rw [List.getElem?_cons_succ] at h
        rw [if_neg (by omega)]
        have := ih (k + 1) i v h hf
        rw [show k + 1 + i = k + (i + 1) by omega] at this
        exact List.mem_cons_of_mem _ this
    · have e1 : slotL (a :: as) = a :: .float 0 :: slotL as := by simp [slotL, ha]
      rw [e1, List.cons_append, List.cons_append] at h
      match i with
      | 0 => simp at h; subst h; exact List.mem_cons_self
      | 1 => simp at h; subst h; exact absurd rfl (hf 0)
      | i + 2 =>
        rw [List.getElem?_cons_succ, List.getElem?_cons_succ] at h
        rw [if_pos ha]
        have := ih (k + 2) i v h hf
        rw [show k + 2 + i = k + (i + 2) by omega] at this
        exact List.mem_cons_of_mem _ this
theorem slot_len (as : List Value) : (lg_sl (as.map (rl ad))).length = (slotL as).length := by
  induction as with
  | nil => rfl
  | cons a as ih =>
    unfold lg_sl slotL at ih ⊢
    rw [List.map_cons, List.flatMap_cons, List.flatMap_cons, List.length_append, List.length_append, ih, rl_cat]
    congr 1
    split <;> rfl
theorem entry_has {as L : List Value} (h : entryL m as = some L) : L.length = mL m ∧ lv_has ((lg_sl (as.map (rl ad)) ++ List.replicate (mL m - (lg_sl (as.map (rl ad))).length) Slot.unset).toArray) (mL m) (asc ad L) := by
  unfold entryL at h
  split at h
  · rename_i hc
    cases h
    refine ⟨by simp; omega, lv_less (lv_entry (as.map (rl ad)) (n := mL m) (by rw [slot_len]; exact hc.2)) ?_⟩
    rintro ⟨i, w⟩ hq
    obtain ⟨v, hv, hf, rfl⟩ := mem_asc.mp hq
    have := args_asc (ad := ad) _ as 0 i v hv hf
    rw [Nat.zero_add] at this
    exact this
  · cases h
theorem ret_ok : retV 2 (.int 0) = true := rfl
theorem adq_call (hG : Geo ad base b0) : ∀ (d f m : Nat) (as : List Value) (M : Mem) (v : Option Value) (M' : Mem), callF d f m as M = some (v, M') → MetP l D ad dA base b0 Ls xs d m as M v M' := by
  intro d
  induction d with
  | zero => intro f m as M v M' h; simp [callF] at h
  | succ d ihd =>
    intro f m as M v M' h
    have hmono := call_mono _ _ _ _ _ _ h
    refine ⟨hmono.1, hmono.2, fun hm h1 h2 => ?_⟩
    rw [callF] at h
    rcases he : entryL m as with _ | L
    · rw [he] at h; cases h
    · rw [he] at h
      simp only at h
      obtain ⟨wi, ws, wp, wo, wh, wd⟩ := Mt_at hm
      have hret := (T_at (show m < 143 by omega)).1
      refine Met.ofW (cc := mC m) (maxL := mL m) (ret := mR m) (wp h1 h2) rfl ?_
      intro p e s mid args below meth c s₁ B hml hv
      obtain ⟨rfl, hW⟩ := hv
      obtain ⟨w0, w1, w2, w3, w4, w5⟩ := hW
      have hx := B.exec
      have hb := B.bytes
      have hr := B.returns
      have hts0 := atoms_spec (ws := .code (mY m) (mC m) (mL m) (mR m) :: TB) B.pre
      have hts : ∀ w ∈ TB, w.before (as.map (rl ad)).toArray s = true := fun w hw => hts0 w (List.mem_cons_of_mem _ hw)
      have hown : s.vm.findClass (RNm (mO m)) = some mid.cls := by rw [← wo]; exact findClass_of_methodNamed B.named
      have hlocks := B.notSynchronized
      have hnm : meth.name = (mY m).name := (name_of_methodNamed B.named B.method).1
      have h0 := w0.1
      have X : Ctx p s mid (as.map (rl ad)).toArray meth c D ad dA base b0 Ls xs m := ⟨hx, hb, hml, hown, hts, w2, w3, by omega, hG, fun hi => by rw [hnm]; simpa [mI] using hi, w4, w5⟩
      obtain ⟨hLL, hlv⟩ := entry_has (ad := ad) he
      rw [lg_entry_eq]
      have key := adq_loop (l := l) (e := e) (Rm := (headSpec (.code (mY m) (mC m) (mL m) (mR m) :: TB) (rmP (d + 1) M M')).room) (below := below) (Q := MQ below (QcP D ad dA base Ls xs v M') (as.map (rl ad)).toArray s (M'.2.1 - M.2.1) (M'.2.2 - M.2.2) (fun q => base ≤ q)) (d := d) (f0 := f) (Nat.le_refl _) (show 100 * d + 100 ≤ 100 * (d + 1) by omega) X (fun m' as M v M' h => ihd f m' as M v M' h) v M' f 0 L [] M h hLL s.heap [] _ 0 0 w0 va_S.rf hlv (by omega) (show 0 + (M'.2.1 - M.2.1) ≤ M'.2.1 - M.2.1 by omega) (show 0 + (M'.2.2 - M.2.2) ≤ M'.2.2 - M.2.2 by omega)
      refine key ?_
      rw [Nat.zero_add, Nat.zero_add]
      intro H locs ls pc i S hd hRet hCor hS
      have hq : ∀ (v0 : Option Value), v0 = v.map (rl ad) → ∀ t : State, t.heap = H → s.WarmedH t.vm → QcP D ad dA base Ls xs v M' (as.map (rl ad)).toArray s (.returned v0) t := fun v0 h0 t ht _ => ⟨by rw [h0], by rw [ht]; exact hCor, hS.F ht⟩
      have hf : ∀ q ∈ locs, base ≤ q.base := hS.2.2
      unfold retOk at hret
      rcases hRet with ⟨-, ⟨rfl, x, rfl, rfl, hrv⟩ | ⟨rfl, x, rfl, rfl, hk⟩ | ⟨rfl, w, rfl, rfl, hk, hw⟩ | ⟨rfl, rfl, rfl, hk⟩⟩
      · simp only [retV, Bool.or_eq_true, Bool.and_eq_true, beq_iff_eq] at hrv
        rcases hrv with hk | ⟨hk, h01⟩
        · rw [hk] at hret
          exact W.iret hx hb (hr.trans (of_decide_eq_true hret)) (hq _ rfl) hf hd
        · rw [hk] at hret
          exact W.zret hx hb (hr.trans (of_decide_eq_true hret)) (by rcases h01 with rfl | rfl <;> rfl) (hq _ rfl) hf hd
      · rw [hk] at hret
        exact W.lret hx hb (hr.trans (of_decide_eq_true hret)) (hq _ rfl) hf hd
      · rw [hk] at hret
        simp only at hret
        split at hret
        · rename_i o ho
          refine W.aret hx hb (hr.trans ho) (Or.inl ⟨_, rfl⟩) ?_ (hq _ rfl) hf hd
          rcases wA_ex hw with rfl | ⟨z, rfl⟩
          · exact Or.inl rfl
          · exact Or.inr ⟨_, rfl⟩
        · cases hret
      · rw [hk] at hret
        exact W.vret hx hb (hr.trans (of_decide_eq_true hret)) (hq _ rfl) hf hd
end
