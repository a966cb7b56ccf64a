section
variable {p : Program} {l : Launch} {e : Env} {Rm : Room} {s : State} {mid : MethodId} {args : Array Value} {below : List Frame} {meth : Method} {c : Code} {Q : State → Prop} {D : va_G} {ad : Nat → Nat} {dA : Nat → ClassId} {base b0 Ls : Nat} {xs : Nat → Int32} {m pc len : Nat} {L S : List Value} {M : Mem}
/-- the world at a call -/
def Wd (D : va_G) (ad : Nat → Nat) (dA : Nat → ClassId) (base b0 Ls : Nat) (xs : Nat → Int32) (U : State) (M : Mem) : Prop :=
  Cor D ad dA Ls xs M U.heap ∧ U.heap.size + 1 = base + M.2.1 ∧ va_K D cls (tysL dA) U ∧ va_X b0 Ls xs U U.heap ∧ (∀ w ∈ NB, va_Nw w U) ∧ ∀ t, tagOk t = true → va_AO (RNm (tagC t)) U
def QcP (D : va_G) (ad : Nat → Nat) (dA : Nat → ClassId) (base Ls : Nat) (xs : Nat → Int32) (v : Option Value) (M' : Mem) : Array Value → State → Outcome → State → Prop := fun _ st o t => o = .returned (v.map (rl ad)) ∧ Cor D ad dA Ls xs M' t.heap ∧ va_F (fun q => base ≤ q) st t
def rmP (d : Nat) (M M' : Mem) : Room := { frames := d, cells := M'.2.1 - M.2.1, slots := M'.2.2 - M.2.2, locals := 100 * d }
def MetP (l : Launch) (D : va_G) (ad : Nat → Nat) (dA : Nat → ClassId) (base b0 Ls : Nat) (xs : Nat → Int32) (d m : Nat) (as : List Value) (M : Mem) (v : Option Value) (M' : Mem) : Prop :=
  M.2.1 ≤ M'.2.1 ∧ M.2.2 ≤ M'.2.2 ∧ (m < 142 → m ≠ iJ9_max_7cf53 → m ≠ iJ9_min_7cf53 →
    Met l (mY m) (.code (mY m) (mC m) (mL m) (mR m) :: TB) (rmP d M M') (va_Pc (as.map (rl ad)) (fun U => Wd D ad dA base b0 Ls xs U M)) (QcP D ad dA base Ls xs v M') (M'.2.1 - M.2.1) (M'.2.2 - M.2.2) (fun q => base ≤ q))
theorem nw_moved {w : Jvm.Cond} {u U : State} (hw : w ∈ NB) (hW : u.WarmedH U.vm) (h : va_Nw w u) : va_Nw w U := by
  have hn := (List.mem_filter.mp hw).2
  cases w <;> first
    | (cases hn; done)
    | exact va_Nw.warmF hW h
    | exact va_Nw.warmM hW h
theorem nw_same {w : Jvm.Cond} {u U : State} (hw : w ∈ NB) (hv : u.vm = U.vm) (h : va_Nw w u) : va_Nw w U := by
  have hn := (List.mem_filter.mp hw).2
  cases w <;> first
    | (cases hn; done)
    | exact va_Nw.same rfl hv h
theorem wd_blind (as : List Value) (M : Mem) : FrameBlind (va_Pc as (fun U => Wd D ad dA base b0 Ls xs U M)) := by
  intro a U g mk h
  obtain ⟨h0, h1, h2, h3, h4, h5, h6⟩ := h
  exact ⟨h0, h1, h2, va_K.moved (u := U) (U := U.calling g mk a) (Vm.Alike.refl U.vm) h3, va_X.moved (u := U) (U := U.calling g mk a) (Vm.Alike.refl U.vm) h4, fun w hw => nw_same (u := U) (U := U.calling g mk a) hw rfl (h5 w hw), fun t ht => va_AO.moved (u := U) (U := U.calling g mk a) (Vm.Alike.refl U.vm) (h6 t ht)⟩
theorem wd_go (X : Ctx p s mid args meth c D ad dA base b0 Ls xs m) {H : Heap} {locs : List Loc} {U : State} (hC : Cor D ad dA Ls xs M H) (hS : va_S (fun q => base ≤ q) s.heap H locs) (hsz : H.size + 1 = base + M.2.1) (hU : U.heap = H) (hW : s.WarmedH U.vm) : Wd D ad dA base b0 Ls xs U M := by
  obtain ⟨hx, hb, hml, hown, hts, hK, hX, hbs, hG, hct, hNB, hAO⟩ := X
  refine ⟨by rw [hU]; exact hC, by rw [hU]; exact hsz, va_K.moved hW.alike hK, ?_, fun w hw => nw_moved hw hW (hNB w hw), fun t ht => va_AO.moved hW.alike (hAO t ht)⟩
  rw [hU]
  exact va_X.moved hW.alike (va_X.kept hX (hS.2.1 b0 (Nat.lt_of_lt_of_le hG.2.1 hbs) (by have := hG.2.1; omega)))
theorem my_call {H : Heap} {locs : List Loc} {cells slots mc ms : Nat} {g : JFrame} {rest : List Value} {Qa : State → Outcome → State → Prop} {free : Addr → Prop} (hr : va_Run p l e Rm s mid args below meth c H locs cells slots mc ms g rest Qa free)
    (kk : ∀ (v : Option Value) (st0 t : State) (H1 : Heap) (L1 : List Loc), st0.heap = H → Qa st0 (.returned v) t → H1 = t.heap → (∀ q ∈ L1, free q.base) → W p l e Rm s mid args below meth c H1 (locs ++ L1) (cells + mc) (slots + ms) Q { g with pc := g.pc + 3, stack := v.toList ++ rest }) : W p l e Rm s mid args below meth c H locs cells slots Q g := by
  intro T hT X
  obtain ⟨v, st₀, t, T', L, h0, X', hL, e1, e2, hq, st⟩ := hr T hT X
  obtain ⟨t2, a1, b1⟩ := kk v st₀ t T'.heap L h0 hq e1 hL T' rfl X'
  exact ⟨t2, st t2 a1, b1⟩
theorem good_words {m' : Nat} (hts : ∀ w ∈ TB, w.before args s = true) (h : m' < 142) : ∀ w ∈ (Jvm.Cond.code (mY m') (mC m') (mL m') (mR m') :: TB), ∀ (a' : Array Value) (U : State), s.WarmedH U.vm → w.before a' U = true := by
  refine pay_in hts fun w hw => ?_
  rcases List.mem_cons.mp hw with rfl | hw
  · exact ⟨code_in h, TB_good (code_in h)⟩
  · exact ⟨hw, TB_good hw⟩
/-- a call of a method that has its contract -/
theorem w_call {d : Nat} (hfr : d + 1 ≤ Rm.frames) (hlo : 100 * d + 100 ≤ Rm.locals) (X : Ctx p s mid args meth c D ad dA base b0 Ls xs m) {i : Instr} {y : Nat × List Value × Nat × List Value × List Value} {H : Heap} {locs : List Loc} {ls : Array Slot} {cells slots : Nat} {v : Option Value} {M' : Mem}
    (hd : decode (mC m) pc = .ok (i, len)) (hc : CallF m M i len pc L S y) (hM : MetP l D ad dA base b0 Ls xs d y.1 y.2.1 M v M') (h1 : y.1 ≠ iJ9_max_7cf53) (h2 : y.1 ≠ iJ9_min_7cf53)
    (hC : Cor D ad dA Ls xs M H) (hS : va_S (fun q => base ≤ q) s.heap H locs) (hl : lv_has ls (mL m) (asc ad L)) (hcell : s.heap.size + cells + 1 = base + M.2.1) (hmc : cells + (M'.2.1 - M.2.1) ≤ Rm.cells) (hms : slots + (M'.2.2 - M.2.2) ≤ Rm.slots)
    (kk : ∀ (H1 : Heap) (locs1 : List Loc), Cor D ad dA Ls xs M' H1 → va_S (fun q => base ≤ q) s.heap H1 locs1 → W p l e Rm s mid args below meth c H1 locs1 (cells + (M'.2.1 - M.2.1)) (slots + (M'.2.2 - M.2.2)) Q (F0 mid (pc + 3) ls ((v.toList ++ y.2.2.2.2).map (rl ad)))) :
    W p l e Rm s mid args below meth c H locs cells slots Q (F0 mid pc ls (S.map (rl ad))) := by
  obtain ⟨m', as, pc', L', S'⟩ := y
  obtain ⟨rfl, rfl, rfl, rfl, h8, hn, idx, kd, hf, hk⟩ := hc
  simp only at h8 hn hf hk hM h1 h2 kk
  refine W_sized X.2.2.2.2.2.2.2.2.1 X.2.2.2.2.2.2.2.1 hC hS hcell fun hsz => ?_
  have hsz1 : H.size + 1 = base + M.2.1 := by
    have h0 := hC.1
    have := X.2.2.2.2.2.2.2.2.1.2.2 (M.2.1 - 1)
    rw [show M.2.1 - 1 + 1 = M.2.1 by omega] at this
    omega
  obtain ⟨wN, wT, e1, e2, hm', hk7, hsel, hini⟩ := mthT_ok hf
  obtain ⟨wi, ws, wp, wo, wh, wd⟩ := Mt_at hm'
  have hMt := hM.2.2 hm' h1 h2
  have hgo := fun (U : State) (hU : U.heap = H) (hW : s.WarmedH U.vm) => wd_go X hC hS hsz1 hU hW
  obtain ⟨hx, hb, hml, hown, hts, hK, hX, hbs, hG, hct, hNB, hAO⟩ := X
  have hl40 := (T_at (show m' < 143 by omega)).2
  have hrest : (S'.map (rl ad)).map (fun v => v.category) = S'.map (fun v => v.category) := by
    rw [List.map_map]
    exact List.map_congr_left fun v _ => rl_cat ad v
  have hW8 : ∀ g : JFrame, g.locked = none → 2 * (F0 mid pc ls (((as.reverse ++ S').map (rl ad)))).monitorRoom + ((S'.map (rl ad)).map fun v => v.category).sum ≤ 8 := by
    intro g _
    rw [hrest]
    show 2 * 0 + catS S' ≤ 8
    omega
  have hend : ∀ (v1 : Option Value) (st0 t : State) (H1 : Heap) (L1 : List Loc), st0.heap = H → QcP D ad dA base Ls xs v M' (as.map (rl ad)).toArray st0 (.returned v1) t → H1 = t.heap → (∀ q ∈ L1, base ≤ q.base) → W p l e Rm s mid args below meth c H1 (locs ++ L1) (cells + (M'.2.1 - M.2.1)) (slots + (M'.2.2 - M.2.2)) Q (F0 mid (pc + 3) ls (v1.toList ++ S'.map (rl ad))) := by
    rintro v1 st0 t H1 L1 h0 ⟨q1, q2, q3⟩ rfl hL
    have q1 : v1 = v.map (rl ad) := by injection q1
    subst q1
    have := kk t.heap (locs ++ L1) q2 ⟨Nat.le_trans hS.1 (by rw [← h0]; exact q3.1), fun q z1 z2 => by
      rw [q3.2 q (by rw [h0]; exact Nat.lt_of_lt_of_le z1 hS.1) z2, h0]
      exact hS.2.1 q z1 z2, fun q hq => by
      rcases List.mem_append.mp hq with hq | hq
      · exact hS.2.2 q hq
      · exact hL q hq⟩
    cases v with
    | none => exact this
    | some w => exact this
  have hstk : ∀ as : List Value, ((as.reverse ++ S').map (rl ad)) = (as.map (rl ad)).reverse ++ S'.map (rl ad) := fun as => by rw [List.map_append, List.map_reverse]
  have hcw := good_words hts hm'
  have hcb : Jvm.Cond.code (mY m') (mC m') (mL m') (mR m') ∈ TB := code_in hm'
  have hlo2 : 8 + (mL m' + 11) + 100 * d ≤ Rm.locals := by omega
  have hf2 : cells + (M'.2.1 - M.2.1) ≤ Rm.cells ∧ slots + (M'.2.2 - M.2.2) ≤ Rm.slots := ⟨hmc, hms⟩
  rcases hk with ⟨rfl, hkd, hst, a, as', has, ho⟩ | ⟨rfl, hkd, hst⟩ | ⟨rfl, hkd, hst, a, as', has⟩
  · subst has
    rw [if_neg (by rw [hst]; simp)] at ws wd
    obtain ⟨hse, hci⟩ := hsel (by omega)
    obtain ⟨l1, l2⟩ := live_O hC ho hci
    obtain ⟨fs, ec⟩ := isO_shape ho
    have hw := WS_get (ad := ad) (dA := dA) l1 l2
    rw [ec] at hw
    have hrec := va_recv hK hC.2.1 (cls_at hci) hw
    have hpre : PreV s H (RNm (mO m')) (ad a) (va_Pc ((Value.ref a :: as').map (rl ad)) (fun U => Wd D ad dA base b0 Ls xs U M)) (as'.map (rl ad)) := ⟨wd_blind _ M, hrec, fun U hU hW => ⟨rfl, hgo U hU hW⟩⟩
    have hlen : ∀ sig, parseMethodDescriptor (mY m').desc = some sig → (as'.map (rl ad)).length = sig.parameters.length := fun sig h => by
      rw [h] at wd
      have := Option.some.inj wd
      simp only [List.length_cons] at hn
      rw [List.length_map]
      simp only [Bool.false_eq_true, if_false] at this
      omega
    have hstk' : (((Value.ref a :: as').reverse ++ S').map (rl ad)) = (as'.map (rl ad)).reverse ++ Value.ref (ad a) :: S'.map (rl ad) := by
      rw [hstk]; simp [rl]
    rcases hkd with rfl | rfl
    · have wT := wT rfl
      simp only [wM, e1, e2] at wT
      rw [← wo] at hpre
      refine my_call (va_runV (n := (as'.map (rl ad)).length) (As := as'.map (rl ad)) (rest := S'.map (rl ad)) ⟨hx, hb, hml, hown, hts⟩ hMt ⟨⟨rfl, rfl, hfr, hlo2, hcw, List.mem_cons_self, hts _ hcb, hts _ wi, wh, hlen, hts _ wT⟩, hts _ ws, hts _ hse⟩ hpre rfl rfl hl.1 hstk' (hW8 (F0 mid pc ls []) rfl) hd hf2) ?_
      intro v1 st0 t H1 L1 z1 z2 z3 z4
      exact hend v1 st0 t H1 L1 z1 z2 z3 z4
    · have wN := wN rfl
      simp only [wM, e1, e2] at wN
      rw [← wo] at hpre
      refine my_call (va_runVN (n := (as'.map (rl ad)).length) (As := as'.map (rl ad)) (rest := S'.map (rl ad)) ⟨hx, hb, hml, hown, hts⟩ hMt ⟨⟨⟨rfl, rfl, hfr, hlo2, hcw, List.mem_cons_self⟩, hts _ hcb, hts _ wi, wh, hlen, va_Nw.use rfl (hNB _ wN)⟩, hts _ ws, hts _ hse⟩ hpre rfl rfl hl.1 hstk' (hW8 (F0 mid pc ls []) rfl) hd hf2) ?_
      intro v1 st0 t H1 L1 z1 z2 z3 z4
      exact hend v1 st0 t H1 L1 z1 z2 z3 z4
  · rw [if_pos hst] at ws
    have hpre : PreS s H (va_Pc (as.map (rl ad)) (fun U => Wd D ad dA base b0 Ls xs U M)) (as.map (rl ad)) := ⟨wd_blind _ M, fun U hU hW => ⟨rfl, hgo U hU hW⟩⟩
    have hlen : ∀ sig, parseMethodDescriptor (mY m').desc = some sig → (as.map (rl ad)).length = sig.parameters.length := fun sig h => by
      rw [h, hst] at wd
      have := Option.some.inj wd
      rw [List.length_map]
      simp only [if_true] at this
      omega
    rcases hkd with rfl | rfl
    · have wT := wT rfl
      simp only [wM, e1, e2] at wT
      refine my_call (va_runS (n := (as.map (rl ad)).length) (As := as.map (rl ad)) (rest := S'.map (rl ad)) ⟨hx, hb, hml, hown, hts⟩ hMt ⟨⟨rfl, rfl, hfr, hlo2, hcw, List.mem_cons_self, hts _ hcb, hts _ wi, wh, hlen, hts _ wT⟩, hts _ ws⟩ hpre rfl rfl hl.1 (hstk as) (hW8 (F0 mid pc ls []) rfl) hd hf2) ?_
      intro v1 st0 t H1 L1 z1 z2 z3 z4
      exact hend v1 st0 t H1 L1 z1 z2 z3 z4
    · have wN := wN rfl
      simp only [wM, e1, e2] at wN
      refine my_call (va_runSN (n := (as.map (rl ad)).length) (As := as.map (rl ad)) (rest := S'.map (rl ad)) ⟨hx, hb, hml, hown, hts⟩ hMt ⟨⟨⟨rfl, rfl, hfr, hlo2, hcw, List.mem_cons_self⟩, hts _ hcb, hts _ wi, wh, hlen, va_Nw.use rfl (hNB _ wN)⟩, hts _ ws, trivial⟩ hpre rfl rfl hl.1 (hstk as) (hW8 (F0 mid pc ls []) rfl) hd hf2) ?_
      intro v1 st0 t H1 L1 z1 z2 z3 z4
      exact hend v1 st0 t H1 L1 z1 z2 z3 z4
  · subst has
    rw [if_neg (by rw [hst]; simp)] at ws wd
    obtain ⟨hnm, hmr⟩ := hini hkd
    rw [hmr] at hMt hcw hcb
    have hpre : PreS s H (va_Pc ((Value.ref a :: as').map (rl ad)) (fun U => Wd D ad dA base b0 Ls xs U M)) (Value.ref (ad a) :: as'.map (rl ad)) := ⟨wd_blind _ M, fun U hU hW => ⟨rfl, hgo U hU hW⟩⟩
    have hlen : ∀ sig, parseMethodDescriptor (mY m').desc = some sig → (as'.map (rl ad)).length = sig.parameters.length := fun sig h => by
      rw [h] at wd
      have := Option.some.inj wd
      simp only [List.length_cons] at hn
      rw [List.length_map]
      simp only [Bool.false_eq_true, if_false] at this
      omega
    have hstk' : (((Value.ref a :: as').reverse ++ S').map (rl ad)) = (as'.map (rl ad)).reverse ++ Value.ref (ad a) :: S'.map (rl ad) := by
      rw [hstk]; simp [rl]
    rcases hkd with rfl | rfl
    · have wT := wT rfl
      simp only [wM, e1, e2] at wT
      refine my_call (va_runI (n := (as'.map (rl ad)).length) (As := as'.map (rl ad)) (rest := S'.map (rl ad)) ⟨hx, hb, hml, hown, hts⟩ hMt ⟨⟨rfl, rfl, hfr, hlo2, hcw, List.mem_cons_self, hts _ hcb, hts _ wi, wh, hlen, hts _ wT⟩, hnm, hts _ ws⟩ hpre rfl rfl hl.1 hstk' (hW8 (F0 mid pc ls []) rfl) hd hf2) ?_
      intro v1 st0 t H1 L1 z1 z2 z3 z4
      exact hend v1 st0 t H1 L1 z1 z2 z3 z4
    · have wN := wN rfl
      simp only [wM, e1, e2] at wN
      refine my_call (va_runIN (n := (as'.map (rl ad)).length) (As := as'.map (rl ad)) (rest := S'.map (rl ad)) ⟨hx, hb, hml, hown, hts⟩ hMt ⟨⟨⟨rfl, rfl, hfr, hlo2, hcw, List.mem_cons_self⟩, hts _ hcb, hts _ wi, wh, hlen, va_Nw.use rfl (hNB _ wN)⟩, hnm, hts _ ws⟩ hpre rfl rfl hl.1 hstk' (hW8 (F0 mid pc ls []) rfl) hd hf2) ?_
      intro v1 st0 t H1 L1 z1 z2 z3 z4
      exact hend v1 st0 t H1 L1 z1 z2 z3 z4
end
