/-! THE CLAIM OUT OF ONE WALK OF THE LAW'S BODY. Your part is whole_start (and what it stands on); all else here is the same for every law, but numbers. -/
def R_law : String := "RindDatesLaw"
def lw_P (b : Addr) (xs : List Int32) (args : Array Value) (s : State) : Prop := args = #[.ref b] ∧ s.IntsAt b xs ∧ xs.length ≤ 260 ∧ (Jvm.Cond.and given_1 narrow_1).before args s = true
def lw_Q (_ : Array Value) (s : State) (o : Outcome) (t : State) : Prop := o = .returned (some (.int 1)) ∧ Framed s o t [] 600000 7302250
def lw_Z (below : List Frame) (a : Array Value) (s : State) : State → Prop := fun t => ∃ o, t.status = .running ∧ Ended t below o ∧ lw_Q a s o t
/-- the law's own end, with 1 on the stack, nothing written that was there before, its room as the claim has it -/
theorem lw_ret {p : Program} {l : Launch} {e : Env} {s : State} {m : MethodId} {below : List Frame} {meth : Method} {c : Code} {b : Nat} (hx : p.tables.exec = Jvm.exec) (hb : c.code = code) (hr : meth.sig.returnType = ret) (hlocks : meth.locks = false) {pc : Nat} {H : Heap} {ls : Array Slot} (hdg : decode code pc = .ok (.ireturn, 1)) : W p l e room_1 s m #[Value.ref b] below meth c H [] 600000 7302250 (lw_Z below #[Value.ref b] s) (F0 m pc ls [.int 1]) := by
  intro T hT X
  obtain ⟨fs, hret, hrun, hended, hW, hframe⟩ := X.leave (v := some (.int 1)) (hlocks := hlocks) (fun h => by rw [hr] at h; cases h)
  have hmeth' : T.vm.method? m = some meth := X.method'
  refine ⟨T.setFrames fs, ?_, .returned (some (.int 1)), hrun, hended, rfl, ⟨_, rfl⟩, hW, hframe⟩
  jvm_step X.here [X.here.top, hx, hb, hdg, hmeth', hr, ret, narrow_b1]
  (try refine ⟨rfl, ?_⟩); (try refine ⟨rfl, ?_⟩)
  first | (intro acts; rw [hret _ acts rfl rfl rfl]) | rw [hret _ _ rfl rfl rfl]
  exact Steps.refl _
/-- what holds at the law's entry: the machine, the code, the tables' words (any of lw_tbl by 'hts w (by decide +kernel)'), the script of L ints xs at the cell b, what the Statement gives of the start (any of its parts by flat_of_before) -/
def lw_At (p : Program) (s : State) (m : MethodId) (meth : Method) (c : Code) (b L : Nat) (xs : Nat → Int32) : Prop :=
  p.tables.exec = Jvm.exec ∧ c.code = code ∧ meth.sig.returnType = ret ∧ c.maxLocals = 45 ∧ s.vm.findClass R_law = some m.cls ∧ (∀ w ∈ lw_tbl, w.before #[Value.ref b] s = true) ∧ va_X b L xs s s.heap ∧ b < s.heap.size ∧ meth.locks = false ∧ (Jvm.Cond.and given_1 narrow_1).before #[Value.ref b] s = true
theorem lz_cls {c : Nat} {q : vw_C} (h : cls[c]? = some q) : c < 10 ∧ q = (RNm c, Tm c, Nn c) := by
  have hc : c < 10 := (List.getElem?_eq_some_iff.mp h).1
  refine ⟨hc, ?_⟩
  obtain rfl | rfl | rfl | rfl | rfl | rfl | rfl | rfl | rfl | rfl : c = 0 ∨ c = 1 ∨ c = 2 ∨ c = 3 ∨ c = 4 ∨ c = 5 ∨ c = 6 ∨ c = 7 ∨ c = 8 ∨ c = 9 := by omega
  all_goals (cases h; rfl)
theorem kn_ex {s : State} {A : Array Value} (hts : ∀ w ∈ TB, w.before A s = true) : ∃ D : va_G, ∀ (c : Nat) (q : vw_C), cls[c]? = some q → u_Kn s q.1 q.2.1 q.2.2 (D.1 c) (D.2 c) := by
  have h1 : ∀ c, c < 10 → ∃ (cC : ClassId) (iS : Nat → Nat), u_Kn s (RNm c) (Tm c) (Nn c) cC iS := fun c hc => u_known (ws := TB) hts (lay_in hc) (hts _ (new_at hc).1)
  obtain ⟨c0, i0, -⟩ := h1 0 (by omega)
  have h2 : ∀ c, ∃ z : ClassId × (Nat → Nat), c < 10 → u_Kn s (RNm c) (Tm c) (Nn c) z.1 z.2 := fun c => by
    by_cases hc : c < 10
    · obtain ⟨x, y, h⟩ := h1 c hc
      exact ⟨(x, y), fun _ => h⟩
    · exact ⟨(c0, i0), fun h => absurd h hc⟩
  refine ⟨(fun c => (Classical.choose (h2 c)).1, fun c => (Classical.choose (h2 c)).2), fun c q hq => ?_⟩
  obtain ⟨hc, rfl⟩ := lz_cls hq
  exact Classical.choose_spec (h2 c) hc
theorem ar_ex {s : State} {A : Array Value} (hts : ∀ w ∈ lw_tbl, w.before A s = true) : ∃ dA : Nat → ClassId, ∀ (k : Nat) (q : ClassId × FieldType), (tysL dA)[k]? = some q → ArrOfT s q.1 q.2 ∧ va_RA s q.1 q.2 := by
  have hTB : ∀ w ∈ TB, w.before A s = true := fun w hw => hts w (List.mem_filter.mp hw).1
  obtain ⟨cI, kI, oI, i1, i2, i3⟩ := Cond.arrayClass_spec (hTB _ arr_at.1)
  obtain ⟨cZ, kZ, oZ, j1, j2, j3⟩ := Cond.arrayClass_spec (hTB _ arr_at.2.1)
  have h1 : ∀ t, ∃ cA : ClassId, tagOk t = true → ArrOfT s cA (.object (RNm (tagC t))) ∧ va_RA s cA (.object (RNm (tagC t))) := fun t => by
    by_cases ht : tagOk t = true
    · obtain ⟨comp, c, k, f1, -, f2, f3, f4⟩ := Cond.arrayOver_spec (hts _ (arr_at.2.2 t ht).1)
      exact ⟨c, fun _ => ⟨fun N z => ⟨(fun k h => by cases h), k, f2, comp, f3⟩, k, comp, f2, f3, f1, f4⟩⟩
    · exact ⟨cI, fun h => absurd h ht⟩
  have hI : ArrOfT s cI .int ∧ va_RA s cI .int := ⟨fun N z => ⟨(fun k h => by cases h), kI, i2, oI, i3⟩, i1⟩
  have hZ : ArrOfT s cZ .int ∧ va_RA s cZ .int := ⟨fun N z => ⟨(fun k h => by cases h), kZ, j2, oZ, j3⟩, j1⟩
  refine ⟨fun t => if t = 0 then cI else if t = 1 then cZ else if t = 9 then cI else Classical.choose (h1 t), fun k q hq => ?_⟩
  match k, hq with
  | 0, hq => cases hq; exact hI
  | 1, hq => cases hq; exact hZ
  | 2, hq => cases hq; exact hI
  | 3, hq => cases hq; exact Classical.choose_spec (h1 10) rfl
  | 4, hq => cases hq; exact Classical.choose_spec (h1 12) rfl
  | 5, hq => cases hq; exact Classical.choose_spec (h1 15) rfl
  | 6, hq => cases hq; exact Classical.choose_spec (h1 18) rfl
  | k + 7, hq => simp [tysL] at hq
def adS (b h : Nat) : Nat → Nat
  | 0 => b
  | k + 1 => h + k
theorem whole_start {p : Program} {e : Env} {s : State} {m : MethodId} {below : List Frame} {meth : Method} {c : Code} (l : Launch) (hflags : l.flags = flags0) {b L : Nat} {xs : Nat → Int32} (hL : L ≤ 260) (C0 : lw_At p s m meth c b L xs) : W p l e room_1 s m #[Value.ref b] below meth c s.heap [] 0 0 (lw_Z below #[Value.ref b] s) (entryFrame m ([Value.ref b] : List Value).toArray 45) := by
  obtain ⟨hx, hb, hr, hml, hown, hts, hX, hbl, hlocks, hgv⟩ := id C0
  have hTB : ∀ w ∈ TB, w.before #[Value.ref b] s = true := fun w hw => hts w (List.mem_filter.mp hw).1
  obtain ⟨D, hD⟩ := kn_ex hTB
  obtain ⟨dA, hA⟩ := ar_ex hts
  have hG : Geo (adS b s.heap.size) s.heap.size b := ⟨rfl, hbl, fun k => rfl⟩
  have hNB : ∀ w ∈ NB, va_Nw w s := fun w hw => by
    have hn := (List.mem_filter.mp hw).2
    have h := hts w (List.mem_filter.mp hw).1
    refine va_tabs (c := w) ?_ rfl h
    cases w <;> first | (cases hn; done) | rfl
  have X : Ctx p s m #[Value.ref b] meth c D (adS b s.heap.size) dA s.heap.size b L xs iL_law := ⟨hx, hb, hml.trans (by decide +kernel), hown, hTB, ⟨hD, hA⟩, hX, Nat.le_refl _, hG, fun h => absurd h (by decide +kernel), hNB, fun t ht => va_AO.of (hts _ (arr_at.2.2 t ht).1)⟩
  obtain ⟨I', J', hR⟩ := lz_run (L := L) (xs := xs) hL
  have hsl : slN (4 * L + 3) ≤ 1158 := by unfold slN; (repeat' split) <;> omega
  obtain ⟨f, hf⟩ := R_iff.mp hR
  have he : entryL iL_law [.ref 0] = some [.ref 0, .float 0, .float 0, .float 0, .float 0, .float 0, .float 0, .float 0, .float 0, .float 0, .float 0, .float 0, .float 0, .float 0, .float 0, .float 0, .float 0, .float 0, .float 0, .float 0, .float 0, .float 0, .float 0, .float 0, .float 0, .float 0, .float 0, .float 0, .float 0, .float 0, .float 0, .float 0, .float 0, .float 0, .float 0, .float 0, .float 0, .float 0, .float 0, .float 0, .float 0, .float 0, .float 0, .float 0, .float 0] := by rw [entryL, show mN iL_law = 1 by decide +kernel, show mL iL_law = 45 by decide +kernel]; simp [slotL, cat_ref]
  obtain ⟨hLL, hlv⟩ := entry_has (ad := adS b s.heap.size) he
  have h4 : mL iL_law = 45 := by decide +kernel
  have hC : Cor D (adS b s.heap.size) dA L xs (ma 1 (fun _ => pI 9 L xs) [] 0) s.heap := ⟨Nat.le_refl 1, fun k q h => (by have h' : ([] : va_W)[k]? = some q := h; simp at h'), rfl, fun k hk => (if_neg (Nat.not_lt.mpr hk)).trans rfl⟩
  rw [lg_entry_eq]
  have key := adq_loop (l := l) (e := e) (Rm := room_1) (below := below) (Q := lw_Z below #[Value.ref b] s) (d := 20) (f0 := f) (by decide) (by decide) X (fun m' as M v M' h => adq_call hG 20 f m' as M v M' h) (some (.int 1)) (mk (4 * L + 3) I' J') f 0 _ [] _ hf hLL s.heap [] _ 0 0 hC va_S.rf hlv rfl (by show 0 + (78 + (4 * L + 3) % 4 - 1) ≤ 600000; omega) (by show 0 + (slN (4 * L + 3) - 0) ≤ 7302250; omega)
  rw [h4] at key
  refine key fun H locs ls pc i S hd hRet hCor hS => ?_
  obtain ⟨-, ⟨rfl, x, rfl, hv, -⟩ | ⟨rfl, x, rfl, hv, -⟩ | ⟨rfl, w, rfl, hv, hk, -⟩ | ⟨rfl, rfl, hv, -⟩⟩ := hRet
  · cases hv
    refine va_forget (fun q hq => hS.2.2 q hq) ?_
    exact W.widen (k := 600000) (n := 7302250) (by show 0 + (78 + (4 * L + 3) % 4 - 1) ≤ 600000; omega) (by show 0 + (slN (4 * L + 3) - 0) ≤ 7302250; omega) (lw_ret hx hb hr hlocks hd)
  · cases hv
  · exact absurd hk (by decide +kernel)
  · cases hv
-- ===== YOUR PART ENDS =====
set_option maxHeartbeats 4000000 in
theorem lw_walk (l : Launch) (hflags : l.flags = flags0) (b : Addr) (xs : List Int32) : MetFree l x (headSpec (Jvm.Cond.code x code maxLocals ret :: tables_1) room_1) (lw_P b xs) (fun _ _ _ _ _ => True) lw_Q := by
  refine MetFree.of_bodyS (code := code) (maxLocals := maxLocals) (ret := ret) (by decide) ?_ ?_
  · intro args s m h hn
    obtain ⟨meth, c, h1, h2, h3, h4, h5, h6, -, -⟩ := Cond.code_spec hn (atoms_spec (ws := Jvm.Cond.code x code maxLocals ret :: tables_1) h _ List.mem_cons_self)
    exact ⟨meth, c, h1, h2, h3, h4, h5, h6⟩
  · intro p e s m args below meth c s₁ B hml0 hP _
    obtain ⟨rfl, hx, hbd, hgv⟩ := hP
    obtain ⟨scr, harrAt, hlist, hof, hsmall⟩ := hx
    obtain ⟨hcb, hkn, -, -⟩ := State.arrayAt?_spec harrAt
    have hown : s.vm.findClass R_law = some m.cls := findClass_of_methodNamed B.named
    have hts0 : ∀ c ∈ (Jvm.Cond.code x code maxLocals ret :: tables_1), c.before #[Value.ref b] s = true := atoms_spec (ws := Jvm.Cond.code x code maxLocals ret :: tables_1) B.pre
    have hts : ∀ w ∈ lw_tbl, w.before #[Value.ref b] s = true := k2_hts_sels lw_privs (fun w hw => hts0 w (List.mem_cons_of_mem _ hw)) lw_privs_ok
    have hml : c.maxLocals = 45 := B.maxLocals_eq (hts0 _ List.mem_cons_self)
    have X₀ : Stand p l e room_1 s m #[Value.ref b] below meth c s₁ [] 0 0 := Stand.of_body B
    have hh0 : s₁.heap = s.heap := by rw [B.state]; rfl
    have hsz : scr.slots.size = xs.length := by rw [← Array.length_toList, hlist, List.length_map]
    have hval : ∀ j : Nat, j < xs.length → scr.slots[j]? = some (.int (xs.getD j 0)) := fun j hj => by
      rw [← Array.getElem?_toList, hlist]
      simp [hj]
    have hbl : b < s.heap.size := (Array.getElem?_eq_some_iff.mp hcb).1
    have hX : va_X b xs.length (fun j => xs.getD j 0) s s.heap := ⟨scr, hcb, hof, hkn, hsz, hval⟩
    have K : W p l e room_1 s m #[Value.ref b] below meth c s₁.heap [] 0 0 (lw_Z below #[Value.ref b] s) (entryFrame m ([Value.ref b] : List Value).toArray 45) := by
      rw [hh0]
      exact whole_start l hflags hbd ⟨B.exec, B.bytes, B.returns, hml, hown, hts, hX, hbl, B.notSynchronized, hgv⟩
    obtain ⟨t, a1, o, b1, b2, b3⟩ := K s₁ rfl X₀
    exact ⟨t, o, a1, b1, b2, b3⟩
theorem lw_pre_spec {args : Array Value} {s : State} (h : (Jvm.Cond.and given_1 narrow_1).before args s = true) (hr : rest_1_c.before args s = true) : ∃ (b : Addr) (xs : List Int32), lw_P b xs args s := by
  have hs := flat_of_before _ h
  have hq := flat_of_before _ hr
  have hc : (Cond.count 1).before args s = true := hs _ (by decide +kernel)
  have harr : (Cond.arrayOf (.arg 0) .int).before args s = true := hs _ (by decide +kernel)
  have hle : (Cond.le (.length (.arg 0)) (.int 260)).before args s = true := hs _ (by decide +kernel)
  have hlen : (Cond.isInt (.length (.arg 0))).before args s = true := hq _ (by decide +kernel)
  have hall : (Cond.all (.arg 0) (.isInt (.elem (.arg 0) (.index 0)))).before args s = true := hq _ (by decide +kernel)
  obtain ⟨b, xs, hb, hx⟩ := State.ints_of_pre rfl harr hlen hall
  have hsm : xs.length < 2 ^ 31 := hx.choose_spec.2.2.2
  have hev : (Term.length (.arg 0)).eval args s none [] s = some (.int xs.length.toInt32) := hx.length_eval hb
  have hv := Cond.le_ints hev (show (Term.int 260).eval args s none [] s = some (.int 260) from rfl)
  have hd : xs.length.toInt32 ≤ 260 := by
    simpa [Cond.before, Cond.holds, hv] using hle
  have hN : xs.length ≤ 260 := (Int32.ofNat_le_ofNat hsm (by decide)).mp (show Int32.ofNat xs.length ≤ Int32.ofNat 260 from hd)
  exact ⟨b, xs, Cond.one_arg hc (show args[0]? = some (.ref b) from hb), hx, hN, h⟩
theorem lw_comes (l : Launch) (hflags : l.flags = flags0) : Comes l x (Jvm.Cond.code x code maxLocals ret :: tables_1) room_1 (fun tb e args s => Calls_1 tb e args s ∧ rest_1 tb e args s ∧ Pre_1 tb e args s)
    (fun _ _ args s o t => lw_Q args s o t) := by
  intro p e ha hc hk s m args below hf hfit hheap happ hpre
  obtain ⟨b, xs, hP⟩ := lw_pre_spec hpre.2.2 hpre.2.1
  obtain ⟨k, o, h1, h2, h3, hQ⟩ := lw_walk l hflags b xs p e ha hc hk s m args below hf ((Spec.applies_iff_loose hf).mp happ).1 hP trivial
  exact ⟨k, o, h1, h2, h3, hQ⟩
theorem lw_frame {s t : State} {o : Outcome} {args : Array Value} (h : Framed s o t [] 600000 7302250) :
    Framed s o t (fieldLocs frame_1_writes args s ++ arrayLocs frame_1_arrays args s ++ staticLocs frame_1_statics s) 600000 7302250 := h
theorem lw_limb (L : Cond) (hL : ∀ (args : Array Value) (s t : State), L.after args s (.returned (some (.int 1))) t = true) :
    ArmFor flags0 classFile x code maxLocals ret World_1 tables_1 room_1 Calls_1 rest_1 Pre_1
      (fun tb e a s o t => postC L tb e a s o t ∧ Framed s o t (fieldLocs frame_1_writes a s ++ arrayLocs frame_1_arrays a s ++ staticLocs frame_1_statics s) 600000 7302250) := by
  intro l hflags _ _ p e ha hc hk s m args below hf hfit hheap happ hpre
  obtain ⟨k, o, h1, h2, h3, rfl, hF⟩ := lw_comes l hflags p e ha hc hk s m args below hf hfit hheap happ hpre
  exact ⟨k, _, h1, h2, h3, hL args s _, lw_frame hF⟩
theorem i_vc : Claimed_1_1 ∧ Claimed_1_2 := ⟨lw_limb limb_1_1 (fun args s t => by simp [limb_1_1, Cond.after, Cond.holds, Cond.value]), lw_limb limb_1_2 (fun args s t => Cond.after_iff.mpr (by
  first | (rw [show limb_1_2 = Cond.eq .result (.int 1) from rfl, Cond.eq_ints (x := 1) (y := 1) rfl rfl]; simp; done) | (simp [limb_1_2, Cond.value, Term.eval]; done)))⟩
