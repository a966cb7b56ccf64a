section
variable {p : Program} {l : Launch} {e : Env} {Rm : Room} {s : State} {mid : MethodId} {args : Array Value} {below : List Frame} {meth : Method} {c : Code} {Q : State → Prop} {D : va_G} {ad : Nat → Nat} {dA : Nat → ClassId} {base b0 Ls : Nat} {xs : Nat → Int32} {m pc len : Nat} {L S : List Value} {M : Mem}
theorem ns_getf (X : Ctx p s mid args meth c D ad dA base b0 Ls xs m) {idx ci k a : Nat} {b : Bool} {S' : List Value} (hf : fldT (mO m) idx = some (ci, k, b)) (hlen : len = 3) (hg : isO (rd M a) ci = true) (hk : k < (fldsE (rd M a)).length) (hd : decode (mC m) pc = .ok (.getfield idx, len)) : NS p l e Rm s mid args below meth c Q D ad dA base Ls xs m pc L (.ref a :: S') M (pc + 3, L, fldE (rd M a) k :: S', M) := by
  subst hlen
  refine ⟨rfl, rfl, fun H locs ls cells slots hC hS hl kk => ?_⟩
  have k1 := kk H locs ls hC hS hl
  obtain ⟨hx, hb, hml, hown, hts, hK, hX, hbs, hG, hct, hNB, hAO⟩ := X
  obtain ⟨w1, w2, hT, hkN, hci, hne⟩ := fldT_ok hf
  obtain ⟨l1, l2⟩ := live_O hC hg hci
  obtain ⟨fs, ec⟩ := isO_shape hg
  have hw := WS_get (ad := ad) (dA := dA) l1 l2
  rw [ec] at hw k1 hk
  have hk : k < fs.length := hk
  have hv : (fs.map (rl ad))[k]? = some (rl ad (fs.getD k .null)) := by
    rw [List.getElem?_map, List.getElem?_eq_getElem hk, List.getD_eq_getElem?_getD, List.getElem?_eq_getElem hk]
    rfl
  cases b with
  | false => exact va_get hx hb hts (lay_in hci) hown hK hC.2.1 (a - 1) hw (cls_at hci) k hkN (hts _ (w2 rfl)) (fun x h => by rw [hT] at h; exact h) hv hd k1
  | true => exact va_getN hx hb hts (lay_in hci) hown hK hC.2.1 (a - 1) hw (cls_at hci) k hkN (va_Nw.use rfl (hNB _ (w1 rfl))) (fun x h => by rw [hT] at h; exact h) hv hd k1
theorem fit_ok {ty : FieldType} {v : Value} (h : fitV ty v = true) : narrow ty (rl ad v) = rl ad v ∧ fits ty (rl ad v) = true := by
  cases v with
  | int x =>
    simp only [fitV, Bool.or_eq_true, Bool.and_eq_true, beq_iff_eq] at h
    rcases h with h | ⟨h, h2⟩
    · subst h; exact ⟨rfl, rfl⟩
    · subst h
      rcases h2 with h2 | h2
      · subst h2; exact ⟨rfl, rfl⟩
      · subst h2; exact ⟨rfl, rfl⟩
  | long x =>
    simp only [fitV, beq_iff_eq] at h
    subst h; exact ⟨rfl, rfl⟩
  | null => cases ty <;> first | (cases h; done) | exact ⟨rfl, rfl⟩
  | ref x => cases ty <;> first | (cases h; done) | exact ⟨rfl, rfl⟩
  | float _ => cases h
  | double _ => cases h
  | retAddr _ => cases h
theorem ns_putf (X : Ctx p s mid args meth c D ad dA base b0 Ls xs m) {idx ci k a : Nat} {b : Bool} {v : Value} {S' : List Value} (hf : fldT (mO m) idx = some (ci, k, b)) (hlen : len = 3) (hg : isO (rd M a) ci = true) (hk : k < (fldsE (rd M a)).length) (hfit : fitV (fTy ci k) v = true) (hfin : fFin ci k = true → mI m = true ∧ ci = mO m) (hd : decode (mC m) pc = .ok (.putfield idx, len)) : NS p l e Rm s mid args below meth c Q D ad dA base Ls xs m pc L (v :: .ref a :: S') M (pc + 3, L, S', wr M a (setF (rd M a) k v)) := by
  subst hlen
  refine ⟨rfl, rfl, fun H locs ls cells slots hC hS hl kk => ?_⟩
  obtain ⟨hx, hb, hml, hown, hts, hK, hX, hbs, hG, hct, hNB, hAO⟩ := X
  obtain ⟨w1, w2, hT, hkN, hci, hne⟩ := fldT_ok hf
  obtain ⟨l1, l2⟩ := live_O hC hg hci
  obtain ⟨fs, ec⟩ := isO_shape hg
  have hw := WS_get (ad := ad) (dA := dA) l1 l2
  rw [ec] at hw kk hk
  have hk : k < fs.length := hk
  obtain ⟨f1, f2⟩ := fit_ok (ad := ad) hfit
  have hset : ∀ H1 : Heap, va_P D cls ((WS ad dA M).set (a - 1) (ad a, .inr (ci, (fs.map (rl ad)).set k (rl ad v)))) H1 → va_P D cls (WS ad dA (wr M a (setF (pO ci fs) k v))) H1 := by
    intro H1 h
    rw [← WS_set l1 l2]
    show va_P D cls ((WS ad dA M).set (a - 1) (ad a, .inr (ci, (fs.set k v).map (rl ad)))) H1
    rw [List.map_set]
    exact h
  have hty : ∀ k, k < Nn ci → parseFieldDescriptor (Tm ci k).2.2.1 = some (fTy ci k) := fun k h => (ty_at hci h).1
  have hnm : ∀ a, a < Nn ci → ∀ b, b < Nn ci → a ≠ b → (Tm ci a).2.1 ≠ (Tm ci b).2.1 := fun a h b h2 h3 => (ty_at hci h).2.2.2 b h2 h3
  have hsame : ∀ x, s.fieldFound? (Tm ci k).1 (Tm ci k).2.1 (Tm ci k).2.2.1 = some x → s.fieldFound? (RNm ci) (Tm ci k).2.1 (Tm ci k).2.2.1 = some x := fun x h => by rw [hT] at h; exact h
  have hkl : k < (fs.map (rl ad)).length := by rw [List.length_map]; exact hk
  by_cases hF : fFin ci k = true
  · obtain ⟨hi, ho⟩ := hfin hF
    cases b with
    | true => exact absurd ho (hne rfl)
    | false => exact va_putF hx hb hts (lay_in hci) (fTy ci) hty hnm hown hK hC.2.1 (WS_D hG) hS (a - 1) hw (cls_at hci) k hkN (hts _ (w2 rfl)) hsame hF (hct hi) (by rw [hT, ho]) (hty k hkN) f1 f2 hkl hd (fun H1 locs1 hP hD hS1 => kk H1 locs1 ls (Cor_wr hC l1 l2 (hset H1 hP)) hS1 hl)
  · have hF : (Tm ci k).2.2.2 = false := by simpa [fFin] using hF
    cases b with
    | true => exact va_putN hx hb hts (lay_in hci) (fTy ci) hty hnm hown hK hC.2.1 (WS_D hG) hS (a - 1) hw (cls_at hci) k hkN (va_Nw.use rfl (hNB _ (w1 rfl))) hsame hF (hty k hkN) f1 f2 hkl hd (fun H1 locs1 hP hD hS1 => kk H1 locs1 ls (Cor_wr hC l1 l2 (hset H1 hP)) hS1 hl)
    | false => exact va_put hx hb hts (lay_in hci) (fTy ci) hty hnm hown hK hC.2.1 (WS_D hG) hS (a - 1) hw (cls_at hci) k hkN (hts _ (w2 rfl)) hsame hF (hty k hkN) f1 f2 hkl hd (fun H1 locs1 hP hD hS1 => kk H1 locs1 ls (Cor_wr hC l1 l2 (hset H1 hP)) hS1 hl)
theorem ns_ldc (X : Ctx p s mid args meth c D ad dA base b0 Ls xs m) {idx : Nat} {v : Int32} (hf : ldcT (mO m) idx = some v) (hlen : len = 2) (hd : decode (mC m) pc = .ok (.ldc idx, len)) : NS p l e Rm s mid args below meth c Q D ad dA base Ls xs m pc L S M (pc + 2, L, .int v :: S, M) := by
  subst hlen
  refine ⟨rfl, rfl, fun H locs ls cells slots hC hS hl kk => ?_⟩
  have k1 := kk H locs ls hC hS hl
  obtain ⟨hx, hb, hml, hown, hts, hK, hX, hbs, hG, hct, hNB, hAO⟩ := X
  exact lv_ldc hx hb hown (hts _ (ldcT_ok hf)) hd k1
theorem ns_ldc_w (X : Ctx p s mid args meth c D ad dA base b0 Ls xs m) {idx : Nat} {v : Int32} (hf : ldcT (mO m) idx = some v) (hlen : len = 3) (hd : decode (mC m) pc = .ok (.ldc_w idx, len)) : NS p l e Rm s mid args below meth c Q D ad dA base Ls xs m pc L S M (pc + 3, L, .int v :: S, M) := by
  subst hlen
  refine ⟨rfl, rfl, fun H locs ls cells slots hC hS hl kk => ?_⟩
  have k1 := kk H locs ls hC hS hl
  obtain ⟨hx, hb, hml, hown, hts, hK, hX, hbs, hG, hct, hNB, hAO⟩ := X
  exact lv_ldcw hx hb hown (hts _ (ldcT_ok hf)) hd k1
theorem ns_ldc2_w (X : Ctx p s mid args meth c D ad dA base b0 Ls xs m) {idx : Nat} {v : Int64} (hf : ldlT (mO m) idx = some v) (hlen : len = 3) (hd : decode (mC m) pc = .ok (.ldc2_w idx, len)) : NS p l e Rm s mid args below meth c Q D ad dA base Ls xs m pc L S M (pc + 3, L, .long v :: S, M) := by
  subst hlen
  refine ⟨rfl, rfl, fun H locs ls cells slots hC hS hl kk => ?_⟩
  have k1 := kk H locs ls hC hS hl
  obtain ⟨hx, hb, hml, hown, hts, hK, hX, hbs, hG, hct, hNB, hAO⟩ := X
  exact lv_ldc2 hx hb hown (hts _ (ldlT_ok hf)) hd k1
theorem ns_obj (hR : 1 ≤ Rm.frames ∧ 100 ≤ Rm.locals) (X : Ctx p s mid args meth c D ad dA base b0 Ls xs m) {idx m' a : Nat} {S' : List Value} (hf : mthT (mO m) idx = some (m', 6)) (hc8 : catS S' ≤ 8) (hlen : len = 3) (hd : decode (mC m) pc = .ok (.invokespecial idx, len)) : NS p l e Rm s mid args below meth c Q D ad dA base Ls xs m pc L (.ref a :: S') M (pc + 3, L, S', M) := by
  subst hlen
  refine ⟨rfl, rfl, fun H locs ls cells slots hC hS hl kk => ?_⟩
  have k1 := kk H locs ls hC hS hl
  obtain ⟨hx, hb, hml, hown, hts, hK, hX, hbs, hG, hct, hNB, hAO⟩ := X
  obtain ⟨-, w1, e1, e2, -⟩ := mthT_ok hf
  have w1 := w1 rfl
  simp only [wM, e1, e2] at w1
  refine W.objInit hx hb hown (hts _ w1) (hts _ obj_at.1) (hts _ obj_at.2.1) rfl (hl.1.trans hml.symm) rfl hd hR.1 ?_ k1
  rw [rl_cats]
  show 2 * 0 + catS S' + 12 ≤ Rm.locals
  omega
theorem nfw : nativeFrameWords "java/lang/System" "arraycopy" 5 ≤ 60 := by decide +kernel
theorem ns_copy (hR : 1 ≤ Rm.frames ∧ 100 ≤ Rm.locals) (X : Ctx p s mid args meth c D ad dA base b0 Ls xs m) {idx m' a b : Nat} {sp dp n : Int32} {S' : List Value} (hf : mthT (mO m) idx = some (m', 7)) (hlen : len = 3) (hg : isIE (rd M a) = true ∧ isIE (rd M b) = true ∧ tagE (rd M a) = 0 ∧ tagE (rd M b) = 0 ∧ ¬ sp < 0 ∧ ¬ dp < 0 ∧ ¬ n < 0 ∧ sp.toNatClampNeg + n.toNatClampNeg ≤ lenE (rd M a) ∧ dp.toNatClampNeg + n.toNatClampNeg ≤ lenE (rd M b) ∧ catS S' ≤ 8) (hd : decode (mC m) pc = .ok (.invokestatic idx, len)) : NS p l e Rm s mid args below meth c Q D ad dA base Ls xs m pc L (.int n :: .int dp :: .ref b :: .int sp :: .ref a :: S') M (pc + 3, L, S', wr M b (pI 0 (lenE (rd M b)) (va_cpy (datI (rd M a)) (datI (rd M b)) sp.toNatClampNeg dp.toNatClampNeg n.toNatClampNeg))) := by
  subst hlen
  obtain ⟨g1, g2, g3, g4, g5, g6, g7, g8, g9, g10⟩ := hg
  refine ⟨rfl, rfl, fun H locs ls cells slots hC hS hl kk => ?_⟩
  obtain ⟨hx, hb, hml, hown, hts, hK, hX, hbs, hG, hct, hNB, hAO⟩ := X
  obtain ⟨-, w1, e1, e2, -⟩ := mthT_ok hf
  have w1 := w1 rfl
  simp only [wM, e1, e2] at w1
  obtain ⟨l1, l2⟩ := live_I hC g1 (tag9_ne hC (by omega))
  obtain ⟨l3, l4⟩ := live_I hC g2 (tag9_ne hC (by omega))
  obtain ⟨t, n0, f, ec, ht⟩ := isIE_shape g1
  obtain ⟨t2, n1, f2, ec2, ht2⟩ := isIE_shape g2
  have hw := WS_get (ad := ad) (dA := dA) l1 l2
  have hw2 := WS_get (ad := ad) (dA := dA) l3 l4
  rw [ec] at hw g3 g8 kk
  rw [ec2] at hw2 g4 g9 kk
  cases g3
  cases g4
  refine va_copyi hx hb (hml.trans hl.1.symm) hown (hts _ w1) (hts _ obj_at.2.2.1) (hts _ obj_at.2.2.2.1) (hts _ obj_at.2.2.2.2) hK hC.2.1 (WS_D hG) hS (a - 1) (b - 1) 0 0 hw hw2 rfl rfl rfl g5 g6 g7 g8 g9 (fun i _ => rfl) hR.1 ?_ hd (fun H1 locs1 hP hD hS1 => kk H1 locs1 ls (Cor_wr hC l3 l4 ?_) hS1 hl)
  · rw [rl_cats]
    have := nfw
    omega
  · rw [← WS_set l3 l4]
    exact hP
/-- a step that makes a cell of n slots -/
def NAl (p : Program) (l : Launch) (e : Env) (Rm : Room) (s : State) (mid : MethodId) (args : Array Value) (below : List Frame) (meth : Method) (c : Code) (Q : State → Prop) (D : va_G) (ad : Nat → Nat) (dA : Nat → ClassId) (base Ls : Nat) (xs : Nat → Int32) (m pc : Nat) (L S : List Value) (M : Mem) (x : Nat × List Value × List Value × Mem) (n : Nat) : Prop :=
  x.2.2.2.2.1 = M.2.1 + 1 ∧ x.2.2.2.2.2 = M.2.2 + n ∧ x.2.1.length = L.length ∧ ∀ (H : Heap) (locs : List Loc) (ls : Array Slot) (cells slots : Nat), Cor D ad dA Ls xs M H → va_S (fun q => base ≤ q) s.heap H locs → lv_has ls (mL m) (asc ad L) → s.heap.size + cells + 1 = base + M.2.1 → cells + 1 ≤ Rm.cells → slots + n ≤ Rm.slots →
    KN p l e Rm s mid args below meth c Q D ad dA base Ls xs m x (cells + 1) (slots + n) → W p l e Rm s mid args below meth c H locs cells slots Q (F0 mid pc ls (S.map (rl ad)))
/-- how large the heap is: from what the walk itself keeps -/
theorem W_sized {H : Heap} {locs : List Loc} {cells slots : Nat} {g : JFrame} (hG : Geo ad base b0) (hbs : base ≤ s.heap.size) (hC : Cor D ad dA Ls xs M H) (hS : va_S (fun q => base ≤ q) s.heap H locs) (hcell : s.heap.size + cells + 1 = base + M.2.1)
    (kk : H.size = ad M.2.1 → W p l e Rm s mid args below meth c H locs cells slots Q g) : W p l e Rm s mid args below meth c H locs cells slots Q g := by
  intro T hT X
  refine kk ?_ T hT X
  have h1 := X.heapSize
  rw [hT] at h1
  have h0 := hC.1
  have hn : ad M.2.1 = base + (M.2.1 - 1) := by
    have := hG.2.2 (M.2.1 - 1)
    rwa [show M.2.1 - 1 + 1 = M.2.1 by omega] at this
  rw [hn]
  rcases Nat.lt_or_ge M.2.1 2 with h2 | h2
  · have := hS.1
    omega
  · have hw := WS_get (ad := ad) (dA := dA) (M := M) (a := M.2.1 - 1) (by omega) (by omega)
    have h3 := (hC.2.1 _ _ hw).lt
    simp only at h3
    have h4 := hG.2.2 (M.2.1 - 1 - 1)
    rw [show M.2.1 - 1 - 1 + 1 = M.2.1 - 1 by omega] at h4
    omega
theorem defs_rl {ci : Nat} (h : ci < 10) : (defs ci).map (rl ad) = defs ci := by
  match ci, h with
  | 0, _ => rfl
  | 1, _ => rfl
  | 2, _ => rfl
  | 3, _ => rfl
  | 4, _ => rfl
  | 5, _ => rfl
  | 6, _ => rfl
  | 7, _ => rfl
  | 8, _ => rfl
  | 9, _ => rfl
  | 10, _ => rfl
theorem S_grow {H H1 : Heap} {locs : List Loc} (hS : va_S (fun q => base ≤ q) s.heap H locs) (z1 : H1.size = H.size + 1) (o1 : ∀ q, q < H.size → H1[q]? = H[q]?) : va_S (fun q => base ≤ q) s.heap H1 locs :=
  ⟨Nat.le_trans hS.1 (by omega), fun x h1 h2 => (o1 x (Nat.lt_of_lt_of_le h1 hS.1)).trans (hS.2.1 x h1 h2), hS.2.2⟩
theorem P_grow {H H1 : Heap} {cc : PE} (h1 : 1 ≤ M.2.1) {n : Nat} (hP : va_P D cls (WS ad dA M) H) (o1 : ∀ q, q < H.size → H1[q]? = H[q]?) (hn : va_at D cls (ad M.2.1, trE ad dA cc) H1) : va_P D cls (WS ad dA (al M cc n)) H1 := by
  rw [← WS_al h1]
  refine (hP.kept fun k x hx => o1 x.1 ((hP k x hx).lt)).app fun k x hx => ?_
  have hz : k < 1 := (List.getElem?_eq_some_iff.mp hx).1
  rw [show k = 0 by omega] at hx
  cases hx
  exact hn
theorem na_new (X : Ctx p s mid args meth c D ad dA base b0 Ls xs m) {idx ci : Nat} (hf : clsT (mO m) idx = some ci) (hlen : len = 3) (hd : decode (mC m) pc = .ok (.new idx, len)) : NAl p l e Rm s mid args below meth c Q D ad dA base Ls xs m pc L S M (pc + 3, L, .ref M.2.1 :: S, al M (pO ci (defs ci)) (defs ci).length) (defs ci).length := by
  subst hlen
  refine ⟨rfl, rfl, rfl, fun H locs ls cells slots hC hS hl hcell hc1 hs1 kk => ?_⟩
  obtain ⟨hx, hb, hml, hown, hts, hK, hX, hbs, hG, hct, hNB, hAO⟩ := X
  obtain ⟨w1, hci⟩ := clsT_ok hf
  obtain ⟨n1, n2, n3⟩ := new_at hci
  refine W_sized hG hbs hC hS hcell fun hsz => ?_
  have hKn := hK.1 ci _ (cls_at hci)
  rw [n3] at hs1 kk
  refine W.newcK hx hb hown (hts _ w1) (hts _ n1) (hts _ n2) rfl hd hc1 hs1 hKn.2.1 rfl fun H1 kC hkC e1 z1 o1 => ?_
  have k1 := kk H1 locs ls (Cor_al hC (P_grow hC.1 hC.2.1 o1 ?_)) (S_grow hS z1 o1) hl
  · rw [hsz]
    exact k1
  · show va_at D cls (ad M.2.1, .inr (ci, (defs ci).map (rl ad))) H1
    rw [← hsz, defs_rl hci]
    exact ⟨_, cls_at hci, (u_born (fTy ci) hts (lay_in hci) hKn hkC e1 (fun k h => (ty_at hci h).1)).to (fun j hj => (ty_at hci hj).2.1)⟩
theorem na_newI (X : Ctx p s mid args meth c D ad dA base b0 Ls xs m) {n : Int32} {S' : List Value} (hlen : len = 2) (hn : ¬ n < 0) (hn2 : n.toNatClampNeg ≤ 4096) (hd : decode (mC m) pc = .ok (.newarray .int, len)) : NAl p l e Rm s mid args below meth c Q D ad dA base Ls xs m pc L (.int n :: S') M (pc + 2, L, .ref M.2.1 :: S', al M (pI 0 n.toNatClampNeg (fun _ => 0)) n.toNatClampNeg) n.toNatClampNeg := by
  subst hlen
  refine ⟨rfl, rfl, rfl, fun H locs ls cells slots hC hS hl hcell hc1 hs1 kk => ?_⟩
  obtain ⟨hx, hb, hml, hown, hts, hK, hX, hbs, hG, hct, hNB, hAO⟩ := X
  refine W_sized hG hbs hC hS hcell fun hsz => ?_
  have hRA := (hK.2 0 _ rfl).2
  refine va_newaK (atype := .int) hx hb (hts _ arr_at.1) rfl hd rfl hn rfl (show _ * 4 ≤ _ by omega) hc1 hs1 rfl fun H1 cA e1 z1 o1 hAr hNm => ?_
  have hcA : dA 0 = cA := Option.some.inj ((show s.vm.findClass ("[" ++ FieldType.int.toString) = some (dA 0) from hRA).symm.trans hNm)
  have k1 := kk H1 locs ls (Cor_al hC (P_grow hC.1 hC.2.1 o1 ?_)) (S_grow hS z1 o1) hl
  · rw [hsz]
    exact k1
  · show H1[ad M.2.1]? = some (vp_cell (dA 0) (n.toNatClampNeg, .inl (fun _ => 0)))
    rw [← hsz, hcA]
    exact e1
theorem na_anew (X : Ctx p s mid args meth c D ad dA base b0 Ls xs m) {n : Int32} {idx t : Nat} {S' : List Value} (hf : aclT (mO m) idx = some t) (hlen : len = 3) (hn : ¬ n < 0) (hn2 : n.toNatClampNeg ≤ 4096) (hd : decode (mC m) pc = .ok (.anewarray idx, len)) : NAl p l e Rm s mid args below meth c Q D ad dA base Ls xs m pc L (.int n :: S') M (pc + 3, L, .ref M.2.1 :: S', al M (pR t n.toNatClampNeg (fun _ => none)) n.toNatClampNeg) n.toNatClampNeg := by
  subst hlen
  refine ⟨rfl, rfl, rfl, fun H locs ls cells slots hC hS hl hcell hc1 hs1 kk => ?_⟩
  obtain ⟨hx, hb, hml, hown, hts, hK, hX, hbs, hG, hct, hNB, hAO⟩ := X
  obtain ⟨w1, ht⟩ := aclT_ok hf
  refine W_sized hG hbs hC hS hcell fun hsz => ?_
  obtain ⟨j, hj⟩ := tys_tag (dA := dA) ht
  obtain ⟨kA0, comp0, r1, r2, r3, r4⟩ := (hK.2 j _ hj).2
  refine W.anew hx hb hown (hts _ w1) (va_AO.use (hAO t ht)) rfl hd rfl hn (by omega) hc1 hs1 fun cA kA comp f1 f2 f3 f4 => ?_
  have hcA : dA t = cA := Option.some.inj (r4.symm.trans f1)
  generalize hH1 : H.push ({ cls := cA, slots := Array.replicate n.toNatClampNeg .null, vm := .none } : Cell) = H1
  have z1 : H1.size = H.size + 1 := by rw [← hH1, Array.size_push]
  have e1 : H1[H.size]? = some (arrV cA n.toNatClampNeg (fun _ => .null)) := by rw [← hH1, Array.getElem?_push_size, ← arrV_new]
  have o1 : ∀ q : Nat, q < H.size → H1[q]? = H[q]? := fun q hq => by rw [← hH1, Array.getElem?_push, if_neg (Nat.ne_of_lt hq)]
  have k1 := kk H1 locs ls (Cor_al hC (P_grow hC.1 hC.2.1 o1 ?_)) (S_grow hS z1 o1) hl
  · rw [hsz]
    exact k1
  · show H1[ad M.2.1]? = some (vp_cell (dA t) (n.toNatClampNeg, .inr (.inr (.inr (.inr (fun _ => none))))))
    rw [← hsz, hcA]
    exact e1
end
