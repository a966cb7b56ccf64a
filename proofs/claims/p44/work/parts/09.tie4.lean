section
variable {p : Program} {l : Launch} {e : Env} {Rm : Room} {s : State} {mid : MethodId} {args : Array Value} {below : List Frame} {meth : Method} {c : Code} {Q : State → Prop} {D : va_G} {ad : Nat → Nat} {dA : Nat → ClassId} {base b0 Ls : Nat} {xs : Nat → Int32} {m pc len : Nat} {L S : List Value} {M : Mem}
theorem ns_iinc (hLL : L.length = mL m) (X : Ctx p s mid args meth c D ad dA base b0 Ls xs m) {k : Nat} {n : Int} {x : Int32} (hx : L[k]? = some (.int x)) (hp : prevOk L k = true) (hlen : len = 3) (hd : decode (mC m) pc = .ok (.iinc k n, len)) : NS p l e Rm s mid args below meth c Q D ad dA base Ls xs m pc L S M (pc + 3, L.set k (.int (x + Int32.ofInt n)), S, M) := by
  subst hlen
  refine ⟨rfl, List.length_set, fun H locs ls cells slots hC hS hl kk => ?_⟩
  obtain ⟨j, hj⟩ := List.getElem?_of_mem (mem_asc.mpr ⟨_, hx, (fun z hz => by cases hz), rfl⟩ : (k, rl ad (.int x)) ∈ asc ad L)
  exact lv_iinc X.1 X.2.1 hd hl hj rfl (hLL ▸ (List.getElem?_eq_some_iff.mp hx).1) rfl (fun ls1 hl1 => kk H locs ls1 hC hS (lv_less hl1 (asc_set hp)))
theorem ns_goto (X : Ctx p s mid args meth c D ad dA base b0 Ls xs m) {off : Int} {t : Nat} (ht : (pc : Int) + off = (t : Int)) (hlen : len = 3) (hd : decode (mC m) pc = .ok (.goto off, len)) : NS p l e Rm s mid args below meth c Q D ad dA base Ls xs m pc L S M (t, L, S, M) := by
  subst hlen
  exact ⟨rfl, rfl, fun H locs ls cells slots hC hS hl kk => lv_goto X.1 X.2.1 hd ht (kk H locs ls hC hS hl)⟩
theorem le_of_nlt {x y : Int32} (h : ¬ x < y) : y ≤ x := Int32.not_lt.mp h
theorem nlt_of_le {x y : Int32} (h : y ≤ x) : ¬ x < y := Int32.not_lt.mpr h
theorem tgt_at {off : Int} (h : 0 ≤ (pc : Int) + off) : (pc : Int) + off = (tgt pc off : Int) := by
  unfold tgt
  omega
theorem ns_ifc (X : Ctx p s mid args meth c D ad dA base b0 Ls xs m) {op : Jvm.ClassFile.Cond} {off : Int} {x : Int32} {S' : List Value} (h0 : 0 ≤ (pc : Int) + off) (hlen : len = 3) (hd : decode (mC m) pc = .ok (.ifCond op off, len)) : NS p l e Rm s mid args below meth c Q D ad dA base Ls xs m pc L (.int x :: S') M (if icond op x 0 = true then (tgt pc off, L, S', M) else (pc + 3, L, S', M)) := by
  subst hlen
  have ht := tgt_at h0
  by_cases hc : icond op x 0 = true
  · rw [if_pos hc]
    refine ⟨rfl, rfl, fun H locs ls cells slots hC hS hl kk => ?_⟩
    have k1 := kk H locs ls hC hS hl
    cases op with
    | eq => exact lv_if_eq X.1 X.2.1 hd ht (fun _ => k1) (fun q => absurd (of_decide_eq_true hc) q)
    | ne => exact lv_if_ne X.1 X.2.1 hd ht (fun _ => k1) (fun q => by simp [icond, q] at hc)
    | lt => exact lv_if_lt X.1 X.2.1 hd ht (fun _ => k1) (fun q => absurd (of_decide_eq_true hc) q)
    | ge => exact lv_if_ge X.1 X.2.1 hd ht (fun _ => k1) (fun q => absurd (le_of_nlt (by simpa [icond] using hc)) q)
    | gt => exact lv_if_gt X.1 X.2.1 hd ht (fun _ => k1) (fun q => absurd (of_decide_eq_true hc) q)
    | le => exact lv_if_le X.1 X.2.1 hd ht (fun _ => k1) (fun q => absurd (le_of_nlt (by simpa [icond] using hc)) q)
  · rw [if_neg hc]
    refine ⟨rfl, rfl, fun H locs ls cells slots hC hS hl kk => ?_⟩
    have k1 := kk H locs ls hC hS hl
    cases op with
    | eq => exact lv_if_eq X.1 X.2.1 hd ht (fun q => absurd (decide_eq_true q) hc) (fun _ => k1)
    | ne => exact lv_if_ne X.1 X.2.1 hd ht (fun q => absurd (by simp [icond, q]) hc) (fun _ => k1)
    | lt => exact lv_if_lt X.1 X.2.1 hd ht (fun q => absurd (decide_eq_true q) hc) (fun _ => k1)
    | ge => exact lv_if_ge X.1 X.2.1 hd ht (fun q => absurd (by simp only [icond, decide_eq_false (nlt_of_le q), Bool.not_false]) hc) (fun _ => k1)
    | gt => exact lv_if_gt X.1 X.2.1 hd ht (fun q => absurd (decide_eq_true q) hc) (fun _ => k1)
    | le => exact lv_if_le X.1 X.2.1 hd ht (fun q => absurd (by simp only [icond, decide_eq_false (nlt_of_le q), Bool.not_false]) hc) (fun _ => k1)
theorem ns_icmp (X : Ctx p s mid args meth c D ad dA base b0 Ls xs m) {op : Jvm.ClassFile.Cond} {off : Int} {x y : Int32} {S' : List Value} (h0 : 0 ≤ (pc : Int) + off) (hlen : len = 3) (hd : decode (mC m) pc = .ok (.if_icmp op off, len)) : NS p l e Rm s mid args below meth c Q D ad dA base Ls xs m pc L (.int y :: .int x :: S') M (if icond op x y = true then (tgt pc off, L, S', M) else (pc + 3, L, S', M)) := by
  subst hlen
  have ht := tgt_at h0
  by_cases hc : icond op x y = true
  · rw [if_pos hc]
    refine ⟨rfl, rfl, fun H locs ls cells slots hC hS hl kk => ?_⟩
    have k1 := kk H locs ls hC hS hl
    cases op with
    | eq => exact lv_icmp_eq X.1 X.2.1 hd ht (fun _ => k1) (fun q => absurd (of_decide_eq_true hc) q)
    | ne => exact lv_icmp_ne X.1 X.2.1 hd ht (fun _ => k1) (fun q => by simp [icond, q] at hc)
    | lt => exact lv_icmp_lt X.1 X.2.1 hd ht (fun _ => k1) (fun q => absurd (of_decide_eq_true hc) q)
    | ge => exact lv_icmp_ge X.1 X.2.1 hd ht (fun _ => k1) (fun q => absurd (le_of_nlt (by simpa [icond] using hc)) q)
    | gt => exact lv_icmp_gt X.1 X.2.1 hd ht (fun _ => k1) (fun q => absurd (of_decide_eq_true hc) q)
    | le => exact lv_icmp_le X.1 X.2.1 hd ht (fun _ => k1) (fun q => absurd (le_of_nlt (by simpa [icond] using hc)) q)
  · rw [if_neg hc]
    refine ⟨rfl, rfl, fun H locs ls cells slots hC hS hl kk => ?_⟩
    have k1 := kk H locs ls hC hS hl
    cases op with
    | eq => exact lv_icmp_eq X.1 X.2.1 hd ht (fun q => absurd (decide_eq_true q) hc) (fun _ => k1)
    | ne => exact lv_icmp_ne X.1 X.2.1 hd ht (fun q => absurd (by simp [icond, q]) hc) (fun _ => k1)
    | lt => exact lv_icmp_lt X.1 X.2.1 hd ht (fun q => absurd (decide_eq_true q) hc) (fun _ => k1)
    | ge => exact lv_icmp_ge X.1 X.2.1 hd ht (fun q => absurd (by simp only [icond, decide_eq_false (nlt_of_le q), Bool.not_false]) hc) (fun _ => k1)
    | gt => exact lv_icmp_gt X.1 X.2.1 hd ht (fun q => absurd (decide_eq_true q) hc) (fun _ => k1)
    | le => exact lv_icmp_le X.1 X.2.1 hd ht (fun q => absurd (by simp only [icond, decide_eq_false (nlt_of_le q), Bool.not_false]) hc) (fun _ => k1)
theorem ns_ifnull_N (X : Ctx p s mid args meth c D ad dA base b0 Ls xs m) {off : Int} {t : Nat} {S' : List Value} (ht : (pc : Int) + off = (t : Int)) (hlen : len = 3) (hd : decode (mC m) pc = .ok (.ifnull off, len)) : NS p l e Rm s mid args below meth c Q D ad dA base Ls xs m pc L (.null :: S') M (t, L, S', M) := by
  subst hlen
  exact ⟨rfl, rfl, fun H locs ls cells slots hC hS hl kk => lv_ifnullN X.1 X.2.1 hd ht (kk H locs ls hC hS hl)⟩
theorem ns_ifnull_R (X : Ctx p s mid args meth c D ad dA base b0 Ls xs m) {off : Int} {a : Nat} {S' : List Value} (hlen : len = 3) (hd : decode (mC m) pc = .ok (.ifnull off, len)) : NS p l e Rm s mid args below meth c Q D ad dA base Ls xs m pc L (.ref a :: S') M (pc + 3, L, S', M) := by
  subst hlen
  exact ⟨rfl, rfl, fun H locs ls cells slots hC hS hl kk => lv_ifnull X.1 X.2.1 hd (kk H locs ls hC hS hl)⟩
theorem ns_ifnonnull_R (X : Ctx p s mid args meth c D ad dA base b0 Ls xs m) {off : Int} {t a : Nat} {S' : List Value} (ht : (pc : Int) + off = (t : Int)) (hlen : len = 3) (hd : decode (mC m) pc = .ok (.ifnonnull off, len)) : NS p l e Rm s mid args below meth c Q D ad dA base Ls xs m pc L (.ref a :: S') M (t, L, S', M) := by
  subst hlen
  exact ⟨rfl, rfl, fun H locs ls cells slots hC hS hl kk => lv_ifnonnull X.1 X.2.1 hd ht (kk H locs ls hC hS hl)⟩
theorem ns_ifnonnull_N (X : Ctx p s mid args meth c D ad dA base b0 Ls xs m) {off : Int} {S' : List Value} (hlen : len = 3) (hd : decode (mC m) pc = .ok (.ifnonnull off, len)) : NS p l e Rm s mid args below meth c Q D ad dA base Ls xs m pc L (.null :: S') M (pc + 3, L, S', M) := by
  subst hlen
  exact ⟨rfl, rfl, fun H locs ls cells slots hC hS hl kk => lv_ifnonnullN X.1 X.2.1 hd (kk H locs ls hC hS hl)⟩
theorem ns_tabOut (X : Ctx p s mid args meth c D ad dA base b0 Ls xs m) {df lo hi : Int} {offs : Array Int} {x : Int32} {t : Nat} {S' : List Value} (h : x.toInt < lo ∨ hi < x.toInt) (ht : (pc : Int) + df = (t : Int)) (hd : decode (mC m) pc = .ok (.tableswitch df lo hi offs, len)) : NS p l e Rm s mid args below meth c Q D ad dA base Ls xs m pc L (.int x :: S') M (t, L, S', M) :=
  ⟨rfl, rfl, fun H locs ls cells slots hC hS hl kk => lv_tableOut X.1 X.2.1 hd h ht (kk H locs ls hC hS hl)⟩
theorem ns_tabIn (X : Ctx p s mid args meth c D ad dA base b0 Ls xs m) {df lo hi off : Int} {offs : Array Int} {x : Int32} {t : Nat} {S' : List Value} (h : ¬ (x.toInt < lo ∨ hi < x.toInt)) (ho : offs[(x.toInt - lo).toNat]? = some off) (ht : (pc : Int) + off = (t : Int)) (hd : decode (mC m) pc = .ok (.tableswitch df lo hi offs, len)) : NS p l e Rm s mid args below meth c Q D ad dA base Ls xs m pc L (.int x :: S') M (t, L, S', M) :=
  ⟨rfl, rfl, fun H locs ls cells slots hC hS hl kk => lv_tableIn X.1 X.2.1 hd (fun q => h (Or.inl q)) (fun q => h (Or.inr q)) ho ht (kk H locs ls hC hS hl)⟩
theorem isIE_shape {cc : PE} (h : isIE cc = true) : ∃ t n f, cc = pI t n f ∧ (t = 0 ∨ t = 1 ∨ t = 9) := by
  match cc with
  | .inl (t, n, f) =>
    simp only [isIE, Bool.or_eq_true, beq_iff_eq] at h
    exact ⟨t, n, f, rfl, by omega⟩
  | .inr (.inl _) => cases h
  | .inr (.inr _) => cases h
theorem isRE_shape {cc : PE} (h : isRE cc = true) : ∃ t n f, cc = pR t n f ∧ tagOk t = true := by
  match cc with
  | .inl _ => cases h
  | .inr (.inl (t, n, f)) => exact ⟨t, n, f, rfl, h⟩
  | .inr (.inr _) => cases h
theorem isO_shape {cc : PE} {ci : Nat} (h : isO cc ci = true) : ∃ fs, cc = pO ci fs := by
  match cc with
  | .inl _ => cases h
  | .inr (.inl _) => cases h
  | .inr (.inr (k, fs)) =>
    simp only [isO, beq_iff_eq] at h
    subst h
    exact ⟨fs, rfl⟩
theorem ns_iaload (X : Ctx p s mid args meth c D ad dA base b0 Ls xs m) {i : Int32} {a : Nat} {S' : List Value} (hlen : len = 1) (hg : gI (rd M a) i = true) (hd : decode (mC m) pc = .ok (.iaload, len)) : NS p l e Rm s mid args below meth c Q D ad dA base Ls xs m pc L (.int i :: .ref a :: S') M (pc + 1, L, .int (datI (rd M a) i.toNatClampNeg) :: S', M) := by
  subst hlen
  refine ⟨rfl, rfl, fun H locs ls cells slots hC hS hl kk => ?_⟩
  have k1 := kk H locs ls hC hS hl
  obtain ⟨hx, hb, hml, hown, hts, hK, hX, hbs, hG, hct⟩ := X
  simp only [gI, Bool.and_eq_true] at hg
  obtain ⟨⟨h1, h2⟩, h3⟩ := hg
  by_cases h0 : a = 0
  · subst h0
    have e0 : rd M 0 = pI 9 Ls xs := hC.2.2.1
    rw [e0] at k1 h3
    have hb0 : ad 0 = b0 := hG.1
    show W p l e Rm s mid args below meth c H locs cells slots Q (F0 mid pc ls (.int i :: .ref (ad 0) :: S'.map (rl ad)))
    rw [hb0]
    exact va_sld hx hb hX (Nat.lt_of_lt_of_le hG.2.1 hbs) (by have := hG.2.1; omega) hS (inb_in h3) hd k1
  · obtain ⟨t, n, f, ec, ht⟩ := isIE_shape h1
    obtain ⟨l1, l2⟩ := live_I hC h1 h0
    have hw := WS_get (ad := ad) (dA := dA) l1 l2
    rw [ec] at hw k1 h2 h3
    have hty : ∃ k : Nat, (tysL dA)[k]? = some (dA t, FieldType.int) := by
      simp only [tagE, Bool.or_eq_true, beq_iff_eq] at h2
      rcases h2 with h2 | h2
      · subst h2; exact ⟨0, rfl⟩
      · subst h2; exact ⟨2, rfl⟩
    obtain ⟨k, hk⟩ := hty
    exact va_iald hx hb hK hC.2.1 (a - 1) k hw hk (inb_in h3) hd k1
theorem refV_rl (o : Option Nat) : rl ad (refV o) = va_rf (o.map ad) := by cases o <;> rfl
theorem ns_aaload (X : Ctx p s mid args meth c D ad dA base b0 Ls xs m) {i : Int32} {a : Nat} {S' : List Value} (hlen : len = 1) (hg : gR (rd M a) i = true) (hd : decode (mC m) pc = .ok (.aaload, len)) : NS p l e Rm s mid args below meth c Q D ad dA base Ls xs m pc L (.int i :: .ref a :: S') M (pc + 1, L, refV (datR (rd M a) i.toNatClampNeg) :: S', M) := by
  subst hlen
  refine ⟨rfl, rfl, fun H locs ls cells slots hC hS hl kk => ?_⟩
  have k1 := kk H locs ls hC hS hl
  obtain ⟨hx, hb, hml, hown, hts, hK, hX, hbs, hG, hct⟩ := X
  simp only [gR, Bool.and_eq_true] at hg
  obtain ⟨h1, h3⟩ := hg
  obtain ⟨l1, l2⟩ := live_R hC h1
  obtain ⟨t, n, f, ec, ht⟩ := isRE_shape h1
  have hw := WS_get (ad := ad) (dA := dA) l1 l2
  rw [ec] at hw k1 h3
  obtain ⟨k, hk⟩ := tys_tag (dA := dA) ht
  refine va_aldq hx hb hK hC.2.1 (a - 1) k hw hk (inb_in h3) hd ?_
  rw [List.map_cons, refV_rl] at k1
  exact k1
theorem ns_iastore (X : Ctx p s mid args meth c D ad dA base b0 Ls xs m) {i x : Int32} {a : Nat} {S' : List Value} (hlen : len = 1) (hg : gI0 (rd M a) i = true) (hd : decode (mC m) pc = .ok (.iastore, len)) : NS p l e Rm s mid args below meth c Q D ad dA base Ls xs m pc L (.int x :: .int i :: .ref a :: S') M (pc + 1, L, S', wr M a (setI (rd M a) i.toNatClampNeg x)) := by
  subst hlen
  refine ⟨rfl, rfl, fun H locs ls cells slots hC hS hl kk => ?_⟩
  obtain ⟨hx, hb, hml, hown, hts, hK, hX, hbs, hG, hct⟩ := X
  simp only [gI0, Bool.and_eq_true, beq_iff_eq] at hg
  obtain ⟨⟨h1, h2⟩, h3⟩ := hg
  obtain ⟨l1, l2⟩ := live_I hC h1 (tag9_ne hC (by omega))
  obtain ⟨t, n, f, ec, ht⟩ := isIE_shape h1
  have hw := WS_get (ad := ad) (dA := dA) l1 l2
  rw [ec] at hw h2 h3 kk
  cases h2
  refine va_iast hx hb hK hC.2.1 (WS_D hG) hS (a - 1) 0 hw rfl (inb_in h3) hd (fun H1 locs1 hP hD hS1 => kk H1 locs1 ls (Cor_wr hC l1 l2 ?_) hS1 hl)
  rw [← WS_set l1 l2]
  exact hP
theorem ns_aastore (X : Ctx p s mid args meth c D ad dA base b0 Ls xs m) {i : Int32} {v a : Nat} {S' : List Value} (hlen : len = 1) (hg : gR (rd M a) i = true) (hv : isO (rd M v) (tagC (tagE (rd M a))) = true) (hd : decode (mC m) pc = .ok (.aastore, len)) : NS p l e Rm s mid args below meth c Q D ad dA base Ls xs m pc L (.ref v :: .int i :: .ref a :: S') M (pc + 1, L, S', wr M a (setR (rd M a) i.toNatClampNeg v)) := by
  subst hlen
  refine ⟨rfl, rfl, fun H locs ls cells slots hC hS hl kk => ?_⟩
  obtain ⟨hx, hb, hml, hown, hts, hK, hX, hbs, hG, hct⟩ := X
  simp only [gR, Bool.and_eq_true] at hg
  obtain ⟨h1, h3⟩ := hg
  obtain ⟨l1, l2⟩ := live_R hC h1
  obtain ⟨t, n, f, ec, ht⟩ := isRE_shape h1
  have hw := WS_get (ad := ad) (dA := dA) l1 l2
  rw [ec] at hw h3 kk hv
  have hci := (arr_at.2.2 t ht).2
  obtain ⟨v1, v2⟩ := live_O hC hv hci
  obtain ⟨fs, ev⟩ := isO_shape hv
  have hwv := WS_get (ad := ad) (dA := dA) v1 v2
  rw [ev] at hwv
  obtain ⟨k, hk⟩ := tys_tag (dA := dA) ht
  refine va_astq hx hb hK hC.2.1 (WS_D hG) hS (a - 1) k (v - 1) (tagC t) hw hk hwv (cls_at hci) (inb_in h3) hd (fun H1 locs1 hP hD hS1 => kk H1 locs1 ls (Cor_wr hC l1 l2 ?_) hS1 hl)
  rw [← WS_set l1 l2]
  have ef : (fun j => (va_up f i.toNatClampNeg (some v) j).map ad) = va_up (fun j => (f j).map ad) i.toNatClampNeg (some (ad v)) := by
    funext j
    unfold va_up
    split <;> rfl
  show va_P D cls ((WS ad dA M).set (a - 1) (ad a, .inl (dA t, (n, .inr (.inr (.inr (.inr (fun j => (va_up f i.toNatClampNeg (some v) j).map ad)))))))) H1
  rw [ef]
  exact hP
theorem ns_alen (X : Ctx p s mid args meth c D ad dA base b0 Ls xs m) {a : Nat} {S' : List Value} (hlen : len = 1) (hg : (isIE (rd M a) || isRE (rd M a)) = true) (hd : decode (mC m) pc = .ok (.arraylength, len)) : NS p l e Rm s mid args below meth c Q D ad dA base Ls xs m pc L (.ref a :: S') M (pc + 1, L, .int (Int32.ofNat (lenE (rd M a))) :: S', M) := by
  subst hlen
  refine ⟨rfl, rfl, fun H locs ls cells slots hC hS hl kk => ?_⟩
  have k1 := kk H locs ls hC hS hl
  obtain ⟨hx, hb, hml, hown, hts, hK, hX, hbs, hG, hct⟩ := X
  by_cases h0 : a = 0
  · subst h0
    have e0 : rd M 0 = pI 9 Ls xs := hC.2.2.1
    rw [e0] at k1
    have hb0 : ad 0 = b0 := hG.1
    show W p l e Rm s mid args below meth c H locs cells slots Q (F0 mid pc ls (.ref (ad 0) :: S'.map (rl ad)))
    rw [hb0]
    exact va_slen hx hb hX (Nat.lt_of_lt_of_le hG.2.1 hbs) (by have := hG.2.1; omega) hS hd k1
  · rw [Bool.or_eq_true] at hg
    rcases hg with h1 | h1
    · obtain ⟨l1, l2⟩ := live_I hC h1 h0
      obtain ⟨t, n, f, ec, ht⟩ := isIE_shape h1
      have hw := WS_get (ad := ad) (dA := dA) l1 l2
      rw [ec] at hw k1
      rcases ht with rfl | rfl | rfl
      · exact va_alen hx hb hK hC.2.1 (a - 1) 0 hw rfl rfl hd k1
      · exact va_alen hx hb hK hC.2.1 (a - 1) 1 hw rfl rfl hd k1
      · exact va_alen hx hb hK hC.2.1 (a - 1) 2 hw rfl rfl hd k1
    · obtain ⟨l1, l2⟩ := live_R hC h1
      obtain ⟨t, n, f, ec, ht⟩ := isRE_shape h1
      have hw := WS_get (ad := ad) (dA := dA) l1 l2
      rw [ec] at hw k1
      obtain ⟨k, hk⟩ := tys_tag (dA := dA) ht
      exact va_alen hx hb hK hC.2.1 (a - 1) k hw hk rfl hd k1
end
