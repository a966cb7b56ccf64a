/-! THE TIE, 1: what the tables' words say of the pure machine's tables -/
def TB : List Jvm.Cond := lw_tbl.filter goodWord
def chkW (w : Jvm.Cond) (i : Nat) : Bool := decide (lw_tbl[i]? = some w) && goodWord w
theorem chkW_in {w : Jvm.Cond} {i : Nat} (h : chkW w i = true) : w ∈ TB := by
  unfold chkW at h
  rw [Bool.and_eq_true] at h
  exact List.mem_filter.mpr ⟨List.mem_of_getElem? (of_decide_eq_true h.1), h.2⟩
def isNest : Jvm.Cond → Bool
  | .fieldLinkNest .. => true
  | .methodLinkNest .. => true
  | _ => false
/-- the links within a nest -/
def NB : List Jvm.Cond := lw_tbl.filter isNest
def chkN (w : Jvm.Cond) (i : Nat) : Bool := decide (lw_tbl[i]? = some w) && isNest w
theorem chkN_in {w : Jvm.Cond} {i : Nat} (h : chkN w i = true) : w ∈ NB := by
  unfold chkN at h
  rw [Bool.and_eq_true] at h
  exact List.mem_filter.mpr ⟨List.mem_of_getElem? (of_decide_eq_true h.1), h.2⟩
theorem TB_good {w : Jvm.Cond} (h : w ∈ TB) : (w.onTables && w.keeps) = true ∨ ∃ ty, w = .arrayClass ty := good_of_word (List.mem_filter.mp h).2
def Nn (c : Nat) : Nat := NL.getD c 0
theorem lookup_mem {β : Type} : ∀ (l : List (Nat × β)) (k : Nat) (v : β), l.lookup k = some v → (k, v) ∈ l := by
  intro l
  induction l with
  | nil => intro k v h; simp at h
  | cons q l ih =>
    intro k v h
    obtain ⟨a, b⟩ := q
    rw [List.lookup_cons] at h
    by_cases hk : k = a
    · subst hk
      simp at h
      subst h
      exact List.mem_cons_self
    · have : (k == a) = false := by simpa using hk
      rw [this] at h
      exact List.mem_cons_of_mem _ (ih k v h)
def wF (e : Nat × Nat × Nat × Bool × Nat) : Jvm.Cond := match e.2.2.2.1 with
  | true => .fieldLinkNest (RNm (e.1 / 1000)) (e.1 % 1000) (RNm e.2.1) (Tm e.2.1 e.2.2.1).2.1 (Tm e.2.1 e.2.2.1).2.2.1 "RindDates"
  | false => .fieldLink (RNm (e.1 / 1000)) (e.1 % 1000) (RNm e.2.1) (Tm e.2.1 e.2.2.1).2.1 (Tm e.2.1 e.2.2.1).2.2.1
def chkF (e : Nat × Nat × Nat × Bool × Nat) : Bool := (if e.2.2.2.1 = true then chkN (wF e) e.2.2.2.2 else chkW (wF e) e.2.2.2.2) && (decide ((Tm e.2.1 e.2.2.1).1 = RNm e.2.1) && (decide (e.2.2.1 < Nn e.2.1) && (decide (e.2.1 < 10) && (!e.2.2.2.1 || !decide (e.2.1 = e.1 / 1000)))))
theorem fldL_ok : fldL.all chkF = true := by decide +kernel
theorem fldT_ok {o i ci k : Nat} {b : Bool} (h : fldT o i = some (ci, k, b)) :
    (b = true → Jvm.Cond.fieldLinkNest (RNm o) i (RNm ci) (Tm ci k).2.1 (Tm ci k).2.2.1 "RindDates" ∈ NB) ∧ (b = false → Jvm.Cond.fieldLink (RNm o) i (RNm ci) (Tm ci k).2.1 (Tm ci k).2.2.1 ∈ TB) ∧ (Tm ci k).1 = RNm ci ∧ k < Nn ci ∧ ci < 10 ∧ (b = true → ci ≠ o) := by
  unfold fldT at h
  split at h
  · cases h
  · rename_i hi
    obtain ⟨e, he, hh⟩ := Option.map_eq_some_iff.mp h
    have hm := lookup_mem _ _ _ he
    have hc := List.all_eq_true.mp fldL_ok _ hm
    obtain ⟨e1, e2, e3, e4⟩ := e
    simp only [Prod.mk.injEq] at hh
    obtain ⟨rfl, rfl, rfl⟩ := hh
    have k1 : (o * 1000 + i) / 1000 = o := by omega
    have k2 : (o * 1000 + i) % 1000 = i := by omega
    simp only [chkF, wF, k1, k2, Bool.and_eq_true, Bool.or_eq_true, Bool.not_eq_true', decide_eq_true_eq, decide_eq_false_iff_not] at hc
    obtain ⟨c1, c2, c3, c4, c5⟩ := hc
    refine ⟨fun hb => ?_, fun hb => ?_, c2, c3, c4, fun hb => ?_⟩
    · subst hb
      rw [if_pos rfl] at c1
      exact chkN_in c1
    · subst hb
      rw [if_neg (by simp)] at c1
      exact chkW_in c1
    · subst hb
      rcases c5 with c5 | c5
      · cases c5
      · exact c5
def wM (e : Nat × Nat × Nat × Nat) : Jvm.Cond := match e.2.2.1 with
  | 0 => .methodLink (RNm (e.1 / 1000)) (e.1 % 1000) (mY e.2.1)
  | 1 => .methodLinkNest (RNm (e.1 / 1000)) (e.1 % 1000) (mY e.2.1) "RindDates"
  | 2 => .methodLink (RNm (e.1 / 1000)) (e.1 % 1000) (mY e.2.1)
  | 3 => .methodLinkNest (RNm (e.1 / 1000)) (e.1 % 1000) (mY e.2.1) "RindDates"
  | 4 => .methodLink (RNm (e.1 / 1000)) (e.1 % 1000) (mY e.2.1)
  | 5 => .methodLinkNest (RNm (e.1 / 1000)) (e.1 % 1000) (mY e.2.1) "RindDates"
  | 6 => .methodLink (RNm (e.1 / 1000)) (e.1 % 1000) objectInit
  | _ => .methodLink (RNm (e.1 / 1000)) (e.1 % 1000) arraycopyName
def psel (m : Nat) : Nat := (mrec m).2.2.2.2.2.2.2.2.2.2.2
def odd5 (k : Nat) : Bool := k == 1 || k == 3 || k == 5
def chkM (e : Nat × Nat × Nat × Nat) : Bool := (if odd5 e.2.2.1 = true then chkN (wM e) e.2.2.2 else chkW (wM e) e.2.2.2) && (decide (e.2.1 < 142) && (decide (e.2.2.1 ≤ 7) && ((!decide (e.2.2.1 < 2) || (chkW (.selects (mY e.2.1).cls (mY e.2.1) (mY e.2.1)) (psel e.2.1) && decide (mO e.2.1 < 10))) && (!(decide (e.2.2.1 = 4) || decide (e.2.2.1 = 5)) || (decide ((mY e.2.1).name = "<init>") && decide (mR e.2.1 = none))))))
theorem mthL_ok : mthL.all chkM = true := by decide +kernel
theorem mthT_ok {o i m kd : Nat} (h : mthT o i = some (m, kd)) : (odd5 kd = true → wM (o * 1000 + i, m, kd, 0) ∈ NB) ∧ (odd5 kd = false → wM (o * 1000 + i, m, kd, 0) ∈ TB) ∧ (o * 1000 + i) / 1000 = o ∧ (o * 1000 + i) % 1000 = i ∧ m < 142 ∧ kd ≤ 7 ∧ (kd < 2 → Jvm.Cond.selects (mY m).cls (mY m) (mY m) ∈ TB ∧ mO m < 10) ∧ (kd = 4 ∨ kd = 5 → (mY m).name = "<init>" ∧ mR m = none) := by
  unfold mthT at h
  split at h
  · cases h
  · rename_i hi
    obtain ⟨e, he, hh⟩ := Option.map_eq_some_iff.mp h
    have hm := lookup_mem _ _ _ he
    have hc := List.all_eq_true.mp mthL_ok _ hm
    obtain ⟨e1, e2, e3⟩ := e
    simp only [Prod.mk.injEq] at hh
    obtain ⟨rfl, rfl⟩ := hh
    simp only [chkM, Bool.and_eq_true, Bool.or_eq_true, Bool.not_eq_true', decide_eq_true_eq, decide_eq_false_iff_not, Bool.or_eq_false_iff] at hc
    obtain ⟨c1, c2, c3, c4, c5⟩ := hc
    refine ⟨fun hb => ?_, fun hb => ?_, by omega, by omega, c2, c3, fun h => ?_, fun h => ?_⟩
    · rw [if_pos hb] at c1; exact chkN_in c1
    · rw [if_neg (by rw [hb]; simp)] at c1; exact chkW_in c1
    · rcases c4 with c4 | c4
      · exact absurd h c4
      · exact ⟨chkW_in c4.1, c4.2⟩
    · rcases c5 with c5 | c5
      · rcases h with h | h
        · exact absurd h c5.1
        · exact absurd h c5.2
      · exact c5
def retOk (m : Nat) : Bool := match mK m with
  | 0 => decide (mR m = none)
  | 1 => decide (mR m = some .int)
  | 2 => decide (mR m = some .boolean)
  | 3 => decide (mR m = some .long)
  | _ => match mR m with
    | some (.object _) => true
    | _ => false
def chkT (m : Nat) : Bool := retOk m && decide (mL m ≤ 45)
theorem T_ok : (List.range 143).all chkT = true := by decide +kernel
def chkMt (m : Nat) : Bool :=
  (chkW (.initialized (mY m).cls) (mrec m).2.2.2.2.2.2.2.2.2.1 && (chkW (if mS m = true then .static (mY m) else .instanceMethod (mY m)) (mrec m).2.2.2.2.2.2.2.2.2.2.1 &&
  ((m == iJ9_max_7cf53 || m == iJ9_min_7cf53 || plainName (mY m).cls) && (decide ((mY m).cls = RNm (mO m)) && (decide ((mY m).cls ≠ "java/lang/invoke/MethodHandle" ∧ (mY m).cls ≠ "java/lang/invoke/VarHandle") && decide ((parseMethodDescriptor (mY m).desc).map (fun d => d.parameters.length) = some (mN m - (if mS m = true then 0 else 1))))))))
theorem Mt_ok : (List.range 142).all chkMt = true := by decide +kernel
theorem Mt_at {m : Nat} (h : m < 142) : Jvm.Cond.initialized (mY m).cls ∈ TB ∧ (if mS m = true then Jvm.Cond.static (mY m) else Jvm.Cond.instanceMethod (mY m)) ∈ TB ∧ (m ≠ iJ9_max_7cf53 → m ≠ iJ9_min_7cf53 → plainName (mY m).cls = true) ∧ (mY m).cls = RNm (mO m) ∧ ((mY m).cls ≠ "java/lang/invoke/MethodHandle" ∧ (mY m).cls ≠ "java/lang/invoke/VarHandle") ∧ (parseMethodDescriptor (mY m).desc).map (fun d => d.parameters.length) = some (mN m - (if mS m = true then 0 else 1)) := by
  have hc := List.all_eq_true.mp Mt_ok m (List.mem_range.mpr h)
  unfold chkMt at hc
  simp only [Bool.and_eq_true] at hc
  obtain ⟨c2, c3, c4, c5, c6, c7⟩ := hc
  refine ⟨chkW_in c2, chkW_in c3, fun h1 h2 => ?_, of_decide_eq_true c5, of_decide_eq_true c6, of_decide_eq_true c7⟩
  simp only [Bool.or_eq_true, beq_iff_eq] at c4
  rcases c4 with (c4 | c4) | c4
  · exact absurd c4 h1
  · exact absurd c4 h2
  · exact c4
theorem T_at {m : Nat} (h : m < 143) : retOk m = true ∧ mL m ≤ 45 := by
  have hc := List.all_eq_true.mp T_ok m (List.mem_range.mpr h)
  unfold chkT at hc
  rw [Bool.and_eq_true] at hc
  exact ⟨hc.1, of_decide_eq_true hc.2⟩
def chkC (e : Nat × Nat × Nat) : Bool := chkW (.classLink (RNm (e.1 / 1000)) (e.1 % 1000) (RNm e.2.1)) e.2.2 && decide (e.2.1 < 10)
theorem clsL_ok : clsL.all chkC = true := by decide +kernel
theorem clsT_ok {o i ci : Nat} (h : clsT o i = some ci) : Jvm.Cond.classLink (RNm o) i (RNm ci) ∈ TB ∧ ci < 10 := by
  unfold clsT at h
  split at h
  · cases h
  · rename_i hi
    obtain ⟨e, he, hh⟩ := Option.map_eq_some_iff.mp h
    have hc := List.all_eq_true.mp clsL_ok _ (lookup_mem _ _ _ he)
    obtain ⟨e1, e2⟩ := e
    cases hh
    unfold chkC at hc
    rw [Bool.and_eq_true] at hc
    have hw := chkW_in hc.1
    have k1 : (o * 1000 + i) / 1000 = o := by omega
    have k2 : (o * 1000 + i) % 1000 = i := by omega
    simp only [k1, k2] at hw
    exact ⟨hw, of_decide_eq_true hc.2⟩
def chkA (e : Nat × Nat × Nat) : Bool := chkW (.classLink (RNm (e.1 / 1000)) (e.1 % 1000) (RNm (tagC e.2.1))) e.2.2 && tagOk e.2.1
theorem aclL_ok : aclL.all chkA = true := by decide +kernel
theorem aclT_ok {o i t : Nat} (h : aclT o i = some t) : Jvm.Cond.classLink (RNm o) i (RNm (tagC t)) ∈ TB ∧ tagOk t = true := by
  unfold aclT at h
  split at h
  · cases h
  · rename_i hi
    obtain ⟨e, he, hh⟩ := Option.map_eq_some_iff.mp h
    have hc := List.all_eq_true.mp aclL_ok _ (lookup_mem _ _ _ he)
    obtain ⟨e1, e2⟩ := e
    cases hh
    unfold chkA at hc
    rw [Bool.and_eq_true] at hc
    have hw := chkW_in hc.1
    have k1 : (o * 1000 + i) / 1000 = o := by omega
    have k2 : (o * 1000 + i) % 1000 = i := by omega
    simp only [k1, k2] at hw
    exact ⟨hw, hc.2⟩
def chkI (e : Nat × Int32 × Nat) : Bool := chkW (.constant (RNm (e.1 / 1000)) (e.1 % 1000) e.2.1) e.2.2
theorem ldcL_ok : ldcL.all chkI = true := by decide +kernel
theorem ldcT_ok {o i : Nat} {v : Int32} (h : ldcT o i = some v) : Jvm.Cond.constant (RNm o) i v ∈ TB := by
  unfold ldcT at h
  split at h
  · cases h
  · rename_i hi
    obtain ⟨e, he, hh⟩ := Option.map_eq_some_iff.mp h
    have hc := List.all_eq_true.mp ldcL_ok _ (lookup_mem _ _ _ he)
    obtain ⟨e1, e2⟩ := e
    cases hh
    have hw := chkW_in hc
    have k1 : (o * 1000 + i) / 1000 = o := by omega
    have k2 : (o * 1000 + i) % 1000 = i := by omega
    simp only [k1, k2] at hw
    exact hw
def chkJ (e : Nat × Int64 × Nat) : Bool := chkW (.constantLong (RNm (e.1 / 1000)) (e.1 % 1000) e.2.1) e.2.2
theorem ldlL_ok : ldlL.all chkJ = true := by decide +kernel
theorem ldlT_ok {o i : Nat} {v : Int64} (h : ldlT o i = some v) : Jvm.Cond.constantLong (RNm o) i v ∈ TB := by
  unfold ldlT at h
  split at h
  · cases h
  · rename_i hi
    obtain ⟨e, he, hh⟩ := Option.map_eq_some_iff.mp h
    have hc := List.all_eq_true.mp ldlL_ok _ (lookup_mem _ _ _ he)
    obtain ⟨e1, e2⟩ := e
    cases hh
    have hw := chkW_in hc
    have k1 : (o * 1000 + i) / 1000 = o := by omega
    have k2 : (o * 1000 + i) % 1000 = i := by omega
    simp only [k1, k2] at hw
    exact hw
theorem cls_at {ci : Nat} (h : ci < 10) : cls[ci]? = some (RNm ci, Tm ci, Nn ci) := by
  match ci, h with
  | 0, _ => rfl
  | 1, _ => rfl
  | 2, _ => rfl
  | 3, _ => rfl
  | 4, _ => rfl
  | 5, _ => rfl
  | 6, _ => rfl
  | 7, _ => rfl
  | 8, _ => rfl
  | 9, _ => rfl
theorem lay_all : ((List.range 10).all fun ci => (u_ws (RNm ci) (Tm ci) (Nn ci)).all fun w => decide (w ∈ TB)) = true := by decide +kernel
theorem lay_in {ci : Nat} (h : ci < 10) : ∀ w ∈ u_ws (RNm ci) (Tm ci) (Nn ci), w ∈ TB := fun w hw => of_decide_eq_true (List.all_eq_true.mp (List.all_eq_true.mp lay_all ci (List.mem_range.mpr h)) w hw)
theorem ty_all : ((List.range 10).all fun ci => (List.range (Nn ci)).all fun k => decide (parseFieldDescriptor (Tm ci k).2.2.1 = some (fTy ci k)) && (decide (defaultValue (fTy ci k) = (defs ci).getD k .null) && (decide ((Tm ci k).1 = RNm ci) && (List.range (Nn ci)).all fun j => decide (k = j ∨ (Tm ci k).2.1 ≠ (Tm ci j).2.1)))) = true := by decide +kernel
theorem ty_at {ci k : Nat} (h : ci < 10) (hk : k < Nn ci) : parseFieldDescriptor (Tm ci k).2.2.1 = some (fTy ci k) ∧ defaultValue (fTy ci k) = (defs ci).getD k .null ∧ (Tm ci k).1 = RNm ci ∧ ∀ j, j < Nn ci → k ≠ j → (Tm ci k).2.1 ≠ (Tm ci j).2.1 := by
  have hc := List.all_eq_true.mp (List.all_eq_true.mp ty_all ci (List.mem_range.mpr h)) k (List.mem_range.mpr hk)
  simp only [Bool.and_eq_true, decide_eq_true_eq] at hc
  obtain ⟨c1, c2, c3, c4⟩ := hc
  refine ⟨c1, c2, c3, fun j hj hne => ?_⟩
  have := List.all_eq_true.mp c4 j (List.mem_range.mpr hj)
  simp only [decide_eq_true_eq] at this
  exact this.resolve_left hne
theorem new_all : ((List.range 10).all fun ci => decide (Jvm.Cond.instantiable (RNm ci) (Nn ci) ∈ TB) && (decide (Jvm.Cond.initialized (RNm ci) ∈ TB) && decide ((defs ci).length = Nn ci))) = true := by decide +kernel
theorem new_at {ci : Nat} (h : ci < 10) : Jvm.Cond.instantiable (RNm ci) (Nn ci) ∈ TB ∧ Jvm.Cond.initialized (RNm ci) ∈ TB ∧ (defs ci).length = Nn ci := by
  have hc := List.all_eq_true.mp new_all ci (List.mem_range.mpr h)
  simp only [Bool.and_eq_true, decide_eq_true_eq] at hc
  exact hc
theorem arr_all : (decide (Jvm.Cond.arrayClass .int ∈ TB) && (decide (Jvm.Cond.arrayClass .int ∈ TB) && ([10, 12, 15, 18].all fun t => decide (Jvm.Cond.arrayOver (.object (RNm (tagC t))) ∈ tables_1) && decide (tagC t < 10)))) = true := by decide +kernel
theorem arr_at : Jvm.Cond.arrayClass .int ∈ TB ∧ Jvm.Cond.arrayClass .int ∈ TB ∧ ∀ t, tagOk t = true → Jvm.Cond.arrayOver (.object (RNm (tagC t))) ∈ lw_tbl ∧ tagC t < 10 := by
  have hc := arr_all
  simp only [Bool.and_eq_true, decide_eq_true_eq] at hc
  refine ⟨hc.1, hc.2.1, fun t ht => ?_⟩
  have hm : t ∈ [10, 12, 15, 18] := by
    simp only [tagOk, Bool.or_eq_true, beq_iff_eq] at ht
    simp only [List.mem_cons, List.not_mem_nil, or_false]
    omega
  have := List.all_eq_true.mp hc.2.2 t hm
  simp only [Bool.and_eq_true, decide_eq_true_eq] at this
  exact ⟨List.mem_append_right _ this.1, this.2⟩
theorem obj_all : (decide (Jvm.Cond.instanceMethod objectInit ∈ TB) && (decide (Jvm.Cond.code objectInit ⟨#[0xb1]⟩ 1 none ∈ TB) && (decide (Jvm.Cond.native arraycopyName ∈ TB) && (decide (Jvm.Cond.static arraycopyName ∈ TB) && decide (Jvm.Cond.initialized "java/lang/System" ∈ TB))))) = true := by decide +kernel
theorem obj_at : Jvm.Cond.instanceMethod objectInit ∈ TB ∧ Jvm.Cond.code objectInit ⟨#[0xb1]⟩ 1 none ∈ TB ∧ Jvm.Cond.native arraycopyName ∈ TB ∧ Jvm.Cond.static arraycopyName ∈ TB ∧ Jvm.Cond.initialized "java/lang/System" ∈ TB := by
  have hc := obj_all
  simp only [Bool.and_eq_true, decide_eq_true_eq] at hc
  exact hc
def AllP (P : Nat → Prop) : Nat → Prop
  | 0 => True
  | n + 1 => AllP P n ∧ P n
theorem AllP_at {P : Nat → Prop} : ∀ {n : Nat}, AllP P n → ∀ m, m < n → P m := by
  intro n
  induction n with
  | zero => intro _ m hm; exact absurd hm (Nat.not_lt_zero m)
  | succ n ih =>
    intro h m hm
    rcases Nat.lt_or_ge m n with h1 | h1
    · exact ih h.1 m h1
    · have : m = n := by omega
      subst this
      exact h.2
def codeP (m : Nat) : Prop := Jvm.Cond.code (mY m) (mC m) (mL m) (mR m) ∈ TB
theorem codeOf {y : MethodName} {b : ByteArray} {n i : Nat} {r : Option FieldType} (h : lw_tbl[i]? = some (.code y b n r)) : Jvm.Cond.code y b n r ∈ TB := List.mem_filter.mpr ⟨List.mem_of_getElem? h, rfl⟩
theorem cp_X0_init : codeP iX0_init := codeOf cw_X0_init
theorem cp_X0_isMissing : codeP iX0_isMissing := codeOf cw_X0_isMissing
theorem cp_X0_hasRoom : codeP iX0_hasRoom := codeOf cw_X0_hasRoom
theorem cp_X0_add : codeP iX0_add := codeOf cw_X0_add
theorem cp_X0_takeFrom : codeP iX0_takeFrom := codeOf cw_X0_takeFrom
theorem cp_X1_init : codeP iX1_init := codeOf cw_X1_init
theorem cp_X1_isEmpty : codeP iX1_isEmpty := codeOf cw_X1_isEmpty
theorem cp_X1_wheelOf : codeP iX1_wheelOf := codeOf cw_X1_wheelOf
theorem cp_X1_keptOf : codeP iX1_keptOf := codeOf cw_X1_keptOf
theorem cp_X1_isSilentBy : codeP iX1_isSilentBy := codeOf cw_X1_isSilentBy
theorem cp_X1_begin : codeP iX1_begin := codeOf cw_X1_begin
theorem cp_X1_replay : codeP iX1_replay := codeOf cw_X1_replay
theorem cp_X1_enact : codeP iX1_enact := codeOf cw_X1_enact
theorem cp_X1_act : codeP iX1_act := codeOf cw_X1_act
theorem cp_X1_actOn : codeP iX1_actOn := codeOf cw_X1_actOn
theorem cp_X1_isOnShelf : codeP iX1_isOnShelf := codeOf cw_X1_isOnShelf
theorem cp_X1_tellOf : codeP iX1_tellOf := codeOf cw_X1_tellOf
theorem cp_X1_shelfBits : codeP iX1_shelfBits := codeOf cw_X1_shelfBits
theorem cp_X1_shelfRind : codeP iX1_shelfRind := codeOf cw_X1_shelfRind
theorem cp_X1_oldWheels : codeP iX1_oldWheels := codeOf cw_X1_oldWheels
theorem cp_X1_keptThere : codeP iX1_keptThere := codeOf cw_X1_keptThere
theorem cp_X1_digestFrom : codeP iX1_digestFrom := codeOf cw_X1_digestFrom
theorem cp_X2_init : codeP iX2_init := codeOf cw_X2_init
theorem cp_X2_get : codeP iX2_get := codeOf cw_X2_get
theorem cp_X2_set : codeP iX2_set := codeOf cw_X2_set
theorem cp_X2_takeFrom : codeP iX2_takeFrom := codeOf cw_X2_takeFrom
theorem cp_X2_total : codeP iX2_total := codeOf cw_X2_total
theorem cp_X2_passDay : codeP iX2_passDay := codeOf cw_X2_passDay
theorem cp_X2_raise : codeP iX2_raise := codeOf cw_X2_raise
theorem cp_X2_passDayWith : codeP iX2_passDayWith := codeOf cw_X2_passDayWith
theorem cp_X3_init : codeP iX3_init := codeOf cw_X3_init
theorem cp_X3_begin : codeP iX3_begin := codeOf cw_X3_begin
theorem cp_X3_howMany : codeP iX3_howMany := codeOf cw_X3_howMany
theorem cp_X3_advance : codeP iX3_advance := codeOf cw_X3_advance
theorem cp_X3_after : codeP iX3_after := codeOf cw_X3_after
theorem cp_X3_reckonFrom : codeP iX3_reckonFrom := codeOf cw_X3_reckonFrom
theorem cp_X3_lastAnger : codeP iX3_lastAnger := codeOf cw_X3_lastAnger
theorem cp_X3_firstSaid : codeP iX3_firstSaid := codeOf cw_X3_firstSaid
theorem cp_X3_sayings : codeP iX3_sayings := codeOf cw_X3_sayings
theorem cp_X3_mattersSaid : codeP iX3_mattersSaid := codeOf cw_X3_mattersSaid
theorem cp_X3_leadsBy : codeP iX3_leadsBy := codeOf cw_X3_leadsBy
theorem cp_X3_writeTo : codeP iX3_writeTo := codeOf cw_X3_writeTo
theorem cp_X4_init : codeP iX4_init := codeOf cw_X4_init
theorem cp_X4_read : codeP iX4_read := codeOf cw_X4_read
theorem cp_X4_skipBlanks : codeP iX4_skipBlanks := codeOf cw_X4_skipBlanks
theorem cp_X4_hasFigure : codeP iX4_hasFigure := codeOf cw_X4_hasFigure
theorem cp_X4_takeFigure : codeP iX4_takeFigure := codeOf cw_X4_takeFigure
theorem cp_X4_readBrothers : codeP iX4_readBrothers := codeOf cw_X4_readBrothers
theorem cp_X4_readLimit : codeP iX4_readLimit := codeOf cw_X4_readLimit
theorem cp_X4_readWheels : codeP iX4_readWheels := codeOf cw_X4_readWheels
theorem cp_X4_readWheel : codeP iX4_readWheel := codeOf cw_X4_readWheel
theorem cp_X4_kindBy : codeP iX4_kindBy := codeOf cw_X4_kindBy
theorem cp_X5_init : codeP iX5_init := codeOf cw_X5_init
theorem cp_X5_isMissing : codeP iX5_isMissing := codeOf cw_X5_isMissing
theorem cp_X5_renew : codeP iX5_renew := codeOf cw_X5_renew
theorem cp_X5_hasPlace : codeP iX5_hasPlace := codeOf cw_X5_hasPlace
theorem cp_X5_get : codeP iX5_get := codeOf cw_X5_get
theorem cp_X5_set : codeP iX5_set := codeOf cw_X5_set
theorem cp_X5_isWithin : codeP iX5_isWithin := codeOf cw_X5_isWithin
theorem cp_X5_digestFrom : codeP iX5_digestFrom := codeOf cw_X5_digestFrom
theorem cp_X6_init : codeP iX6_init := codeOf cw_X6_init
theorem cp_X6_fillFrom : codeP iX6_fillFrom := codeOf cw_X6_fillFrom
theorem cp_X6_filledBy : codeP iX6_filledBy := codeOf cw_X6_filledBy
theorem cp_X6_writeTo : codeP iX6_writeTo := codeOf cw_X6_writeTo
theorem cp_X7_init : codeP iX7_init := codeOf cw_X7_init
theorem cp_X7_refuse : codeP iX7_refuse := codeOf cw_X7_refuse
theorem cp_X7_tell : codeP iX7_tell := codeOf cw_X7_tell
theorem cp_X7_tellParts : codeP iX7_tellParts := codeOf cw_X7_tellParts
theorem cp_X7_commonPart : codeP iX7_commonPart := codeOf cw_X7_commonPart
theorem cp_X8_init : codeP iX8_init := codeOf cw_X8_init
theorem cp_X8_forget : codeP iX8_forget := codeOf cw_X8_forget
theorem cp_X8_isMade : codeP iX8_isMade := codeOf cw_X8_isMade
theorem cp_X8_rindBy : codeP iX8_rindBy := codeOf cw_X8_rindBy
theorem cp_X9_init : codeP iX9_init := codeOf cw_X9_init
theorem cp_X9_row : codeP iX9_row := codeOf cw_X9_row
theorem cp_X9_lay : codeP iX9_lay := codeOf cw_X9_lay
theorem cp_X9_at : codeP iX9_at := codeOf cw_X9_at
theorem cp_X9_text : codeP iX9_text := codeOf cw_X9_text
theorem cp_X9_put : codeP iX9_put := codeOf cw_X9_put
theorem cp_X9_farm : codeP iX9_farm := codeOf cw_X9_farm
theorem cp_X9_wheel : codeP iX9_wheel := codeOf cw_X9_wheel
theorem cp_X9_holds : codeP iX9_holds := codeOf cw_X9_holds
theorem cp_X9_anger : codeP iX9_anger := codeOf cw_X9_anger
theorem cp_X9_day : codeP iX9_day := codeOf cw_X9_day
theorem cp_X9_say : codeP iX9_say := codeOf cw_X9_say
theorem cp_X9_make : codeP iX9_make := codeOf cw_X9_make
theorem cp_X9_sell : codeP iX9_sell := codeOf cw_X9_sell
theorem cp_X9_undo : codeP iX9_undo := codeOf cw_X9_undo
theorem cp_X9_keep : codeP iX9_keep := codeOf cw_X9_keep
theorem cp_X9_on : codeP iX9_on := codeOf cw_X9_on
theorem cp_X9_peace : codeP iX9_peace := codeOf cw_X9_peace
theorem cp_X9_plan : codeP iX9_plan := codeOf cw_X9_plan
theorem cp_X9_through : codeP iX9_through := codeOf cw_X9_through
theorem cp_X9_about : codeP iX9_about := codeOf cw_X9_about
theorem cp_X9_sure : codeP iX9_sure := codeOf cw_X9_sure
theorem cp_X9_salts : codeP iX9_salts := codeOf cw_X9_salts
theorem cp_X9_kinds : codeP iX9_kinds := codeOf cw_X9_kinds
theorem cp_X9_test : codeP iX9_test := codeOf cw_X9_test
theorem cp_X9_shows : codeP iX9_shows := codeOf cw_X9_shows
theorem cp_X9_duel : codeP iX9_duel := codeOf cw_X9_duel
theorem cp_X9_odds : codeP iX9_odds := codeOf cw_X9_odds
theorem cp_X9_mid : codeP iX9_mid := codeOf cw_X9_mid
theorem cp_X9_lots : codeP iX9_lots := codeOf cw_X9_lots
theorem cp_X9_asked : codeP iX9_asked := codeOf cw_X9_asked
theorem cp_X9_upper : codeP iX9_upper := codeOf cw_X9_upper
theorem cp_X9_lower : codeP iX9_lower := codeOf cw_X9_lower
theorem cp_X9_count : codeP iX9_count := codeOf cw_X9_count
theorem cp_X9_digest : codeP iX9_digest := codeOf cw_X9_digest
theorem cp_X9_within : codeP iX9_within := codeOf cw_X9_within
theorem cp_X9_isMatter : codeP iX9_isMatter := codeOf cw_X9_isMatter
theorem cp_X9_rowOf : codeP iX9_rowOf := codeOf cw_X9_rowOf
theorem cp_X9_textOf : codeP iX9_textOf := codeOf cw_X9_textOf
theorem cp_X9_refusalOf : codeP iX9_refusalOf := codeOf cw_X9_refusalOf
theorem cp_X9_refusalOfPlace : codeP iX9_refusalOfPlace := codeOf cw_X9_refusalOfPlace
theorem cp_X9_isPlan : codeP iX9_isPlan := codeOf cw_X9_isPlan
theorem cp_X9_areChances : codeP iX9_areChances := codeOf cw_X9_areChances
theorem cp_X9_refusalOfAngers : codeP iX9_refusalOfAngers := codeOf cw_X9_refusalOfAngers
theorem cp_X9_refusalOfPairs : codeP iX9_refusalOfPairs := codeOf cw_X9_refusalOfPairs
theorem cp_X9_rindOf : codeP iX9_rindOf := codeOf cw_X9_rindOf
theorem cp_X9_isOf : codeP iX9_isOf := codeOf cw_X9_isOf
theorem cp_X9_fits : codeP iX9_fits := codeOf cw_X9_fits
theorem cp_X9_kindsBy : codeP iX9_kindsBy := codeOf cw_X9_kindsBy
theorem cp_X9_greatestPart : codeP iX9_greatestPart := codeOf cw_X9_greatestPart
theorem cp_X9_mostByNephew : codeP iX9_mostByNephew := codeOf cw_X9_mostByNephew
theorem cp_X9_leastByAunt : codeP iX9_leastByAunt := codeOf cw_X9_leastByAunt
theorem cp_X9_power : codeP iX9_power := codeOf cw_X9_power
theorem cp_X9_weighed : codeP iX9_weighed := codeOf cw_X9_weighed
theorem cp_X9_enactLot : codeP iX9_enactLot := codeOf cw_X9_enactLot
theorem cp_X9_counted : codeP iX9_counted := codeOf cw_X9_counted
theorem cp_X9_thereOf : codeP iX9_thereOf := codeOf cw_X9_thereOf
theorem cp_X9_digestOf : codeP iX9_digestOf := codeOf cw_X9_digestOf
theorem cp_J9_max_7cf53 : codeP iJ9_max_7cf53 := codeOf cw_J9_max_7cf53
theorem cp_J9_min_7cf53 : codeP iJ9_min_7cf53 := codeOf cw_J9_min_7cf53
theorem cp_J7_fill_53178 : codeP iJ7_fill_53178 := codeOf cw_J7_fill_53178
theorem cp_L_cell : codeP iL_cell := codeOf cw_L_cell
theorem cp_L_up : codeP iL_up := codeOf cw_L_up
theorem cp_L_lay : codeP iL_lay := codeOf cw_L_lay
theorem cp_L_letter : codeP iL_letter := codeOf cw_L_letter
theorem cp_L_made : codeP iL_made := codeOf cw_L_made
theorem cp_L_bits : codeP iL_bits := codeOf cw_L_bits
theorem cp_L_laid : codeP iL_laid := codeOf cw_L_laid
theorem cp_L_does : codeP iL_does := codeOf cw_L_does
theorem cA_0 : AllP codeP 0 := trivial
theorem cA_1 : AllP codeP 1 := ⟨cA_0, cp_X0_init⟩
theorem cA_2 : AllP codeP 2 := ⟨cA_1, cp_X0_isMissing⟩
theorem cA_3 : AllP codeP 3 := ⟨cA_2, cp_X0_hasRoom⟩
theorem cA_4 : AllP codeP 4 := ⟨cA_3, cp_X0_add⟩
theorem cA_5 : AllP codeP 5 := ⟨cA_4, cp_X0_takeFrom⟩
theorem cA_6 : AllP codeP 6 := ⟨cA_5, cp_X1_init⟩
theorem cA_7 : AllP codeP 7 := ⟨cA_6, cp_X1_isEmpty⟩
theorem cA_8 : AllP codeP 8 := ⟨cA_7, cp_X1_wheelOf⟩
theorem cA_9 : AllP codeP 9 := ⟨cA_8, cp_X1_keptOf⟩
theorem cA_10 : AllP codeP 10 := ⟨cA_9, cp_X1_isSilentBy⟩
theorem cA_11 : AllP codeP 11 := ⟨cA_10, cp_X1_begin⟩
theorem cA_12 : AllP codeP 12 := ⟨cA_11, cp_X1_replay⟩
theorem cA_13 : AllP codeP 13 := ⟨cA_12, cp_X1_enact⟩
theorem cA_14 : AllP codeP 14 := ⟨cA_13, cp_X1_act⟩
theorem cA_15 : AllP codeP 15 := ⟨cA_14, cp_X1_actOn⟩
theorem cA_16 : AllP codeP 16 := ⟨cA_15, cp_X1_isOnShelf⟩
theorem cA_17 : AllP codeP 17 := ⟨cA_16, cp_X1_tellOf⟩
theorem cA_18 : AllP codeP 18 := ⟨cA_17, cp_X1_shelfBits⟩
theorem cA_19 : AllP codeP 19 := ⟨cA_18, cp_X1_shelfRind⟩
theorem cA_20 : AllP codeP 20 := ⟨cA_19, cp_X1_oldWheels⟩
theorem cA_21 : AllP codeP 21 := ⟨cA_20, cp_X1_keptThere⟩
theorem cA_22 : AllP codeP 22 := ⟨cA_21, cp_X1_digestFrom⟩
theorem cA_23 : AllP codeP 23 := ⟨cA_22, cp_X2_init⟩
theorem cA_24 : AllP codeP 24 := ⟨cA_23, cp_X2_get⟩
theorem cA_25 : AllP codeP 25 := ⟨cA_24, cp_X2_set⟩
theorem cA_26 : AllP codeP 26 := ⟨cA_25, cp_X2_takeFrom⟩
theorem cA_27 : AllP codeP 27 := ⟨cA_26, cp_X2_total⟩
theorem cA_28 : AllP codeP 28 := ⟨cA_27, cp_X2_passDay⟩
theorem cA_29 : AllP codeP 29 := ⟨cA_28, cp_X2_raise⟩
theorem cA_30 : AllP codeP 30 := ⟨cA_29, cp_X2_passDayWith⟩
theorem cA_31 : AllP codeP 31 := ⟨cA_30, cp_X3_init⟩
theorem cA_32 : AllP codeP 32 := ⟨cA_31, cp_X3_begin⟩
theorem cA_33 : AllP codeP 33 := ⟨cA_32, cp_X3_howMany⟩
theorem cA_34 : AllP codeP 34 := ⟨cA_33, cp_X3_advance⟩
theorem cA_35 : AllP codeP 35 := ⟨cA_34, cp_X3_after⟩
theorem cA_36 : AllP codeP 36 := ⟨cA_35, cp_X3_reckonFrom⟩
theorem cA_37 : AllP codeP 37 := ⟨cA_36, cp_X3_lastAnger⟩
theorem cA_38 : AllP codeP 38 := ⟨cA_37, cp_X3_firstSaid⟩
theorem cA_39 : AllP codeP 39 := ⟨cA_38, cp_X3_sayings⟩
theorem cA_40 : AllP codeP 40 := ⟨cA_39, cp_X3_mattersSaid⟩
theorem cA_41 : AllP codeP 41 := ⟨cA_40, cp_X3_leadsBy⟩
theorem cA_42 : AllP codeP 42 := ⟨cA_41, cp_X3_writeTo⟩
theorem cA_43 : AllP codeP 43 := ⟨cA_42, cp_X4_init⟩
theorem cA_44 : AllP codeP 44 := ⟨cA_43, cp_X4_read⟩
theorem cA_45 : AllP codeP 45 := ⟨cA_44, cp_X4_skipBlanks⟩
theorem cA_46 : AllP codeP 46 := ⟨cA_45, cp_X4_hasFigure⟩
theorem cA_47 : AllP codeP 47 := ⟨cA_46, cp_X4_takeFigure⟩
theorem cA_48 : AllP codeP 48 := ⟨cA_47, cp_X4_readBrothers⟩
theorem cA_49 : AllP codeP 49 := ⟨cA_48, cp_X4_readLimit⟩
theorem cA_50 : AllP codeP 50 := ⟨cA_49, cp_X4_readWheels⟩
theorem cA_51 : AllP codeP 51 := ⟨cA_50, cp_X4_readWheel⟩
theorem cA_52 : AllP codeP 52 := ⟨cA_51, cp_X4_kindBy⟩
theorem cA_53 : AllP codeP 53 := ⟨cA_52, cp_X5_init⟩
theorem cA_54 : AllP codeP 54 := ⟨cA_53, cp_X5_isMissing⟩
theorem cA_55 : AllP codeP 55 := ⟨cA_54, cp_X5_renew⟩
theorem cA_56 : AllP codeP 56 := ⟨cA_55, cp_X5_hasPlace⟩
theorem cA_57 : AllP codeP 57 := ⟨cA_56, cp_X5_get⟩
theorem cA_58 : AllP codeP 58 := ⟨cA_57, cp_X5_set⟩
theorem cA_59 : AllP codeP 59 := ⟨cA_58, cp_X5_isWithin⟩
theorem cA_60 : AllP codeP 60 := ⟨cA_59, cp_X5_digestFrom⟩
theorem cA_61 : AllP codeP 61 := ⟨cA_60, cp_X6_init⟩
theorem cA_62 : AllP codeP 62 := ⟨cA_61, cp_X6_fillFrom⟩
theorem cA_63 : AllP codeP 63 := ⟨cA_62, cp_X6_filledBy⟩
theorem cA_64 : AllP codeP 64 := ⟨cA_63, cp_X6_writeTo⟩
theorem cA_65 : AllP codeP 65 := ⟨cA_64, cp_X7_init⟩
theorem cA_66 : AllP codeP 66 := ⟨cA_65, cp_X7_refuse⟩
theorem cA_67 : AllP codeP 67 := ⟨cA_66, cp_X7_tell⟩
theorem cA_68 : AllP codeP 68 := ⟨cA_67, cp_X7_tellParts⟩
theorem cA_69 : AllP codeP 69 := ⟨cA_68, cp_X7_commonPart⟩
theorem cA_70 : AllP codeP 70 := ⟨cA_69, cp_X8_init⟩
theorem cA_71 : AllP codeP 71 := ⟨cA_70, cp_X8_forget⟩
theorem cA_72 : AllP codeP 72 := ⟨cA_71, cp_X8_isMade⟩
theorem cA_73 : AllP codeP 73 := ⟨cA_72, cp_X8_rindBy⟩
theorem cA_74 : AllP codeP 74 := ⟨cA_73, cp_X9_init⟩
theorem cA_75 : AllP codeP 75 := ⟨cA_74, cp_X9_row⟩
theorem cA_76 : AllP codeP 76 := ⟨cA_75, cp_X9_lay⟩
theorem cA_77 : AllP codeP 77 := ⟨cA_76, cp_X9_at⟩
theorem cA_78 : AllP codeP 78 := ⟨cA_77, cp_X9_text⟩
theorem cA_79 : AllP codeP 79 := ⟨cA_78, cp_X9_put⟩
theorem cA_80 : AllP codeP 80 := ⟨cA_79, cp_X9_farm⟩
theorem cA_81 : AllP codeP 81 := ⟨cA_80, cp_X9_wheel⟩
theorem cA_82 : AllP codeP 82 := ⟨cA_81, cp_X9_holds⟩
theorem cA_83 : AllP codeP 83 := ⟨cA_82, cp_X9_anger⟩
theorem cA_84 : AllP codeP 84 := ⟨cA_83, cp_X9_day⟩
theorem cA_85 : AllP codeP 85 := ⟨cA_84, cp_X9_say⟩
theorem cA_86 : AllP codeP 86 := ⟨cA_85, cp_X9_make⟩
theorem cA_87 : AllP codeP 87 := ⟨cA_86, cp_X9_sell⟩
theorem cA_88 : AllP codeP 88 := ⟨cA_87, cp_X9_undo⟩
theorem cA_89 : AllP codeP 89 := ⟨cA_88, cp_X9_keep⟩
theorem cA_90 : AllP codeP 90 := ⟨cA_89, cp_X9_on⟩
theorem cA_91 : AllP codeP 91 := ⟨cA_90, cp_X9_peace⟩
theorem cA_92 : AllP codeP 92 := ⟨cA_91, cp_X9_plan⟩
theorem cA_93 : AllP codeP 93 := ⟨cA_92, cp_X9_through⟩
theorem cA_94 : AllP codeP 94 := ⟨cA_93, cp_X9_about⟩
theorem cA_95 : AllP codeP 95 := ⟨cA_94, cp_X9_sure⟩
theorem cA_96 : AllP codeP 96 := ⟨cA_95, cp_X9_salts⟩
theorem cA_97 : AllP codeP 97 := ⟨cA_96, cp_X9_kinds⟩
theorem cA_98 : AllP codeP 98 := ⟨cA_97, cp_X9_test⟩
theorem cA_99 : AllP codeP 99 := ⟨cA_98, cp_X9_shows⟩
theorem cA_100 : AllP codeP 100 := ⟨cA_99, cp_X9_duel⟩
theorem cA_101 : AllP codeP 101 := ⟨cA_100, cp_X9_odds⟩
theorem cA_102 : AllP codeP 102 := ⟨cA_101, cp_X9_mid⟩
theorem cA_103 : AllP codeP 103 := ⟨cA_102, cp_X9_lots⟩
theorem cA_104 : AllP codeP 104 := ⟨cA_103, cp_X9_asked⟩
theorem cA_105 : AllP codeP 105 := ⟨cA_104, cp_X9_upper⟩
theorem cA_106 : AllP codeP 106 := ⟨cA_105, cp_X9_lower⟩
theorem cA_107 : AllP codeP 107 := ⟨cA_106, cp_X9_count⟩
theorem cA_108 : AllP codeP 108 := ⟨cA_107, cp_X9_digest⟩
theorem cA_109 : AllP codeP 109 := ⟨cA_108, cp_X9_within⟩
theorem cA_110 : AllP codeP 110 := ⟨cA_109, cp_X9_isMatter⟩
theorem cA_111 : AllP codeP 111 := ⟨cA_110, cp_X9_rowOf⟩
theorem cA_112 : AllP codeP 112 := ⟨cA_111, cp_X9_textOf⟩
theorem cA_113 : AllP codeP 113 := ⟨cA_112, cp_X9_refusalOf⟩
theorem cA_114 : AllP codeP 114 := ⟨cA_113, cp_X9_refusalOfPlace⟩
theorem cA_115 : AllP codeP 115 := ⟨cA_114, cp_X9_isPlan⟩
theorem cA_116 : AllP codeP 116 := ⟨cA_115, cp_X9_areChances⟩
theorem cA_117 : AllP codeP 117 := ⟨cA_116, cp_X9_refusalOfAngers⟩
theorem cA_118 : AllP codeP 118 := ⟨cA_117, cp_X9_refusalOfPairs⟩
theorem cA_119 : AllP codeP 119 := ⟨cA_118, cp_X9_rindOf⟩
theorem cA_120 : AllP codeP 120 := ⟨cA_119, cp_X9_isOf⟩
theorem cA_121 : AllP codeP 121 := ⟨cA_120, cp_X9_fits⟩
theorem cA_122 : AllP codeP 122 := ⟨cA_121, cp_X9_kindsBy⟩
theorem cA_123 : AllP codeP 123 := ⟨cA_122, cp_X9_greatestPart⟩
theorem cA_124 : AllP codeP 124 := ⟨cA_123, cp_X9_mostByNephew⟩
theorem cA_125 : AllP codeP 125 := ⟨cA_124, cp_X9_leastByAunt⟩
theorem cA_126 : AllP codeP 126 := ⟨cA_125, cp_X9_power⟩
theorem cA_127 : AllP codeP 127 := ⟨cA_126, cp_X9_weighed⟩
theorem cA_128 : AllP codeP 128 := ⟨cA_127, cp_X9_enactLot⟩
theorem cA_129 : AllP codeP 129 := ⟨cA_128, cp_X9_counted⟩
theorem cA_130 : AllP codeP 130 := ⟨cA_129, cp_X9_thereOf⟩
theorem cA_131 : AllP codeP 131 := ⟨cA_130, cp_X9_digestOf⟩
theorem cA_132 : AllP codeP 132 := ⟨cA_131, cp_J9_max_7cf53⟩
theorem cA_133 : AllP codeP 133 := ⟨cA_132, cp_J9_min_7cf53⟩
theorem cA_134 : AllP codeP 134 := ⟨cA_133, cp_J7_fill_53178⟩
theorem cA_135 : AllP codeP 135 := ⟨cA_134, cp_L_cell⟩
theorem cA_136 : AllP codeP 136 := ⟨cA_135, cp_L_up⟩
theorem cA_137 : AllP codeP 137 := ⟨cA_136, cp_L_lay⟩
theorem cA_138 : AllP codeP 138 := ⟨cA_137, cp_L_letter⟩
theorem cA_139 : AllP codeP 139 := ⟨cA_138, cp_L_made⟩
theorem cA_140 : AllP codeP 140 := ⟨cA_139, cp_L_bits⟩
theorem cA_141 : AllP codeP 141 := ⟨cA_140, cp_L_laid⟩
theorem cA_142 : AllP codeP 142 := ⟨cA_141, cp_L_does⟩
theorem code_in {m : Nat} (h : m < 142) : Jvm.Cond.code (mY m) (mC m) (mL m) (mR m) ∈ TB := AllP_at cA_142 m h
