/-! shows, the numbers and the class -/
/-- may wheel d - 1 (d > 0) go to a show that wants x -/
def mayP (n : Nat) (g : FV) (x used : Int32) (d : Nat) : Bool := decide (d - 1 < n) && (decide ((used >>> (Int32.ofNat (d - 1) &&& 31)) &&& 1 = 0) && (decide (ShP g (d - 1)) && !decide (g (84 + (d - 1)) < x)))
def vR (B n : Nat) (g : FV) (e : Nat → Int32) : Nat → Nat → Int32 → Nat → Option Nat
  | 0, _, _, f => some f
  | j + 1, r, u, f => if r % B = 0 then vR B n g e j (r / B) u f else if mayP n g (e j) u (r % B) = true then vR B n g e j (r / B) (u ||| ((1 : Int32) <<< (Int32.ofNat (r % B - 1) &&& 31))) (f + 1) else none
def dgt (B : Nat) : Nat → Nat → Nat → Nat
  | 0, _, _ => 0
  | j + 1, r, k => if k = j then r % B else dgt B j (r / B) k
theorem vR_le {B n : Nat} {g : FV} {e : Nat → Int32} : ∀ {j r f f' : Nat} {u : Int32}, vR B n g e j r u f = some f' → f' ≤ f + j
  | 0, _, f, f', _, h => by
    cases h; omega
  | j + 1, r, f, f', u, h => by
    unfold vR at h
    split at h
    · have := vR_le h; omega
    · split at h
      · have := vR_le h; omega
      · cases h
def bet (o : Option (Nat × Nat)) (f : Nat) : Bool := match o with
  | none => true
  | some p => decide (p.2 < f)
def bs (V : Nat → Option Nat) : Nat → Nat → Option (Nat × Nat) → Option (Nat × Nat)
  | 0, _, o => o
  | j + 1, c, o => bs V j (c + 1) (match V c with
    | none => o
    | some f => if bet o f = true then some (c, f) else o)
def bSp (V : Nat → Option Nat) (N : Nat) (o : Option (Nat × Nat)) : Prop := match o with
  | none => ∀ c, c < N → V c = none
  | some p => p.1 < N ∧ V p.1 = some p.2 ∧ (∀ c f, c < N → V c = some f → f ≤ p.2) ∧ ∀ c f, c < p.1 → V c = some f → f < p.2
theorem bSp_step {V : Nat → Option Nat} {N : Nat} {o : Option (Nat × Nat)} (h : bSp V N o) : bSp V (N + 1) (match V N with
    | none => o
    | some f => if bet o f = true then some (N, f) else o) := by
  rcases hv : V N with _ | f
  · rcases o with _ | p
    · intro c hc
      by_cases e : c = N
      · rw [e]; exact hv
      · exact h c (by omega)
    · obtain ⟨h1, h2, h3, h4⟩ := h
      refine ⟨by omega, h2, fun c f hc e => ?_, h4⟩
      by_cases e2 : c = N
      · rw [e2, hv] at e; cases e
      · exact h3 c f (by omega) e
  · rcases o with _ | p
    · show bSp V (N + 1) (some (N, f))
      refine ⟨by show N < N + 1; omega, hv, fun c f' hc e => ?_, fun c f' hc e => ?_⟩
      · by_cases e2 : c = N
        · rw [e2, hv] at e; cases e; exact Nat.le_refl _
        · rw [h c (by omega)] at e; cases e
      · have hc : c < N := hc
        rw [h c hc] at e; cases e
    · obtain ⟨h1, h2, h3, h4⟩ := h
      simp only [bet]
      by_cases hb : p.2 < f
      · simp only [hb, decide_true, if_true]
        refine ⟨by show N < N + 1; omega, hv, fun c f' hc e => ?_, fun c f' hc e => ?_⟩
        · by_cases e2 : c = N
          · rw [e2, hv] at e; cases e; exact Nat.le_refl _
          · have := h3 c f' (by omega) e; show f' ≤ f; omega
        · have hc : c < N := hc
          have := h3 c f' hc e; show f' < f; omega
      · simp only [hb, decide_false, Bool.false_eq_true, if_false]
        refine ⟨by omega, h2, fun c f' hc e => ?_, h4⟩
        by_cases e2 : c = N
        · rw [e2, hv] at e; cases e; omega
        · exact h3 c f' (by omega) e
theorem bs_spec {V : Nat → Option Nat} : ∀ {j c : Nat} {o : Option (Nat × Nat)}, bSp V c o → bSp V (c + j) (bs V j c o)
  | 0, _, _, h => h
  | j + 1, c, o, h => by
    have := bs_spec (V := V) (j := j) (c := c + 1) (bSp_step h)
    rw [show c + (j + 1) = c + 1 + j by omega]
    exact this
def oV (o : Option Nat) (z : Int32) : Int32 := match o with
  | none => z
  | some f => Int32.ofNat f
section
variable {d N a b c k n m i μ l B t q S : Nat} {I I0 : IT} {J : JT} {r v x y z w L κ σ p : Int32} {A P Q : Int64} {u u6 u7 u8 : Value} {M : Mem} {H : Nat → Fin 13} {e : Nat → Int32} {s s' ch : Nat → Nat} {g f : FV} {D D' : List (Nat × Nat)} {K : Nat → Option (List (Nat × Nat))} {I' : IT} {T : IT} {H0 : Nat → Fin 13}
theorem fb_loop (h0 : 0 < n) (hF0 : FA I0 n f D K H g) (hk : k < 6) : ∀ (j rest F : Nat) (I : IT) (U : Int32) (u9 u10 u11 : Value), j ≤ 4 → u9.category = 1 → u10.category = 1 → rest < 4096 → (∀ b, b ≠ 51 → b ≠ 52 → b ≠ 50 → I b = I0 b) → (∀ q, q < j → I0 (58 + 2 * k) q = e q) → ∃ h', R (d + 4) iX6_filledBy 32 [.ref 50, .int x, .ref 4, .ref (57 + 2 * k), .int (Int32.ofNat (n + 1)), .int (Int32.ofNat rest), .int U, .int (Int32.ofNat F), .int (Int32.ofNat j - 1), u9, u10, u11] [] (mk N I J) = some (some (.int (oV (vR (n + 1) n g e j rest U F) (-1))), mk N (upA I 51 h') J) ∧ (vR (n + 1) n g e j rest U F ≠ none → ∀ q, q < j → h' q = dS (dgt (n + 1) j rest q)) ∧ ∀ q, j ≤ q → h' q = I 51 q := by
  have hF1 := hF0
  obtain ⟨-, -, -, f4, f5, -, -, -, -, -, -, -, -, -, f15, -⟩ := hF0
  intro j
  induction j with
  | zero =>
    intro rest F I U u9 u10 u11 hj h9 h10 hr hf he
    refine ⟨I 51, ?_, fun _ q hq => by omega, fun _ _ => rfl⟩
    have m1 : Int32.ofNat 0 - 1 = -1 := rfl
    rw [m1, e_X6_filledBy_32]
    simp only [K_some, K_void, K_none, wA_ref, wA_null, isNull_null, isNull_ref, c_int, c_long, c_ref, c_null, c_float, catS_nil, catS_cons, fit_int, fit_bool, fit_long, isO_mk, len_mk, fld_mk, gI_mk, gI0_mk, gZ_mk, gR_mk, isI_mk, isR_mk, tag_mk, lenE_mk, datR_mk, isOs, lenOs, fldS, lenS, gIs, gI0s, gZs, gRs, isIs, isRs, tagS, datRs, mkv, refV, fkS, isArr, tagOk, datI_mk, wrI_mk, wrA_mk, wrF_mk, wrJ_mk, List.length_cons, List.length_nil, List.getElem?_cons_zero, List.getElem?_cons_succ, List.getElem?_nil, ↓reduceIte, Nat.reduceAdd, Nat.reduceMul, Nat.reduceSub, Nat.reduceDiv, Nat.reduceMod, Nat.reduceLT, Nat.reduceLeDiff, Nat.reduceBEq, Nat.reduceEqDiff, Nat.zero_lt_succ, beq_self_eq_true, Bool.true_and, Bool.and_true, Bool.or_true, Bool.true_or, Bool.or_false, Bool.false_or, Bool.false_and, Bool.and_false, Bool.not_true, Bool.not_false, Bool.false_eq_true, Bool.true_eq_false, Bool.and_eq_true, Bool.or_eq_true, Bool.not_eq_true', decide_eq_true_eq, decide_eq_false_iff_not, decide_true, decide_false, and_self, true_and, and_true, or_true, true_or, or_false, false_or, and_false, false_and, or_self, reduceCtorEq, not_true_eq_false, not_false_eq_true, if_true, if_false, Int32.reduceAdd, Int32.reduceSub, Int32.reduceMul, Int32.reduceDiv, Int32.reduceMod, Int32.reduceLT, Int32.reduceLE, eqF1, eqF2, Int32.reduceOfNat, Int32.reduceOfInt, Int32.reduceToNatClampNeg, inb_lit, e_X6_filledBy_0, e_X6_filledBy_1, e_X6_filledBy_4, e_X6_filledBy_5, e_X6_filledBy_6, e_X6_filledBy_8, e_X6_filledBy_9, e_X6_filledBy_11, e_X6_filledBy_12, e_X6_filledBy_14, e_X6_filledBy_15, e_X6_filledBy_17, e_X6_filledBy_19, e_X6_filledBy_22, e_X6_filledBy_23, e_X6_filledBy_24, e_X6_filledBy_25, e_X6_filledBy_28, e_X6_filledBy_29, e_X6_filledBy_30, e_X6_filledBy_34, e_X6_filledBy_37, e_X6_filledBy_39, e_X6_filledBy_40, e_X6_filledBy_43, e_X6_filledBy_44, e_X6_filledBy_47, e_X6_filledBy_49, e_X6_filledBy_51, e_X6_filledBy_52, e_X6_filledBy_53, e_X6_filledBy_54, e_X6_filledBy_56, e_X6_filledBy_58, e_X6_filledBy_60, e_X6_filledBy_61, e_X6_filledBy_63, e_X6_filledBy_64, e_X6_filledBy_67, e_X6_filledBy_69, e_X6_filledBy_71, e_X6_filledBy_74, e_X6_filledBy_76, e_X6_filledBy_79, e_X6_filledBy_81, e_X6_filledBy_82, e_X6_filledBy_84, e_X6_filledBy_87, e_X6_filledBy_90, e_X6_filledBy_91, e_X6_filledBy_93, e_X6_filledBy_96, e_X6_filledBy_98, e_X6_filledBy_100, e_X6_filledBy_102, e_X6_filledBy_103, e_X6_filledBy_104, e_X6_filledBy_105, e_X6_filledBy_108, e_X6_filledBy_109, e_X6_filledBy_112, e_X6_filledBy_113, e_X6_filledBy_115, e_X6_filledBy_117, e_X6_filledBy_120, e_X6_filledBy_122, e_X6_filledBy_125, e_X6_filledBy_126, e_X6_filledBy_128, e_X6_filledBy_131, e_X6_filledBy_134, e_X6_filledBy_136, e_X6_filledBy_139, e_X6_filledBy_140, e_X6_filledBy_142, e_X6_filledBy_145, e_X6_filledBy_148, e_X6_filledBy_149, e_X6_filledBy_150, e_X6_filledBy_152, e_X6_filledBy_153, e_X6_filledBy_155, e_X6_filledBy_156, e_X6_filledBy_157, e_X6_filledBy_159, e_X6_filledBy_162, e_X6_filledBy_165, e_X6_filledBy_168, e_X6_filledBy_170, vR, oV, upA_self]
  | succ j ih =>
    intro rest F I U u9 u10 u11 hj h9 h10 hr hf he
    have m1 : Int32.ofNat (j + 1) - 1 = Int32.ofNat j := by rw [← oN_succ, Int32.add_sub_cancel]
    have q1 := oN_neg (k := j) (by omega)
    have q2 : Int32.ofNat j < 4 := (oN_lt (j := j) (k := 4) (by omega) (by omega)).mpr (by omega)
    have q3 : inb (Int32.ofNat j) 4 = true := inb_ofNat (by omega) (by omega)
    have q4 : (Int32.ofNat j).toNatClampNeg = j := nat_ofNat (by omega)
    have n1 : (Int32.ofNat (n + 1) = 0) = False := oN_ne0 (by omega) (by omega)
    have md : Int32.ofNat rest % Int32.ofNat (n + 1) = Int32.ofNat (rest % (n + 1)) := ofNat_mod (by omega) (by omega)
    have dv : Int32.ofNat rest / Int32.ofNat (n + 1) = Int32.ofNat (rest / (n + 1)) := ofNat_div (by omega) (by omega)
    have hm := Nat.mod_lt rest (show 0 < n + 1 by omega)
    have hd : rest / (n + 1) ≤ rest := Nat.div_le_self _ _
    have jm : Int32.ofNat j + -1 = Int32.ofNat j - 1 := by rw [Int32.sub_eq_add_neg]
    rw [m1, e_X6_filledBy_32]
    by_cases z : rest % (n + 1) = 0
    · have mz : Int32.ofNat (rest % (n + 1)) - 1 = -1 := by rw [z]; rfl
      obtain ⟨h', e1, e2, e3⟩ := ih (rest / (n + 1)) F (up I 51 j (-9)) U (.int (-1)) u10 u11 (by omega) rfl h10 (by omega) (fun b h1 h2 h3 => by rw [up_ne h1]; exact hf b h1 h2 h3) (fun q hq => he q (by omega))
      have hv : vR (n + 1) n g e (j + 1) rest U F = vR (n + 1) n g e j (rest / (n + 1)) U F := by
        show (if rest % (n + 1) = 0 then _ else _) = _
        rw [if_pos z]
      rw [hv]
      refine ⟨h', ?_, fun hne q hq => ?_, fun q hq => by rw [e3 q (by omega), up_at, if_neg (by omega)]⟩
      · simp only [K_some, K_void, K_none, wA_ref, wA_null, isNull_null, isNull_ref, c_int, c_long, c_ref, c_null, c_float, catS_nil, catS_cons, fit_int, fit_bool, fit_long, isO_mk, len_mk, fld_mk, gI_mk, gI0_mk, gZ_mk, gR_mk, isI_mk, isR_mk, tag_mk, lenE_mk, datR_mk, isOs, lenOs, fldS, lenS, gIs, gI0s, gZs, gRs, isIs, isRs, tagS, datRs, mkv, refV, fkS, isArr, tagOk, datI_mk, wrI_mk, wrA_mk, wrF_mk, wrJ_mk, List.length_cons, List.length_nil, List.getElem?_cons_zero, List.getElem?_cons_succ, List.getElem?_nil, ↓reduceIte, Nat.reduceAdd, Nat.reduceMul, Nat.reduceSub, Nat.reduceDiv, Nat.reduceMod, Nat.reduceLT, Nat.reduceLeDiff, Nat.reduceBEq, Nat.reduceEqDiff, Nat.zero_lt_succ, beq_self_eq_true, Bool.true_and, Bool.and_true, Bool.or_true, Bool.true_or, Bool.or_false, Bool.false_or, Bool.false_and, Bool.and_false, Bool.not_true, Bool.not_false, Bool.false_eq_true, Bool.true_eq_false, Bool.and_eq_true, Bool.or_eq_true, Bool.not_eq_true', decide_eq_true_eq, decide_eq_false_iff_not, decide_true, decide_false, and_self, true_and, and_true, or_true, true_or, or_false, false_or, and_false, false_and, or_self, reduceCtorEq, not_true_eq_false, not_false_eq_true, if_true, if_false, Int32.reduceAdd, Int32.reduceSub, Int32.reduceMul, Int32.reduceDiv, Int32.reduceMod, Int32.reduceLT, Int32.reduceLE, eqF1, eqF2, Int32.reduceOfNat, Int32.reduceOfInt, Int32.reduceToNatClampNeg, inb_lit, e_X6_filledBy_0, e_X6_filledBy_1, e_X6_filledBy_4, e_X6_filledBy_5, e_X6_filledBy_6, e_X6_filledBy_8, e_X6_filledBy_9, e_X6_filledBy_11, e_X6_filledBy_12, e_X6_filledBy_14, e_X6_filledBy_15, e_X6_filledBy_17, e_X6_filledBy_19, e_X6_filledBy_22, e_X6_filledBy_23, e_X6_filledBy_24, e_X6_filledBy_25, e_X6_filledBy_28, e_X6_filledBy_29, e_X6_filledBy_30, e_X6_filledBy_34, e_X6_filledBy_37, e_X6_filledBy_39, e_X6_filledBy_40, e_X6_filledBy_43, e_X6_filledBy_44, e_X6_filledBy_47, e_X6_filledBy_49, e_X6_filledBy_51, e_X6_filledBy_52, e_X6_filledBy_53, e_X6_filledBy_54, e_X6_filledBy_56, e_X6_filledBy_58, e_X6_filledBy_60, e_X6_filledBy_61, e_X6_filledBy_63, e_X6_filledBy_64, e_X6_filledBy_67, e_X6_filledBy_69, e_X6_filledBy_71, e_X6_filledBy_74, e_X6_filledBy_76, e_X6_filledBy_79, e_X6_filledBy_81, e_X6_filledBy_82, e_X6_filledBy_84, e_X6_filledBy_87, e_X6_filledBy_90, e_X6_filledBy_91, e_X6_filledBy_93, e_X6_filledBy_96, e_X6_filledBy_98, e_X6_filledBy_100, e_X6_filledBy_102, e_X6_filledBy_103, e_X6_filledBy_104, e_X6_filledBy_105, e_X6_filledBy_108, e_X6_filledBy_109, e_X6_filledBy_112, e_X6_filledBy_113, e_X6_filledBy_115, e_X6_filledBy_117, e_X6_filledBy_120, e_X6_filledBy_122, e_X6_filledBy_125, e_X6_filledBy_126, e_X6_filledBy_128, e_X6_filledBy_131, e_X6_filledBy_134, e_X6_filledBy_136, e_X6_filledBy_139, e_X6_filledBy_140, e_X6_filledBy_142, e_X6_filledBy_145, e_X6_filledBy_148, e_X6_filledBy_149, e_X6_filledBy_150, e_X6_filledBy_152, e_X6_filledBy_153, e_X6_filledBy_155, e_X6_filledBy_156, e_X6_filledBy_157, e_X6_filledBy_159, e_X6_filledBy_162, e_X6_filledBy_165, e_X6_filledBy_168, e_X6_filledBy_170, sh_50, sh_51, sh_1, sh_2, sh_3, sh_4, sh_7, sh_8, sh_9, sh_10, sh_11, sh_12, sh_13, sh_29, sh_35, sh_53, sh_54, sh_55, sh_56, q1, q2, q3, q4, n1, md, dv, mz, jm]
        rw [e1]
        congr 3
        funext b q
        rw [upA_at2, upA_at2]
        by_cases hb : b = 51
        · rw [if_pos hb, if_pos hb]
        · rw [if_neg hb, if_neg hb, up_at, if_neg (fun h => hb h.1)]
      · show h' q = dS (if q = j then rest % (n + 1) else dgt (n + 1) j (rest / (n + 1)) q)
        by_cases hqj : q = j
        · rw [if_pos hqj, z, e3 q (by omega), hqj, up_same]; rfl
        · rw [if_neg hqj]; exact e2 hne q (by omega)
    · obtain ⟨i, hi⟩ : ∃ i, rest % (n + 1) = i + 1 := ⟨rest % (n + 1) - 1, by omega⟩
      have mi : Int32.ofNat (rest % (n + 1)) - 1 = Int32.ofNat i := by rw [hi, ← oN_succ, Int32.add_sub_cancel]
      have hin : i < n := by omega
      have w6 : i < 6 := by omega
      have ni := oN_neg (k := i) (by omega)
      have e1i : (Int32.ofNat i).toNatClampNeg = i := nat_ofNat (by omega)
      have hib : inb (Int32.ofNat i) n = true := inb_ofNat hin (by omega)
      have s2 : I 4 6 = Int32.ofNat n := by rw [hf 4 (by omega) (by omega) (by omega)]; exact f5
      have s2' : up I 51 j (Int32.ofNat i) 4 6 = Int32.ofNat n := by rw [up_ne (by omega)]; exact s2
      have a5 := (fa_w hF1 hin).2.2.2.2.1
      have a5' : up I 51 j (Int32.ofNat i) (14 + i) 4 = g (84 + i) := by rw [up_ne (by omega), hf (14 + i) (by omega) (by omega) (by omega)]; exact a5
      have e15 : ShC (up I 51 j (Int32.ofNat i)) i ↔ ShP g i := by
        rw [← f15 i hin]
        unfold ShC
        rw [up_ne (by omega), up_ne (by omega), hf (14 + i) (by omega) (by omega) (by omega), hf 4 (by omega) (by omega) (by omega)]
      have ej : up I 51 j (Int32.ofNat i) (58 + 2 * k) j = e j := by rw [up_ne (by omega), hf (58 + 2 * k) (by omega) (by omega) (by omega)]; exact he j (by omega)
      have q40 : inb (Int32.ofNat j) 40 = true := inb_ofNat (by omega) (by omega)
      have hv : vR (n + 1) n g e (j + 1) rest U F = if mayP n g (e j) U (i + 1) = true then vR (n + 1) n g e j (rest / (n + 1)) (U ||| ((1 : Int32) <<< (Int32.ofNat i &&& 31))) (F + 1) else none := by
        show (if rest % (n + 1) = 0 then _ else if mayP n g (e j) U (rest % (n + 1)) = true then vR (n + 1) n g e j (rest / (n + 1)) (U ||| ((1 : Int32) <<< (Int32.ofNat (rest % (n + 1) - 1) &&& 31))) (F + 1) else none) = _
        rw [if_neg z, hi]; rfl
      have hmay : mayP n g (e j) U (i + 1) = (decide ((U >>> (Int32.ofNat i &&& 31)) &&& 1 = 0) && (decide (ShP g i) && !decide (g (84 + i) < e j))) := by
        unfold mayP
        rw [Nat.add_sub_cancel]
        simp only [hin, decide_true, Bool.true_and]
      rw [hv]
      by_cases c1 : (U >>> (Int32.ofNat i &&& 31)) &&& 1 = 0
      · by_cases c2 : ShP g i
        · by_cases c3 : g (84 + i) < e j
          · have hm2 : mayP n g (e j) U (i + 1) = false := by rw [hmay]; simp [c1, c2, c3]
            rw [hm2]
            refine ⟨fun q => if q = j then Int32.ofNat i else I 51 q, ?_, fun hne => absurd rfl hne, fun q hq => if_neg (by omega)⟩
            simp only [K_some, K_void, K_none, wA_ref, wA_null, isNull_null, isNull_ref, c_int, c_long, c_ref, c_null, c_float, catS_nil, catS_cons, fit_int, fit_bool, fit_long, isO_mk, len_mk, fld_mk, gI_mk, gI0_mk, gZ_mk, gR_mk, isI_mk, isR_mk, tag_mk, lenE_mk, datR_mk, isOs, lenOs, fldS, lenS, gIs, gI0s, gZs, gRs, isIs, isRs, tagS, datRs, mkv, refV, fkS, isArr, tagOk, datI_mk, wrI_mk, wrA_mk, wrF_mk, wrJ_mk, List.length_cons, List.length_nil, List.getElem?_cons_zero, List.getElem?_cons_succ, List.getElem?_nil, ↓reduceIte, Nat.reduceAdd, Nat.reduceMul, Nat.reduceSub, Nat.reduceDiv, Nat.reduceMod, Nat.reduceLT, Nat.reduceLeDiff, Nat.reduceBEq, Nat.reduceEqDiff, Nat.zero_lt_succ, beq_self_eq_true, Bool.true_and, Bool.and_true, Bool.or_true, Bool.true_or, Bool.or_false, Bool.false_or, Bool.false_and, Bool.and_false, Bool.not_true, Bool.not_false, Bool.false_eq_true, Bool.true_eq_false, Bool.and_eq_true, Bool.or_eq_true, Bool.not_eq_true', decide_eq_true_eq, decide_eq_false_iff_not, decide_true, decide_false, and_self, true_and, and_true, or_true, true_or, or_false, false_or, and_false, false_and, or_self, reduceCtorEq, not_true_eq_false, not_false_eq_true, if_true, if_false, Int32.reduceAdd, Int32.reduceSub, Int32.reduceMul, Int32.reduceDiv, Int32.reduceMod, Int32.reduceLT, Int32.reduceLE, eqF1, eqF2, Int32.reduceOfNat, Int32.reduceOfInt, Int32.reduceToNatClampNeg, inb_lit, e_X6_filledBy_0, e_X6_filledBy_1, e_X6_filledBy_4, e_X6_filledBy_5, e_X6_filledBy_6, e_X6_filledBy_8, e_X6_filledBy_9, e_X6_filledBy_11, e_X6_filledBy_12, e_X6_filledBy_14, e_X6_filledBy_15, e_X6_filledBy_17, e_X6_filledBy_19, e_X6_filledBy_22, e_X6_filledBy_23, e_X6_filledBy_24, e_X6_filledBy_25, e_X6_filledBy_28, e_X6_filledBy_29, e_X6_filledBy_30, e_X6_filledBy_34, e_X6_filledBy_37, e_X6_filledBy_39, e_X6_filledBy_40, e_X6_filledBy_43, e_X6_filledBy_44, e_X6_filledBy_47, e_X6_filledBy_49, e_X6_filledBy_51, e_X6_filledBy_52, e_X6_filledBy_53, e_X6_filledBy_54, e_X6_filledBy_56, e_X6_filledBy_58, e_X6_filledBy_60, e_X6_filledBy_61, e_X6_filledBy_63, e_X6_filledBy_64, e_X6_filledBy_67, e_X6_filledBy_69, e_X6_filledBy_71, e_X6_filledBy_74, e_X6_filledBy_76, e_X6_filledBy_79, e_X6_filledBy_81, e_X6_filledBy_82, e_X6_filledBy_84, e_X6_filledBy_87, e_X6_filledBy_90, e_X6_filledBy_91, e_X6_filledBy_93, e_X6_filledBy_96, e_X6_filledBy_98, e_X6_filledBy_100, e_X6_filledBy_102, e_X6_filledBy_103, e_X6_filledBy_104, e_X6_filledBy_105, e_X6_filledBy_108, e_X6_filledBy_109, e_X6_filledBy_112, e_X6_filledBy_113, e_X6_filledBy_115, e_X6_filledBy_117, e_X6_filledBy_120, e_X6_filledBy_122, e_X6_filledBy_125, e_X6_filledBy_126, e_X6_filledBy_128, e_X6_filledBy_131, e_X6_filledBy_134, e_X6_filledBy_136, e_X6_filledBy_139, e_X6_filledBy_140, e_X6_filledBy_142, e_X6_filledBy_145, e_X6_filledBy_148, e_X6_filledBy_149, e_X6_filledBy_150, e_X6_filledBy_152, e_X6_filledBy_153, e_X6_filledBy_155, e_X6_filledBy_156, e_X6_filledBy_157, e_X6_filledBy_159, e_X6_filledBy_162, e_X6_filledBy_165, e_X6_filledBy_168, e_X6_filledBy_170, sh_50, sh_51, sh_1, sh_2, sh_3, sh_4, sh_7, sh_8, sh_9, sh_10, sh_11, sh_12, sh_13, sh_29, sh_35, sh_53, sh_54, sh_55, sh_56, q1, q2, q3, q4, n1, md, dv, mi, ni, q1_wheelOf f4 s2' hib, e1i, c1, q1_onShelf w6, eq_true (e15.mpr c2), sh_wheel w6, a5', sh_row hk, q5_get (sh_row hk) (sh_rowB hk) (show 40 ≤ 4096 by omega) q40, ej, c3, oV]
            rw [up_A]
          · have hm2 : mayP n g (e j) U (i + 1) = true := by rw [hmay]; simp [c1, c2, c3]
            rw [hm2, if_pos rfl]
            obtain ⟨h', e1, e2, e3⟩ := ih (rest / (n + 1)) (F + 1) (up I 51 j (Int32.ofNat i)) (U ||| ((1 : Int32) <<< (Int32.ofNat i &&& 31))) (.int (Int32.ofNat i)) (.ref (14 + i)) (.int 1) (by omega) rfl rfl (by omega) (fun b h1 h2 h3 => by rw [up_ne h1]; exact hf b h1 h2 h3) (fun q hq => he q (by omega))
            refine ⟨h', ?_, fun hne q hq => ?_, fun q hq => by rw [e3 q (by omega), up_at, if_neg (by omega)]⟩
            · simp only [K_some, K_void, K_none, wA_ref, wA_null, isNull_null, isNull_ref, c_int, c_long, c_ref, c_null, c_float, catS_nil, catS_cons, fit_int, fit_bool, fit_long, isO_mk, len_mk, fld_mk, gI_mk, gI0_mk, gZ_mk, gR_mk, isI_mk, isR_mk, tag_mk, lenE_mk, datR_mk, isOs, lenOs, fldS, lenS, gIs, gI0s, gZs, gRs, isIs, isRs, tagS, datRs, mkv, refV, fkS, isArr, tagOk, datI_mk, wrI_mk, wrA_mk, wrF_mk, wrJ_mk, List.length_cons, List.length_nil, List.getElem?_cons_zero, List.getElem?_cons_succ, List.getElem?_nil, ↓reduceIte, Nat.reduceAdd, Nat.reduceMul, Nat.reduceSub, Nat.reduceDiv, Nat.reduceMod, Nat.reduceLT, Nat.reduceLeDiff, Nat.reduceBEq, Nat.reduceEqDiff, Nat.zero_lt_succ, beq_self_eq_true, Bool.true_and, Bool.and_true, Bool.or_true, Bool.true_or, Bool.or_false, Bool.false_or, Bool.false_and, Bool.and_false, Bool.not_true, Bool.not_false, Bool.false_eq_true, Bool.true_eq_false, Bool.and_eq_true, Bool.or_eq_true, Bool.not_eq_true', decide_eq_true_eq, decide_eq_false_iff_not, decide_true, decide_false, and_self, true_and, and_true, or_true, true_or, or_false, false_or, and_false, false_and, or_self, reduceCtorEq, not_true_eq_false, not_false_eq_true, if_true, if_false, Int32.reduceAdd, Int32.reduceSub, Int32.reduceMul, Int32.reduceDiv, Int32.reduceMod, Int32.reduceLT, Int32.reduceLE, eqF1, eqF2, Int32.reduceOfNat, Int32.reduceOfInt, Int32.reduceToNatClampNeg, inb_lit, e_X6_filledBy_0, e_X6_filledBy_1, e_X6_filledBy_4, e_X6_filledBy_5, e_X6_filledBy_6, e_X6_filledBy_8, e_X6_filledBy_9, e_X6_filledBy_11, e_X6_filledBy_12, e_X6_filledBy_14, e_X6_filledBy_15, e_X6_filledBy_17, e_X6_filledBy_19, e_X6_filledBy_22, e_X6_filledBy_23, e_X6_filledBy_24, e_X6_filledBy_25, e_X6_filledBy_28, e_X6_filledBy_29, e_X6_filledBy_30, e_X6_filledBy_34, e_X6_filledBy_37, e_X6_filledBy_39, e_X6_filledBy_40, e_X6_filledBy_43, e_X6_filledBy_44, e_X6_filledBy_47, e_X6_filledBy_49, e_X6_filledBy_51, e_X6_filledBy_52, e_X6_filledBy_53, e_X6_filledBy_54, e_X6_filledBy_56, e_X6_filledBy_58, e_X6_filledBy_60, e_X6_filledBy_61, e_X6_filledBy_63, e_X6_filledBy_64, e_X6_filledBy_67, e_X6_filledBy_69, e_X6_filledBy_71, e_X6_filledBy_74, e_X6_filledBy_76, e_X6_filledBy_79, e_X6_filledBy_81, e_X6_filledBy_82, e_X6_filledBy_84, e_X6_filledBy_87, e_X6_filledBy_90, e_X6_filledBy_91, e_X6_filledBy_93, e_X6_filledBy_96, e_X6_filledBy_98, e_X6_filledBy_100, e_X6_filledBy_102, e_X6_filledBy_103, e_X6_filledBy_104, e_X6_filledBy_105, e_X6_filledBy_108, e_X6_filledBy_109, e_X6_filledBy_112, e_X6_filledBy_113, e_X6_filledBy_115, e_X6_filledBy_117, e_X6_filledBy_120, e_X6_filledBy_122, e_X6_filledBy_125, e_X6_filledBy_126, e_X6_filledBy_128, e_X6_filledBy_131, e_X6_filledBy_134, e_X6_filledBy_136, e_X6_filledBy_139, e_X6_filledBy_140, e_X6_filledBy_142, e_X6_filledBy_145, e_X6_filledBy_148, e_X6_filledBy_149, e_X6_filledBy_150, e_X6_filledBy_152, e_X6_filledBy_153, e_X6_filledBy_155, e_X6_filledBy_156, e_X6_filledBy_157, e_X6_filledBy_159, e_X6_filledBy_162, e_X6_filledBy_165, e_X6_filledBy_168, e_X6_filledBy_170, sh_50, sh_51, sh_1, sh_2, sh_3, sh_4, sh_7, sh_8, sh_9, sh_10, sh_11, sh_12, sh_13, sh_29, sh_35, sh_53, sh_54, sh_55, sh_56, q1, q2, q3, q4, n1, md, dv, mi, ni, q1_wheelOf f4 s2' hib, e1i, c1, q1_onShelf w6, eq_true (e15.mpr c2), sh_wheel w6, a5', sh_row hk, q5_get (sh_row hk) (sh_rowB hk) (show 40 ≤ 4096 by omega) q40, ej, c3, oN_succ, jm]
              rw [e1]
              congr 3
              funext b q
              rw [upA_at2, upA_at2]
              by_cases hb : b = 51
              · rw [if_pos hb, if_pos hb]
              · rw [if_neg hb, if_neg hb, up_at, if_neg (fun h => hb h.1)]
            · show h' q = dS (if q = j then rest % (n + 1) else dgt (n + 1) j (rest / (n + 1)) q)
              by_cases hqj : q = j
              · rw [if_pos hqj, hi, e3 q (by omega), hqj, up_same]; unfold dS; rw [if_neg (by omega)]; rfl
              · rw [if_neg hqj]; exact e2 hne q (by omega)
        · have hm2 : mayP n g (e j) U (i + 1) = false := by rw [hmay]; simp [c2]
          rw [hm2]
          refine ⟨fun q => if q = j then Int32.ofNat i else I 51 q, ?_, fun hne => absurd rfl hne, fun q hq => if_neg (by omega)⟩
          simp only [K_some, K_void, K_none, wA_ref, wA_null, isNull_null, isNull_ref, c_int, c_long, c_ref, c_null, c_float, catS_nil, catS_cons, fit_int, fit_bool, fit_long, isO_mk, len_mk, fld_mk, gI_mk, gI0_mk, gZ_mk, gR_mk, isI_mk, isR_mk, tag_mk, lenE_mk, datR_mk, isOs, lenOs, fldS, lenS, gIs, gI0s, gZs, gRs, isIs, isRs, tagS, datRs, mkv, refV, fkS, isArr, tagOk, datI_mk, wrI_mk, wrA_mk, wrF_mk, wrJ_mk, List.length_cons, List.length_nil, List.getElem?_cons_zero, List.getElem?_cons_succ, List.getElem?_nil, ↓reduceIte, Nat.reduceAdd, Nat.reduceMul, Nat.reduceSub, Nat.reduceDiv, Nat.reduceMod, Nat.reduceLT, Nat.reduceLeDiff, Nat.reduceBEq, Nat.reduceEqDiff, Nat.zero_lt_succ, beq_self_eq_true, Bool.true_and, Bool.and_true, Bool.or_true, Bool.true_or, Bool.or_false, Bool.false_or, Bool.false_and, Bool.and_false, Bool.not_true, Bool.not_false, Bool.false_eq_true, Bool.true_eq_false, Bool.and_eq_true, Bool.or_eq_true, Bool.not_eq_true', decide_eq_true_eq, decide_eq_false_iff_not, decide_true, decide_false, and_self, true_and, and_true, or_true, true_or, or_false, false_or, and_false, false_and, or_self, reduceCtorEq, not_true_eq_false, not_false_eq_true, if_true, if_false, Int32.reduceAdd, Int32.reduceSub, Int32.reduceMul, Int32.reduceDiv, Int32.reduceMod, Int32.reduceLT, Int32.reduceLE, eqF1, eqF2, Int32.reduceOfNat, Int32.reduceOfInt, Int32.reduceToNatClampNeg, inb_lit, e_X6_filledBy_0, e_X6_filledBy_1, e_X6_filledBy_4, e_X6_filledBy_5, e_X6_filledBy_6, e_X6_filledBy_8, e_X6_filledBy_9, e_X6_filledBy_11, e_X6_filledBy_12, e_X6_filledBy_14, e_X6_filledBy_15, e_X6_filledBy_17, e_X6_filledBy_19, e_X6_filledBy_22, e_X6_filledBy_23, e_X6_filledBy_24, e_X6_filledBy_25, e_X6_filledBy_28, e_X6_filledBy_29, e_X6_filledBy_30, e_X6_filledBy_34, e_X6_filledBy_37, e_X6_filledBy_39, e_X6_filledBy_40, e_X6_filledBy_43, e_X6_filledBy_44, e_X6_filledBy_47, e_X6_filledBy_49, e_X6_filledBy_51, e_X6_filledBy_52, e_X6_filledBy_53, e_X6_filledBy_54, e_X6_filledBy_56, e_X6_filledBy_58, e_X6_filledBy_60, e_X6_filledBy_61, e_X6_filledBy_63, e_X6_filledBy_64, e_X6_filledBy_67, e_X6_filledBy_69, e_X6_filledBy_71, e_X6_filledBy_74, e_X6_filledBy_76, e_X6_filledBy_79, e_X6_filledBy_81, e_X6_filledBy_82, e_X6_filledBy_84, e_X6_filledBy_87, e_X6_filledBy_90, e_X6_filledBy_91, e_X6_filledBy_93, e_X6_filledBy_96, e_X6_filledBy_98, e_X6_filledBy_100, e_X6_filledBy_102, e_X6_filledBy_103, e_X6_filledBy_104, e_X6_filledBy_105, e_X6_filledBy_108, e_X6_filledBy_109, e_X6_filledBy_112, e_X6_filledBy_113, e_X6_filledBy_115, e_X6_filledBy_117, e_X6_filledBy_120, e_X6_filledBy_122, e_X6_filledBy_125, e_X6_filledBy_126, e_X6_filledBy_128, e_X6_filledBy_131, e_X6_filledBy_134, e_X6_filledBy_136, e_X6_filledBy_139, e_X6_filledBy_140, e_X6_filledBy_142, e_X6_filledBy_145, e_X6_filledBy_148, e_X6_filledBy_149, e_X6_filledBy_150, e_X6_filledBy_152, e_X6_filledBy_153, e_X6_filledBy_155, e_X6_filledBy_156, e_X6_filledBy_157, e_X6_filledBy_159, e_X6_filledBy_162, e_X6_filledBy_165, e_X6_filledBy_168, e_X6_filledBy_170, sh_50, sh_51, sh_1, sh_2, sh_3, sh_4, sh_7, sh_8, sh_9, sh_10, sh_11, sh_12, sh_13, sh_29, sh_35, sh_53, sh_54, sh_55, sh_56, q1, q2, q3, q4, n1, md, dv, mi, ni, q1_wheelOf f4 s2' hib, e1i, c1, q1_onShelf w6, eq_false (fun h => c2 (e15.mp h)), oV]
          rw [up_A]
      · have hm2 : mayP n g (e j) U (i + 1) = false := by rw [hmay]; simp [c1]
        rw [hm2]
        refine ⟨fun q => if q = j then Int32.ofNat i else I 51 q, ?_, fun hne => absurd rfl hne, fun q hq => if_neg (by omega)⟩
        simp only [K_some, K_void, K_none, wA_ref, wA_null, isNull_null, isNull_ref, c_int, c_long, c_ref, c_null, c_float, catS_nil, catS_cons, fit_int, fit_bool, fit_long, isO_mk, len_mk, fld_mk, gI_mk, gI0_mk, gZ_mk, gR_mk, isI_mk, isR_mk, tag_mk, lenE_mk, datR_mk, isOs, lenOs, fldS, lenS, gIs, gI0s, gZs, gRs, isIs, isRs, tagS, datRs, mkv, refV, fkS, isArr, tagOk, datI_mk, wrI_mk, wrA_mk, wrF_mk, wrJ_mk, List.length_cons, List.length_nil, List.getElem?_cons_zero, List.getElem?_cons_succ, List.getElem?_nil, ↓reduceIte, Nat.reduceAdd, Nat.reduceMul, Nat.reduceSub, Nat.reduceDiv, Nat.reduceMod, Nat.reduceLT, Nat.reduceLeDiff, Nat.reduceBEq, Nat.reduceEqDiff, Nat.zero_lt_succ, beq_self_eq_true, Bool.true_and, Bool.and_true, Bool.or_true, Bool.true_or, Bool.or_false, Bool.false_or, Bool.false_and, Bool.and_false, Bool.not_true, Bool.not_false, Bool.false_eq_true, Bool.true_eq_false, Bool.and_eq_true, Bool.or_eq_true, Bool.not_eq_true', decide_eq_true_eq, decide_eq_false_iff_not, decide_true, decide_false, and_self, true_and, and_true, or_true, true_or, or_false, false_or, and_false, false_and, or_self, reduceCtorEq, not_true_eq_false, not_false_eq_true, if_true, if_false, Int32.reduceAdd, Int32.reduceSub, Int32.reduceMul, Int32.reduceDiv, Int32.reduceMod, Int32.reduceLT, Int32.reduceLE, eqF1, eqF2, Int32.reduceOfNat, Int32.reduceOfInt, Int32.reduceToNatClampNeg, inb_lit, e_X6_filledBy_0, e_X6_filledBy_1, e_X6_filledBy_4, e_X6_filledBy_5, e_X6_filledBy_6, e_X6_filledBy_8, e_X6_filledBy_9, e_X6_filledBy_11, e_X6_filledBy_12, e_X6_filledBy_14, e_X6_filledBy_15, e_X6_filledBy_17, e_X6_filledBy_19, e_X6_filledBy_22, e_X6_filledBy_23, e_X6_filledBy_24, e_X6_filledBy_25, e_X6_filledBy_28, e_X6_filledBy_29, e_X6_filledBy_30, e_X6_filledBy_34, e_X6_filledBy_37, e_X6_filledBy_39, e_X6_filledBy_40, e_X6_filledBy_43, e_X6_filledBy_44, e_X6_filledBy_47, e_X6_filledBy_49, e_X6_filledBy_51, e_X6_filledBy_52, e_X6_filledBy_53, e_X6_filledBy_54, e_X6_filledBy_56, e_X6_filledBy_58, e_X6_filledBy_60, e_X6_filledBy_61, e_X6_filledBy_63, e_X6_filledBy_64, e_X6_filledBy_67, e_X6_filledBy_69, e_X6_filledBy_71, e_X6_filledBy_74, e_X6_filledBy_76, e_X6_filledBy_79, e_X6_filledBy_81, e_X6_filledBy_82, e_X6_filledBy_84, e_X6_filledBy_87, e_X6_filledBy_90, e_X6_filledBy_91, e_X6_filledBy_93, e_X6_filledBy_96, e_X6_filledBy_98, e_X6_filledBy_100, e_X6_filledBy_102, e_X6_filledBy_103, e_X6_filledBy_104, e_X6_filledBy_105, e_X6_filledBy_108, e_X6_filledBy_109, e_X6_filledBy_112, e_X6_filledBy_113, e_X6_filledBy_115, e_X6_filledBy_117, e_X6_filledBy_120, e_X6_filledBy_122, e_X6_filledBy_125, e_X6_filledBy_126, e_X6_filledBy_128, e_X6_filledBy_131, e_X6_filledBy_134, e_X6_filledBy_136, e_X6_filledBy_139, e_X6_filledBy_140, e_X6_filledBy_142, e_X6_filledBy_145, e_X6_filledBy_148, e_X6_filledBy_149, e_X6_filledBy_150, e_X6_filledBy_152, e_X6_filledBy_153, e_X6_filledBy_155, e_X6_filledBy_156, e_X6_filledBy_157, e_X6_filledBy_159, e_X6_filledBy_162, e_X6_filledBy_165, e_X6_filledBy_168, e_X6_filledBy_170, sh_50, sh_51, sh_1, sh_2, sh_3, sh_4, sh_7, sh_8, sh_9, sh_10, sh_11, sh_12, sh_13, sh_29, sh_35, sh_53, sh_54, sh_55, sh_56, q1, q2, q3, q4, n1, md, dv, mi, ni, q1_wheelOf f4 s2' hib, e1i, c1, oV]
        rw [up_A]
end
