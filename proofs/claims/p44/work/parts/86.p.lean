/-! THE LAW, 1226 to 1552: all is made, shows -/
theorem mull_5 {a : Nat} : 5 * Int32.ofNat a = Int32.ofNat (5 * a) := (Int32.ofNat_mul 5 a).symm
theorem or_bit' : ∀ (V : Fin 64) (a : Fin 6), Int32.ofNat V.val ||| ((1 : Int32) <<< (Int32.ofNat a.val &&& 31)) = Int32.ofNat (Nat.lor V.val (2 ^ a.val)) ∧ Nat.lor V.val (2 ^ a.val) < 64 ∧ (V.val.testBit a.val = false → popN 6 (Nat.lor V.val (2 ^ a.val)) 0 = popN 6 V.val 0 + 1) ∧ (Nat.lor V.val (2 ^ a.val)).testBit a.val = true := by decide +kernel
theorem or_bit2' : ∀ (V : Fin 64) (a b : Fin 6), ¬ a.val = b.val → (Nat.lor V.val (2 ^ a.val)).testBit b.val = V.val.testBit b.val := by decide +kernel
theorem sub_pop' : ∀ V S : Fin 64, Nat.land V.val S.val = V.val → popN 6 V.val 0 ≤ popN 6 S.val 0 := by decide +kernel
theorem sub_or' : ∀ (V S : Fin 64) (a : Fin 6), Nat.land V.val S.val = V.val → S.val.testBit a.val = true → Nat.land (Nat.lor V.val (2 ^ a.val)) S.val = Nat.lor V.val (2 ^ a.val) := by decide +kernel
theorem or_bit {V a : Nat} (hV : V < 64) (ha : a < 6) : Int32.ofNat V ||| ((1 : Int32) <<< (Int32.ofNat a &&& 31)) = Int32.ofNat (Nat.lor V (2 ^ a)) ∧ Nat.lor V (2 ^ a) < 64 ∧ (V.testBit a = false → popN 6 (Nat.lor V (2 ^ a)) 0 = popN 6 V 0 + 1) ∧ (Nat.lor V (2 ^ a)).testBit a = true := or_bit' ⟨V, hV⟩ ⟨a, ha⟩
theorem or_bit2 {V a b : Nat} (hV : V < 64) (ha : a < 6) (hb : b < 6) (h : ¬ a = b) : (Nat.lor V (2 ^ a)).testBit b = V.testBit b := or_bit2' ⟨V, hV⟩ ⟨a, ha⟩ ⟨b, hb⟩ h
theorem sub_pop {V S : Nat} (hV : V < 64) (hS : S < 64) (h : Nat.land V S = V) : popN 6 V 0 ≤ popN 6 S 0 := sub_pop' ⟨V, hV⟩ ⟨S, hS⟩ h
theorem sub_or {V S a : Nat} (hV : V < 64) (hS : S < 64) (ha : a < 6) (h : Nat.land V S = V) (h2 : S.testBit a = true) : Nat.land (Nat.lor V (2 ^ a)) S = Nat.lor V (2 ^ a) := sub_or' ⟨V, hV⟩ ⟨S, hS⟩ ⟨a, ha⟩ h h2
theorem bt_kb {g : FV} : ∀ (j i b : Nat), bitN g j i b = kbN (fun i => decide (ShP g i)) j i b
  | 0, _, _ => rfl
  | j + 1, i, b => by
    show bitN g j (i + 1) (b + if ShP g i then 2 ^ i else 0) = kbN (fun i => decide (ShP g i)) j (i + 1) (b + if decide (ShP g i) = true then 2 ^ i else 0)
    rw [bt_kb j (i + 1)]
    by_cases c : ShP g i
    · rw [if_pos c, if_pos (decide_eq_true c)]
    · rw [if_neg c, if_neg (fun h => c (of_decide_eq_true h))]
theorem bt_lt {g : FV} {n : Nat} (hn : n ≤ 6) : bitN g n 0 0 < 64 := by
  rw [bt_kb]
  have hl : kbN (fun i => decide (ShP g i)) n 0 0 < 2 ^ (0 + n) := kbN_lt (by simp)
  exact Nat.lt_of_lt_of_le hl (by rw [Nat.zero_add]; exact Nat.pow_le_pow_right (n := 2) (by omega) hn)
theorem bt_bit {g : FV} {n a : Nat} (ha : a < n) (h : ShP g a) : (bitN g n 0 0).testBit a = true := by
  rw [bt_kb, kb_bit n 0 0 a (by simp), if_neg (by omega), if_pos (by omega)]
  exact decide_eq_true h
def nzN (s : Nat → Nat) : Nat → Nat
  | 0 => 0
  | k + 1 => nzN s k + if s k = 0 then 0 else 1
theorem nz_congr {s s' : Nat → Nat} : ∀ {k : Nat}, (∀ q, q < k → s q = s' q) → nzN s k = nzN s' k
  | 0, _ => rfl
  | k + 1, h => by
    unfold nzN
    rw [h k (by omega), nz_congr (fun q hq => h q (by omega))]
/-- what a full hand of shows is -/
theorem vR_v {n : Nat} {g : FV} {e : Nat → Int32} (hn : n ≤ 6) : ∀ (j r U f F : Nat), U < 64 → vR (n + 1) n g e j r (Int32.ofNat U) f = some F → F = f + nzN (dgt (n + 1) j r) j ∧ ∀ q, q < j → dgt (n + 1) j r q ≠ 0 → dgt (n + 1) j r q - 1 < n ∧ ShP g (dgt (n + 1) j r q - 1) ∧ ¬ g (84 + (dgt (n + 1) j r q - 1)) < e q ∧ U.testBit (dgt (n + 1) j r q - 1) = false ∧ ∀ p, p < q → dgt (n + 1) j r p ≠ dgt (n + 1) j r q := by
  intro j
  induction j with
  | zero =>
    intro r U f F _ h
    cases h
    exact ⟨rfl, fun q hq => by omega⟩
  | succ j ih =>
    intro r U f F hU h
    have dj : dgt (n + 1) (j + 1) r j = r % (n + 1) := if_pos rfl
    have dq : ∀ q, q < j → dgt (n + 1) (j + 1) r q = dgt (n + 1) j (r / (n + 1)) q := fun q hq => if_neg (by omega)
    have hc : nzN (dgt (n + 1) (j + 1) r) j = nzN (dgt (n + 1) j (r / (n + 1))) j := nz_congr dq
    have hd : r % (n + 1) < n + 1 := Nat.mod_lt _ (by omega)
    unfold vR at h
    by_cases c : r % (n + 1) = 0
    · rw [if_pos c] at h
      obtain ⟨h1, h2⟩ := ih _ U f F hU h
      refine ⟨?_, fun q hq h0 => ?_⟩
      · show F = f + (nzN (dgt (n + 1) (j + 1) r) j + if dgt (n + 1) (j + 1) r j = 0 then 0 else 1)
        rw [hc, dj, if_pos c, h1]; rfl
      · by_cases e1 : q = j
        · subst e1; exact absurd (dj.trans c) h0
        · have hq' : q < j := by omega
          rw [dq q hq'] at h0 ⊢
          obtain ⟨a1, a2, a3, a4, a5⟩ := h2 q hq' h0
          refine ⟨a1, a2, a3, a4, fun p hp => ?_⟩
          rw [dq p (by omega)]
          exact a5 p hp
    · rw [if_neg c] at h
      by_cases m : mayP n g (e j) (Int32.ofNat U) (r % (n + 1)) = true
      · rw [if_pos m] at h
        unfold mayP at m
        simp only [Bool.and_eq_true, decide_eq_true_eq, Bool.not_eq_true', decide_eq_false_iff_not] at m
        obtain ⟨m1, m2, m3, m4⟩ := m
        have a6 : r % (n + 1) - 1 < 6 := by omega
        obtain ⟨o1, o2, -, o4⟩ := or_bit hU a6
        rw [o1] at h
        obtain ⟨h1, h2⟩ := ih _ _ _ F o2 h
        have m5 : U.testBit (r % (n + 1) - 1) = false := by
          rw [tb1 hU a6] at m2
          cases hb : U.testBit (r % (n + 1) - 1) with
          | false => rfl
          | true => rw [hb] at m2; exact absurd m2 (by decide)
        have ne : ∀ q, q < j → dgt (n + 1) j (r / (n + 1)) q ≠ r % (n + 1) := fun q hq he => by
          obtain ⟨-, -, -, a4, -⟩ := h2 q hq (by rw [he]; exact c)
          rw [he, o4] at a4
          cases a4
        refine ⟨?_, fun q hq h0 => ?_⟩
        · show F = f + (nzN (dgt (n + 1) (j + 1) r) j + if dgt (n + 1) (j + 1) r j = 0 then 0 else 1)
          rw [hc, dj, if_neg c, h1]; omega
        · by_cases e1 : q = j
          · subst e1
            rw [dj]
            refine ⟨m1, m3, m4, m5, fun p hp => ?_⟩
            rw [dq p hp]
            exact ne p hp
          · have hq' : q < j := by omega
            rw [dq q hq'] at h0 ⊢
            obtain ⟨a1, a2, a3, a4, a5⟩ := h2 q hq' h0
            have hq6 : dgt (n + 1) j (r / (n + 1)) q - 1 < 6 := by omega
            refine ⟨a1, a2, a3, ?_, fun p hp => ?_⟩
            · by_cases e2 : r % (n + 1) - 1 = dgt (n + 1) j (r / (n + 1)) q - 1
              · rw [← e2]; exact m5
              · rw [or_bit2 hU a6 hq6 e2] at a4; exact a4
            · rw [dq p (by omega)]
              exact a5 p hp
      · rw [if_neg m] at h; cases h
theorem dS_s {a : Nat} (h : a ≠ 0) : dS a = Int32.ofNat (a - 1) := if_neg h
theorem up25_b (v : Int32) : ¬ Int32.ofNat (upN v 25) < 0 ∧ ¬ 99 < Int32.ofNat (upN v 25) := by
  have := upN_lt v (m := 25) (by omega)
  refine ⟨oN_neg (by omega), fun h => ?_⟩
  have := (oN_lt (j := 99) (by omega) (by omega)).mp h
  omega
section
variable {d N a b c k n m i μ l p : Nat} {T I I' : IT} {J : JT} {r v y z w : Int32} {M : Mem} {H H0 : Nat → Fin 13} {g f : FV} {D D0 : List (Nat × Nat)} {K : Nat → Option (List (Nat × Nat))} {x κ q s : Nat → Nat} {E : Nat → Int32} {a0 a1 a2 a3 a4 a5 a6 a7 a8 a9 a10 a11 a12 a13 a14 a15 a16 a17 a18 a19 a20 a21 a22 a23 a24 a25 a26 a27 a28 a29 a30 a31 a32 a33 a34 a35 a36 a37 a38 a39 a40 a41 a42 a43 a44 : Value}
theorem lw_1229 (h23 : a23.category = 1) (hf : ∀ i, i < n → ∃ κ s, f (10 + i) = Int32.ofNat κ ∧ f (22 + i) = Int32.ofNat s ∧ κ ≤ 5 ∧ s ≤ 9) : ∀ (j k : Nat) (I : IT) (D : List (Nat × Nat)) (a25 : Value), k + j = n → WO T n l f H0 K D I → D.length + j ≤ 40 → ∃ (I' : IT) (D' : List (Nat × Nat)) (b25 : Value), R (d + 11) iL_law 1229 [a0, .ref 1, a2, .int (Int32.ofNat n), a4, a5, a6, a7, a8, a9, a10, a11, a12, a13, a14, a15, a16, a17, a18, a19, a20, a21, a22, a23, .int (Int32.ofNat k), a25, a26, a27, a28, a29, a30, a31, a32, a33, a34, a35, a36, a37, a38, a39, a40, a41, a42, a43, a44] [] (mk N I J) = R (d + 11) iL_law 1276 [a0, .ref 1, a2, .int (Int32.ofNat n), a4, a5, a6, a7, a8, a9, a10, a11, a12, a13, a14, a15, a16, a17, a18, a19, a20, a21, a22, a23, .int (Int32.ofNat n), b25, a26, a27, a28, a29, a30, a31, a32, a33, a34, a35, a36, a37, a38, a39, a40, a41, a42, a43, a44] [] (mk N I' J) ∧ WO T n l f H0 K D' I' := by
  intro j
  induction j with
  | zero =>
    intro k I D a25 hk hW hL
    obtain rfl : k = n := by omega
    have q1 : ¬ Int32.ofNat k < Int32.ofNat k := Int32.lt_irrefl
    refine ⟨I, D, a25, ?_, hW⟩
    rw [e_L_law_1229]
    simp only [K_some, K_void, K_none, wA_ref, wA_null, isNull_null, isNull_ref, c_int, c_long, c_ref, c_null, c_float, catS_nil, catS_cons, fit_int, fit_bool, fit_long, isO_mk, len_mk, fld_mk, gI_mk, gI0_mk, gZ_mk, gR_mk, isI_mk, isR_mk, tag_mk, lenE_mk, datR_mk, isOs, lenOs, fldS, lenS, gIs, gI0s, gZs, gRs, isIs, isRs, tagS, datRs, mkv, refV, fkS, isArr, tagOk, datI_mk, wrI_mk, wrA_mk, wrF_mk, wrJ_mk, List.length_cons, List.length_nil, List.getElem?_cons_zero, List.getElem?_cons_succ, List.getElem?_nil, ↓reduceIte, Nat.reduceAdd, Nat.reduceMul, Nat.reduceSub, Nat.reduceDiv, Nat.reduceMod, Nat.reduceLT, Nat.reduceLeDiff, Nat.reduceBEq, Nat.reduceEqDiff, Nat.zero_lt_succ, beq_self_eq_true, Bool.true_and, Bool.and_true, Bool.or_true, Bool.true_or, Bool.or_false, Bool.false_or, Bool.false_and, Bool.and_false, Bool.not_true, Bool.not_false, Bool.false_eq_true, Bool.true_eq_false, Bool.and_eq_true, Bool.or_eq_true, Bool.not_eq_true', decide_eq_true_eq, decide_eq_false_iff_not, decide_true, decide_false, and_self, true_and, and_true, or_true, true_or, or_false, false_or, and_false, false_and, or_self, reduceCtorEq, not_true_eq_false, not_false_eq_true, if_true, if_false, Int32.reduceAdd, Int32.reduceSub, Int32.reduceMul, Int32.reduceDiv, Int32.reduceMod, Int32.reduceLT, Int32.reduceLE, eqF1, eqF2, Int32.reduceOfNat, Int32.reduceOfInt, Int32.reduceToNatClampNeg, inb_lit, e_L_law_1231, e_L_law_1232, e_L_law_1235, e_L_law_1236, e_L_law_1238, e_L_law_1239, e_L_law_1242, e_L_law_1244, e_L_law_1246, e_L_law_1247, e_L_law_1250, e_L_law_1251, e_L_law_1254, e_L_law_1256, e_L_law_1259, e_L_law_1260, e_L_law_1262, e_L_law_1265, e_L_law_1268, e_L_law_1269, e_L_law_1270, e_L_law_1273, q1]
  | succ j ih =>
    intro k I D a25 hk hW hL
    have hn := hW.1.1.1
    have hkn : k < n := by omega
    have q1 : Int32.ofNat k < Int32.ofNat n := (oN_lt (by omega) (by omega)).mpr hkn
    have w1 := z_wheel (d := d + 1) (N := N) (J := J) (m := 3) hW hkn (by omega)
    rw [show Int32.ofNat 3 = 3 from rfl, show tlF (runF D f) k 3 = runF D f (78 + k) from rfl] at w1
    obtain ⟨x1, x2, x3⟩ := wo_t (v := runF D f (78 + k)) hW
    by_cases c : runF D f (78 + k) = -9
    · obtain ⟨I2, y1, y2, -, -⟩ := z_make (d := d + 1) (N := N) (J := J) x1 (by omega) hkn c
      rw [tl6 hW hkn] at y1
      obtain ⟨κ', s', f1, f2, k5, s9⟩ := hf k hkn
      have nn := (rnd_b (l := l) f1 f2 k5 s9 (totN_le (hF H0 D))).1
      obtain ⟨I3, D3, b25, g1, g2⟩ := ih (k + 1) I2 (D ++ [(2, k)]) (.int 1) (by omega) y2 (by rw [List.length_append, List.length_singleton]; omega)
      refine ⟨I3, D3, b25, ?_, g2⟩
      rw [e_L_law_1229]
      rw [c] at x3 w1 y1
      simp only [K_some, K_void, K_none, wA_ref, wA_null, isNull_null, isNull_ref, c_int, c_long, c_ref, c_null, c_float, catS_nil, catS_cons, fit_int, fit_bool, fit_long, isO_mk, len_mk, fld_mk, gI_mk, gI0_mk, gZ_mk, gR_mk, isI_mk, isR_mk, tag_mk, lenE_mk, datR_mk, isOs, lenOs, fldS, lenS, gIs, gI0s, gZs, gRs, isIs, isRs, tagS, datRs, mkv, refV, fkS, isArr, tagOk, datI_mk, wrI_mk, wrA_mk, wrF_mk, wrJ_mk, List.length_cons, List.length_nil, List.getElem?_cons_zero, List.getElem?_cons_succ, List.getElem?_nil, ↓reduceIte, Nat.reduceAdd, Nat.reduceMul, Nat.reduceSub, Nat.reduceDiv, Nat.reduceMod, Nat.reduceLT, Nat.reduceLeDiff, Nat.reduceBEq, Nat.reduceEqDiff, Nat.zero_lt_succ, beq_self_eq_true, Bool.true_and, Bool.and_true, Bool.or_true, Bool.true_or, Bool.or_false, Bool.false_or, Bool.false_and, Bool.and_false, Bool.not_true, Bool.not_false, Bool.false_eq_true, Bool.true_eq_false, Bool.and_eq_true, Bool.or_eq_true, Bool.not_eq_true', decide_eq_true_eq, decide_eq_false_iff_not, decide_true, decide_false, and_self, true_and, and_true, or_true, true_or, or_false, false_or, and_false, false_and, or_self, reduceCtorEq, not_true_eq_false, not_false_eq_true, if_true, if_false, Int32.reduceAdd, Int32.reduceSub, Int32.reduceMul, Int32.reduceDiv, Int32.reduceMod, Int32.reduceLT, Int32.reduceLE, eqF1, eqF2, Int32.reduceOfNat, Int32.reduceOfInt, Int32.reduceToNatClampNeg, inb_lit, e_L_law_1231, e_L_law_1232, e_L_law_1235, e_L_law_1236, e_L_law_1238, e_L_law_1239, e_L_law_1242, e_L_law_1244, e_L_law_1246, e_L_law_1247, e_L_law_1250, e_L_law_1251, e_L_law_1254, e_L_law_1256, e_L_law_1259, e_L_law_1260, e_L_law_1262, e_L_law_1265, e_L_law_1268, e_L_law_1269, e_L_law_1270, e_L_law_1273, sh_1, q1, w1, z_asked, x3, y1, nn, oN_succ, h23]
      exact g1
    · obtain ⟨I3, D3, b25, g1, g2⟩ := ih (k + 1) (up I 55 2 (runF D f (78 + k))) D (.int 1) (by omega) x1 (by omega)
      refine ⟨I3, D3, b25, ?_, g2⟩
      rw [e_L_law_1229]
      simp only [K_some, K_void, K_none, wA_ref, wA_null, isNull_null, isNull_ref, c_int, c_long, c_ref, c_null, c_float, catS_nil, catS_cons, fit_int, fit_bool, fit_long, isO_mk, len_mk, fld_mk, gI_mk, gI0_mk, gZ_mk, gR_mk, isI_mk, isR_mk, tag_mk, lenE_mk, datR_mk, isOs, lenOs, fldS, lenS, gIs, gI0s, gZs, gRs, isIs, isRs, tagS, datRs, mkv, refV, fkS, isArr, tagOk, datI_mk, wrI_mk, wrA_mk, wrF_mk, wrJ_mk, List.length_cons, List.length_nil, List.getElem?_cons_zero, List.getElem?_cons_succ, List.getElem?_nil, ↓reduceIte, Nat.reduceAdd, Nat.reduceMul, Nat.reduceSub, Nat.reduceDiv, Nat.reduceMod, Nat.reduceLT, Nat.reduceLeDiff, Nat.reduceBEq, Nat.reduceEqDiff, Nat.zero_lt_succ, beq_self_eq_true, Bool.true_and, Bool.and_true, Bool.or_true, Bool.true_or, Bool.or_false, Bool.false_or, Bool.false_and, Bool.and_false, Bool.not_true, Bool.not_false, Bool.false_eq_true, Bool.true_eq_false, Bool.and_eq_true, Bool.or_eq_true, Bool.not_eq_true', decide_eq_true_eq, decide_eq_false_iff_not, decide_true, decide_false, and_self, true_and, and_true, or_true, true_or, or_false, false_or, and_false, false_and, or_self, reduceCtorEq, not_true_eq_false, not_false_eq_true, if_true, if_false, Int32.reduceAdd, Int32.reduceSub, Int32.reduceMul, Int32.reduceDiv, Int32.reduceMod, Int32.reduceLT, Int32.reduceLE, eqF1, eqF2, Int32.reduceOfNat, Int32.reduceOfInt, Int32.reduceToNatClampNeg, inb_lit, e_L_law_1231, e_L_law_1232, e_L_law_1235, e_L_law_1236, e_L_law_1238, e_L_law_1239, e_L_law_1242, e_L_law_1244, e_L_law_1246, e_L_law_1247, e_L_law_1250, e_L_law_1251, e_L_law_1254, e_L_law_1256, e_L_law_1259, e_L_law_1260, e_L_law_1262, e_L_law_1265, e_L_law_1268, e_L_law_1269, e_L_law_1270, e_L_law_1273, sh_1, q1, w1, z_asked, x3, c, oN_succ, h23]
      exact g1
theorem lw_1305 (hN : N / 4 ≤ 260) (h0 : a0 = .ref 0) (hm : m ≤ 40) (hE : ∀ q, E q = Int32.ofNat (upN (celV N (T 0) 16 >>> (Int32.ofNat (5 * q) &&& 31)) 25)) : ∀ (j k : Nat) (I : IT), k + j = m → WO T n l f H0 K D I → Rw I 1 m (fun q => if q < k then E q else 0) → ∃ (I' : IT), R (d + 11) iL_law 1305 [a0, .ref 1, a2, a3, a4, a5, a6, a7, a8, a9, a10, a11, a12, a13, a14, a15, a16, a17, a18, a19, a20, a21, a22, a23, .int (Int32.ofNat m), .int (Int32.ofNat k), a26, a27, a28, a29, a30, a31, a32, a33, a34, a35, a36, a37, a38, a39, a40, a41, a42, a43, a44] [] (mk N I J) = R (d + 11) iL_law 1347 [a0, .ref 1, a2, a3, a4, a5, a6, a7, a8, a9, a10, a11, a12, a13, a14, a15, a16, a17, a18, a19, a20, a21, a22, a23, .int (Int32.ofNat m), .int (Int32.ofNat m), a26, a27, a28, a29, a30, a31, a32, a33, a34, a35, a36, a37, a38, a39, a40, a41, a42, a43, a44] [] (mk N I' J) ∧ WO T n l f H0 K D I' ∧ Rw I' 1 m E := by
  subst h0
  intro j
  induction j with
  | zero =>
    intro k I hk hW hR
    obtain rfl : k = m := by omega
    have q1 : ¬ Int32.ofNat k < Int32.ofNat k := Int32.lt_irrefl
    refine ⟨I, ?_, hW, rw_e hR (fun q hq => if_pos hq)⟩
    rw [e_L_law_1305]
    simp only [K_some, K_void, K_none, wA_ref, wA_null, isNull_null, isNull_ref, c_int, c_long, c_ref, c_null, c_float, catS_nil, catS_cons, fit_int, fit_bool, fit_long, isO_mk, len_mk, fld_mk, gI_mk, gI0_mk, gZ_mk, gR_mk, isI_mk, isR_mk, tag_mk, lenE_mk, datR_mk, isOs, lenOs, fldS, lenS, gIs, gI0s, gZs, gRs, isIs, isRs, tagS, datRs, mkv, refV, fkS, isArr, tagOk, datI_mk, wrI_mk, wrA_mk, wrF_mk, wrJ_mk, List.length_cons, List.length_nil, List.getElem?_cons_zero, List.getElem?_cons_succ, List.getElem?_nil, ↓reduceIte, Nat.reduceAdd, Nat.reduceMul, Nat.reduceSub, Nat.reduceDiv, Nat.reduceMod, Nat.reduceLT, Nat.reduceLeDiff, Nat.reduceBEq, Nat.reduceEqDiff, Nat.zero_lt_succ, beq_self_eq_true, Bool.true_and, Bool.and_true, Bool.or_true, Bool.true_or, Bool.or_false, Bool.false_or, Bool.false_and, Bool.and_false, Bool.not_true, Bool.not_false, Bool.false_eq_true, Bool.true_eq_false, Bool.and_eq_true, Bool.or_eq_true, Bool.not_eq_true', decide_eq_true_eq, decide_eq_false_iff_not, decide_true, decide_false, and_self, true_and, and_true, or_true, true_or, or_false, false_or, and_false, false_and, or_self, reduceCtorEq, not_true_eq_false, not_false_eq_true, if_true, if_false, Int32.reduceAdd, Int32.reduceSub, Int32.reduceMul, Int32.reduceDiv, Int32.reduceMod, Int32.reduceLT, Int32.reduceLE, eqF1, eqF2, Int32.reduceOfNat, Int32.reduceOfInt, Int32.reduceToNatClampNeg, inb_lit, e_L_law_1307, e_L_law_1309, e_L_law_1312, e_L_law_1313, e_L_law_1314, e_L_law_1316, e_L_law_1317, e_L_law_1319, e_L_law_1322, e_L_law_1323, e_L_law_1325, e_L_law_1326, e_L_law_1327, e_L_law_1329, e_L_law_1332, e_L_law_1335, e_L_law_1336, e_L_law_1339, e_L_law_1340, e_L_law_1341, e_L_law_1344, q1]
  | succ j ih =>
    intro k I hk hW hR
    have hkm : k < m := by omega
    have q1 : Int32.ofNat k < Int32.ofNat m := (oN_lt (by omega) (by omega)).mpr hkm
    have i0 : I 0 = T 0 := hW.2.2.2.2.2 0 (by unfold fx; omega)
    obtain ⟨I2, y1, y2, y3, y4⟩ := z_lay (d := d + 1) (N := N) (J := J) (v := E k) hW hR hkm
    rw [show Int32.ofNat 1 = 1 from rfl, hE k] at y1
    obtain ⟨I3, g1, g2, g3⟩ := ih (k + 1) I2 (by omega) y2 (rw_e y3 (fun q hq => by
      show (if q = k then E k else if q < k then E q else 0) = if q < k + 1 then E q else 0
      by_cases c1 : q = k
      · subst c1; rw [if_pos rfl, if_pos (by omega)]
      · rw [if_neg c1]
        by_cases c2 : q < k
        · rw [if_pos c2, if_pos (by omega)]
        · rw [if_neg c2, if_neg (by omega)]))
    refine ⟨I3, ?_, g2, g3⟩
    rw [e_L_law_1305]
    simp only [K_some, K_void, K_none, wA_ref, wA_null, isNull_null, isNull_ref, c_int, c_long, c_ref, c_null, c_float, catS_nil, catS_cons, fit_int, fit_bool, fit_long, isO_mk, len_mk, fld_mk, gI_mk, gI0_mk, gZ_mk, gR_mk, isI_mk, isR_mk, tag_mk, lenE_mk, datR_mk, isOs, lenOs, fldS, lenS, gIs, gI0s, gZs, gRs, isIs, isRs, tagS, datRs, mkv, refV, fkS, isArr, tagOk, datI_mk, wrI_mk, wrA_mk, wrF_mk, wrJ_mk, List.length_cons, List.length_nil, List.getElem?_cons_zero, List.getElem?_cons_succ, List.getElem?_nil, ↓reduceIte, Nat.reduceAdd, Nat.reduceMul, Nat.reduceSub, Nat.reduceDiv, Nat.reduceMod, Nat.reduceLT, Nat.reduceLeDiff, Nat.reduceBEq, Nat.reduceEqDiff, Nat.zero_lt_succ, beq_self_eq_true, Bool.true_and, Bool.and_true, Bool.or_true, Bool.true_or, Bool.or_false, Bool.false_or, Bool.false_and, Bool.and_false, Bool.not_true, Bool.not_false, Bool.false_eq_true, Bool.true_eq_false, Bool.and_eq_true, Bool.or_eq_true, Bool.not_eq_true', decide_eq_true_eq, decide_eq_false_iff_not, decide_true, decide_false, and_self, true_and, and_true, or_true, true_or, or_false, false_or, and_false, false_and, or_self, reduceCtorEq, not_true_eq_false, not_false_eq_true, if_true, if_false, Int32.reduceAdd, Int32.reduceSub, Int32.reduceMul, Int32.reduceDiv, Int32.reduceMod, Int32.reduceLT, Int32.reduceLE, eqF1, eqF2, Int32.reduceOfNat, Int32.reduceOfInt, Int32.reduceToNatClampNeg, inb_lit, e_L_law_1307, e_L_law_1309, e_L_law_1312, e_L_law_1313, e_L_law_1314, e_L_law_1316, e_L_law_1317, e_L_law_1319, e_L_law_1322, e_L_law_1323, e_L_law_1325, e_L_law_1326, e_L_law_1327, e_L_law_1329, e_L_law_1332, e_L_law_1335, e_L_law_1336, e_L_law_1339, e_L_law_1340, e_L_law_1341, e_L_law_1344, q1, sh_1, l_cell hN, i0, mull_5, l_up2, l_up4, l_up5, l_up6, l_up7, l_up9, l_up10, l_up15, l_up25, l_up30, l_up40, l_up60, l_up2000000, y1, oN_succ]
    exact g1
theorem lw_1364 (hN : N / 4 ≤ 260) (h0 : a0 = .ref 0) (h25 : a25.category = 1) (hm : m ≤ 4) (hE : ∀ q, E q = Int32.ofNat (upN (celV N (T 0) 16 >>> (Int32.ofNat (5 * q) &&& 31)) 25)) (hs : ∀ q, q < m → s q ≠ 0 → s q - 1 < n ∧ ShP (runF D f) (s q - 1) ∧ ¬ runF D f (84 + (s q - 1)) < E q ∧ ∀ p, p < q → s p ≠ s q) (hB : bitN (runF D f) n 0 0 = b) : ∀ (j k V : Nat) (I : IT) (a29 a30 : Value), k + j = m → WO T n l f H0 K D I → Rw I 4 m (fun q => dS (s q)) → V < 64 → Nat.land V b = V → (∀ q, k ≤ q → q < m → s q ≠ 0 → V.testBit (s q - 1) = false) → popN 6 V 0 = nzN s k → ∃ (I' : IT) (V' : Nat) (b29 b30 : Value), R (d + 11) iL_law 1364 [a0, .ref 1, a2, .int (Int32.ofNat n), a4, a5, a6, a7, a8, a9, a10, a11, a12, a13, a14, a15, a16, a17, a18, a19, a20, a21, a22, a23, .int (Int32.ofNat m), a25, .int (Int32.ofNat V), .int (Int32.ofNat (nzN s k)), .int (Int32.ofNat k), a29, a30, a31, a32, a33, a34, a35, a36, a37, a38, a39, a40, a41, a42, a43, a44] [] (mk N I J) = R (d + 11) iL_law 1510 [a0, .ref 1, a2, .int (Int32.ofNat n), a4, a5, a6, a7, a8, a9, a10, a11, a12, a13, a14, a15, a16, a17, a18, a19, a20, a21, a22, a23, .int (Int32.ofNat m), a25, .int (Int32.ofNat V'), .int (Int32.ofNat (nzN s m)), .int (Int32.ofNat m), b29, b30, a31, a32, a33, a34, a35, a36, a37, a38, a39, a40, a41, a42, a43, a44] [] (mk N I' J) ∧ WO T n l f H0 K D I' ∧ V' < 64 ∧ Nat.land V' b = V' ∧ popN 6 V' 0 = nzN s m := by
  subst h0
  intro j
  induction j with
  | zero =>
    intro k V I a29 a30 hk hW hR hV hVb hf hp
    obtain rfl : k = m := by omega
    have q1 : ¬ Int32.ofNat k < Int32.ofNat k := Int32.lt_irrefl
    refine ⟨I, V, a29, a30, ?_, hW, hV, hVb, hp⟩
    rw [e_L_law_1364]
    simp only [K_some, K_void, K_none, wA_ref, wA_null, isNull_null, isNull_ref, c_int, c_long, c_ref, c_null, c_float, catS_nil, catS_cons, fit_int, fit_bool, fit_long, isO_mk, len_mk, fld_mk, gI_mk, gI0_mk, gZ_mk, gR_mk, isI_mk, isR_mk, tag_mk, lenE_mk, datR_mk, isOs, lenOs, fldS, lenS, gIs, gI0s, gZs, gRs, isIs, isRs, tagS, datRs, mkv, refV, fkS, isArr, tagOk, datI_mk, wrI_mk, wrA_mk, wrF_mk, wrJ_mk, List.length_cons, List.length_nil, List.getElem?_cons_zero, List.getElem?_cons_succ, List.getElem?_nil, ↓reduceIte, Nat.reduceAdd, Nat.reduceMul, Nat.reduceSub, Nat.reduceDiv, Nat.reduceMod, Nat.reduceLT, Nat.reduceLeDiff, Nat.reduceBEq, Nat.reduceEqDiff, Nat.zero_lt_succ, beq_self_eq_true, Bool.true_and, Bool.and_true, Bool.or_true, Bool.true_or, Bool.or_false, Bool.false_or, Bool.false_and, Bool.and_false, Bool.not_true, Bool.not_false, Bool.false_eq_true, Bool.true_eq_false, Bool.and_eq_true, Bool.or_eq_true, Bool.not_eq_true', decide_eq_true_eq, decide_eq_false_iff_not, decide_true, decide_false, and_self, true_and, and_true, or_true, true_or, or_false, false_or, and_false, false_and, or_self, reduceCtorEq, not_true_eq_false, not_false_eq_true, if_true, if_false, Int32.reduceAdd, Int32.reduceSub, Int32.reduceMul, Int32.reduceDiv, Int32.reduceMod, Int32.reduceLT, Int32.reduceLE, eqF1, eqF2, Int32.reduceOfNat, Int32.reduceOfInt, Int32.reduceToNatClampNeg, inb_lit, e_L_law_1366, e_L_law_1368, e_L_law_1371, e_L_law_1372, e_L_law_1373, e_L_law_1375, e_L_law_1378, e_L_law_1380, e_L_law_1381, e_L_law_1384, e_L_law_1386, e_L_law_1388, e_L_law_1389, e_L_law_1392, e_L_law_1394, e_L_law_1396, e_L_law_1399, e_L_law_1401, e_L_law_1404, e_L_law_1406, e_L_law_1407, e_L_law_1410, e_L_law_1412, e_L_law_1414, e_L_law_1415, e_L_law_1416, e_L_law_1417, e_L_law_1418, e_L_law_1421, e_L_law_1422, e_L_law_1423, e_L_law_1426, e_L_law_1428, e_L_law_1429, e_L_law_1430, e_L_law_1431, e_L_law_1432, e_L_law_1435, e_L_law_1436, e_L_law_1438, e_L_law_1439, e_L_law_1442, e_L_law_1443, e_L_law_1446, e_L_law_1447, e_L_law_1450, e_L_law_1451, e_L_law_1453, e_L_law_1456, e_L_law_1457, e_L_law_1459, e_L_law_1460, e_L_law_1461, e_L_law_1463, e_L_law_1466, e_L_law_1469, e_L_law_1470, e_L_law_1471, e_L_law_1473, e_L_law_1475, e_L_law_1478, e_L_law_1479, e_L_law_1482, e_L_law_1483, e_L_law_1485, e_L_law_1486, e_L_law_1487, e_L_law_1489, e_L_law_1491, e_L_law_1493, e_L_law_1496, e_L_law_1497, e_L_law_1500, e_L_law_1501, e_L_law_1502, e_L_law_1504, e_L_law_1507, q1]
  | succ j ih =>
    intro k V I a29 a30 hk hW hR hV hVb hf hp
    have hn := hW.1.1.1
    have hkm : k < m := by omega
    have q1 : Int32.ofNat k < Int32.ofNat m := (oN_lt (by omega) (by omega)).mpr hkm
    have t1 := z_at (d := d + 1) (N := N) (J := J) hR hkm
    rw [show Int32.ofNat 4 = 4 from rfl] at t1
    have hb64 : b < 64 := by rw [← hB]; exact bt_lt hn
    by_cases c : s k = 0
    · simp only [c, dS_0] at t1
      obtain ⟨x1, x2, x3⟩ := wo_t (v := -9) hW
      have nz : nzN s (k + 1) = nzN s k := by show nzN s k + (if s k = 0 then 0 else 1) = _; rw [if_pos c, Nat.add_zero]
      obtain ⟨I2, V2, b29, b30, g1, g2, g3, g4, g5⟩ := ih (k + 1) V _ (.int 1) (.int (-9)) (by omega) x1 (rw_q hR x2) hV hVb (fun q h1 h2 h3 => hf q (by omega) h2 h3) (by rw [nz]; exact hp)
      refine ⟨I2, V2, b29, b30, ?_, g2, g3, g4, g5⟩
      rw [nz] at g1
      rw [e_L_law_1364]
      simp only [K_some, K_void, K_none, wA_ref, wA_null, isNull_null, isNull_ref, c_int, c_long, c_ref, c_null, c_float, catS_nil, catS_cons, fit_int, fit_bool, fit_long, isO_mk, len_mk, fld_mk, gI_mk, gI0_mk, gZ_mk, gR_mk, isI_mk, isR_mk, tag_mk, lenE_mk, datR_mk, isOs, lenOs, fldS, lenS, gIs, gI0s, gZs, gRs, isIs, isRs, tagS, datRs, mkv, refV, fkS, isArr, tagOk, datI_mk, wrI_mk, wrA_mk, wrF_mk, wrJ_mk, List.length_cons, List.length_nil, List.getElem?_cons_zero, List.getElem?_cons_succ, List.getElem?_nil, ↓reduceIte, Nat.reduceAdd, Nat.reduceMul, Nat.reduceSub, Nat.reduceDiv, Nat.reduceMod, Nat.reduceLT, Nat.reduceLeDiff, Nat.reduceBEq, Nat.reduceEqDiff, Nat.zero_lt_succ, beq_self_eq_true, Bool.true_and, Bool.and_true, Bool.or_true, Bool.true_or, Bool.or_false, Bool.false_or, Bool.false_and, Bool.and_false, Bool.not_true, Bool.not_false, Bool.false_eq_true, Bool.true_eq_false, Bool.and_eq_true, Bool.or_eq_true, Bool.not_eq_true', decide_eq_true_eq, decide_eq_false_iff_not, decide_true, decide_false, and_self, true_and, and_true, or_true, true_or, or_false, false_or, and_false, false_and, or_self, reduceCtorEq, not_true_eq_false, not_false_eq_true, if_true, if_false, Int32.reduceAdd, Int32.reduceSub, Int32.reduceMul, Int32.reduceDiv, Int32.reduceMod, Int32.reduceLT, Int32.reduceLE, eqF1, eqF2, Int32.reduceOfNat, Int32.reduceOfInt, Int32.reduceToNatClampNeg, inb_lit, e_L_law_1366, e_L_law_1368, e_L_law_1371, e_L_law_1372, e_L_law_1373, e_L_law_1375, e_L_law_1378, e_L_law_1380, e_L_law_1381, e_L_law_1384, e_L_law_1386, e_L_law_1388, e_L_law_1389, e_L_law_1392, e_L_law_1394, e_L_law_1396, e_L_law_1399, e_L_law_1401, e_L_law_1404, e_L_law_1406, e_L_law_1407, e_L_law_1410, e_L_law_1412, e_L_law_1414, e_L_law_1415, e_L_law_1416, e_L_law_1417, e_L_law_1418, e_L_law_1421, e_L_law_1422, e_L_law_1423, e_L_law_1426, e_L_law_1428, e_L_law_1429, e_L_law_1430, e_L_law_1431, e_L_law_1432, e_L_law_1435, e_L_law_1436, e_L_law_1438, e_L_law_1439, e_L_law_1442, e_L_law_1443, e_L_law_1446, e_L_law_1447, e_L_law_1450, e_L_law_1451, e_L_law_1453, e_L_law_1456, e_L_law_1457, e_L_law_1459, e_L_law_1460, e_L_law_1461, e_L_law_1463, e_L_law_1466, e_L_law_1469, e_L_law_1470, e_L_law_1471, e_L_law_1473, e_L_law_1475, e_L_law_1478, e_L_law_1479, e_L_law_1482, e_L_law_1483, e_L_law_1485, e_L_law_1486, e_L_law_1487, e_L_law_1489, e_L_law_1491, e_L_law_1493, e_L_law_1496, e_L_law_1497, e_L_law_1500, e_L_law_1501, e_L_law_1502, e_L_law_1504, e_L_law_1507, sh_1, q1, t1, z_asked, x3, show ((-9 : Int32) < 0) = True from by decide, Int32.or_zero, Int32.add_zero, oN_succ, h25]
      exact g1
    · obtain ⟨s1, s2, s3, s4⟩ := hs k hkm c
      obtain ⟨α, hα⟩ : ∃ α, s k - 1 = α := ⟨_, rfl⟩
      have t2 := dS_s c
      rw [hα] at s1 s2 s3 t2
      have a6 : α < 6 := by omega
      simp only [t2] at t1
      obtain ⟨x1, x2, x3⟩ := wo_t (v := Int32.ofNat α) hW
      have c5 := z_c5 (d := d + 1) (N := N) (J := J) x1
      rw [hB] at c5
      have w4 := z_wheel (d := d + 1) (N := N) (J := J) (m := 4) x1 s1 (by omega)
      rw [show Int32.ofNat 4 = 4 from rfl, show tlF (runF D f) α 4 = runF D f (84 + α) from rfl] at w4
      obtain ⟨u1, u2, u3⟩ := wo_t (v := runF D f (84 + α)) x1
      have i0 := u1.2.2.2.2.2 0 (by unfold fx; omega)
      rw [hE k] at s3
      have n1 := oN_neg (k := α) (by omega)
      have n2 : Int32.ofNat α ≠ -9 := fun h => by rw [h] at n1; exact n1 (by decide)
      have n3 : Int32.ofNat α < Int32.ofNat n := (oN_lt (by omega) (by omega)).mpr s1
      have vb := hf k (Nat.le_refl _) hkm c
      rw [hα] at vb
      have n4 := tb1 hV a6
      rw [vb, if_neg (by decide)] at n4
      have n5 := tb1 hb64 a6
      rw [← hB, bt_bit s1 s2, if_pos rfl, hB] at n5
      obtain ⟨o1, o2, o3, o4⟩ := or_bit hV a6
      have nz : nzN s (k + 1) = nzN s k + 1 := by show nzN s k + (if s k = 0 then 0 else 1) = _; rw [if_neg c]
      obtain ⟨I2, V2, b29, b30, g1, g2, g3, g4, g5⟩ := ih (k + 1) (Nat.lor V (2 ^ α)) _ (.int 1) (.int (Int32.ofNat α)) (by omega) u1 (rw_q (rw_q hR x2) u2) o2 (sub_or hV hb64 a6 hVb (by rw [← hB]; exact bt_bit s1 s2)) (fun q h1 h2 h3 => by
        obtain ⟨r1, -, -, r4⟩ := hs q h2 h3
        have r5 := r4 k (by omega)
        rw [or_bit2 hV a6 (show s q - 1 < 6 by omega) (by omega)]
        exact hf q (by omega) h2 h3) (by rw [nz, o3 vb, hp])
      refine ⟨I2, V2, b29, b30, ?_, g2, g3, g4, g5⟩
      rw [nz] at g1
      rw [e_L_law_1364]
      simp only [K_some, K_void, K_none, wA_ref, wA_null, isNull_null, isNull_ref, c_int, c_long, c_ref, c_null, c_float, catS_nil, catS_cons, fit_int, fit_bool, fit_long, isO_mk, len_mk, fld_mk, gI_mk, gI0_mk, gZ_mk, gR_mk, isI_mk, isR_mk, tag_mk, lenE_mk, datR_mk, isOs, lenOs, fldS, lenS, gIs, gI0s, gZs, gRs, isIs, isRs, tagS, datRs, mkv, refV, fkS, isArr, tagOk, datI_mk, wrI_mk, wrA_mk, wrF_mk, wrJ_mk, List.length_cons, List.length_nil, List.getElem?_cons_zero, List.getElem?_cons_succ, List.getElem?_nil, ↓reduceIte, Nat.reduceAdd, Nat.reduceMul, Nat.reduceSub, Nat.reduceDiv, Nat.reduceMod, Nat.reduceLT, Nat.reduceLeDiff, Nat.reduceBEq, Nat.reduceEqDiff, Nat.zero_lt_succ, beq_self_eq_true, Bool.true_and, Bool.and_true, Bool.or_true, Bool.true_or, Bool.or_false, Bool.false_or, Bool.false_and, Bool.and_false, Bool.not_true, Bool.not_false, Bool.false_eq_true, Bool.true_eq_false, Bool.and_eq_true, Bool.or_eq_true, Bool.not_eq_true', decide_eq_true_eq, decide_eq_false_iff_not, decide_true, decide_false, and_self, true_and, and_true, or_true, true_or, or_false, false_or, and_false, false_and, or_self, reduceCtorEq, not_true_eq_false, not_false_eq_true, if_true, if_false, Int32.reduceAdd, Int32.reduceSub, Int32.reduceMul, Int32.reduceDiv, Int32.reduceMod, Int32.reduceLT, Int32.reduceLE, eqF1, eqF2, Int32.reduceOfNat, Int32.reduceOfInt, Int32.reduceToNatClampNeg, inb_lit, e_L_law_1366, e_L_law_1368, e_L_law_1371, e_L_law_1372, e_L_law_1373, e_L_law_1375, e_L_law_1378, e_L_law_1380, e_L_law_1381, e_L_law_1384, e_L_law_1386, e_L_law_1388, e_L_law_1389, e_L_law_1392, e_L_law_1394, e_L_law_1396, e_L_law_1399, e_L_law_1401, e_L_law_1404, e_L_law_1406, e_L_law_1407, e_L_law_1410, e_L_law_1412, e_L_law_1414, e_L_law_1415, e_L_law_1416, e_L_law_1417, e_L_law_1418, e_L_law_1421, e_L_law_1422, e_L_law_1423, e_L_law_1426, e_L_law_1428, e_L_law_1429, e_L_law_1430, e_L_law_1431, e_L_law_1432, e_L_law_1435, e_L_law_1436, e_L_law_1438, e_L_law_1439, e_L_law_1442, e_L_law_1443, e_L_law_1446, e_L_law_1447, e_L_law_1450, e_L_law_1451, e_L_law_1453, e_L_law_1456, e_L_law_1457, e_L_law_1459, e_L_law_1460, e_L_law_1461, e_L_law_1463, e_L_law_1466, e_L_law_1469, e_L_law_1470, e_L_law_1471, e_L_law_1473, e_L_law_1475, e_L_law_1478, e_L_law_1479, e_L_law_1482, e_L_law_1483, e_L_law_1485, e_L_law_1486, e_L_law_1487, e_L_law_1489, e_L_law_1491, e_L_law_1493, e_L_law_1496, e_L_law_1497, e_L_law_1500, e_L_law_1501, e_L_law_1502, e_L_law_1504, e_L_law_1507, sh_1, q1, t1, z_asked, x3, n1, n2, n3, n4, c5, n5, w4, u3, l_cell hN, i0, mull_5, l_up2, l_up4, l_up5, l_up6, l_up7, l_up9, l_up10, l_up15, l_up25, l_up30, l_up40, l_up60, l_up2000000, s3, o1, oN_succ, h25]
      exact g1
theorem lw_1226 (hN : N / 4 ≤ 260) (hW : WO T n l f H0 K D0 I) (hK : K 0 = some D0) (hL : D0.length ≤ 9) (hf : ∀ i, i < n → ∃ κ s, f (10 + i) = Int32.ofNat κ ∧ f (22 + i) = Int32.ofNat s ∧ κ ≤ 5 ∧ s ≤ 9) (h23 : a23.category = 1) : ∃ (I' : IT) (b24 b25 b26 b27 b28 b29 b30 : Value), R (d + 11) iL_law 1226 [.ref 0, .ref 1, a2, .int (Int32.ofNat n), .int (Int32.ofNat D0.length), a5, a6, .int (Int32.ofNat (bitN (runF D0 f) n 0 0)), a8, a9, a10, a11, a12, a13, a14, a15, a16, a17, a18, a19, a20, a21, a22, a23, a24, a25, a26, a27, a28, a29, a30, a31, a32, a33, a34, a35, a36, a37, a38, a39, a40, a41, a42, a43, a44] [] (mk N I J) = R (d + 11) iL_law 1552 [.ref 0, .ref 1, a2, .int (Int32.ofNat n), .int (Int32.ofNat D0.length), a5, a6, .int (Int32.ofNat (bitN (runF D0 f) n 0 0)), a8, a9, a10, a11, a12, a13, a14, a15, a16, a17, a18, a19, a20, a21, a22, a23, b24, b25, b26, b27, b28, b29, b30, a31, a32, a33, a34, a35, a36, a37, a38, a39, a40, a41, a42, a43, a44] [] (mk N I' J) ∧ WO T n l f H0 K D0 I' ∧ b27.category = 1 := by
  have hn := hW.1.1.1
  obtain ⟨I1, D1, b25, c1, c2⟩ := lw_1229 (d := d) (N := N) (J := J) (a0 := .ref 0) (a2 := a2) (a4 := .int (Int32.ofNat D0.length)) (a5 := a5) (a6 := a6) (a7 := .int (Int32.ofNat (bitN (runF D0 f) n 0 0))) (a8 := a8) (a9 := a9) (a10 := a10) (a11 := a11) (a12 := a12) (a13 := a13) (a14 := a14) (a15 := a15) (a16 := a16) (a17 := a17) (a18 := a18) (a19 := a19) (a20 := a20) (a21 := a21) (a22 := a22) (a23 := a23) (a26 := a26) (a27 := a27) (a28 := a28) (a29 := a29) (a30 := a30) (a31 := a31) (a32 := a32) (a33 := a33) (a34 := a34) (a35 := a35) (a36 := a36) (a37 := a37) (a38 := a38) (a39 := a39) (a40 := a40) (a41 := a41) (a42 := a42) (a43 := a43) (a44 := a44) h23 hf n 0 I D0 a25 (by omega) hW (by omega)
  rw [show Int32.ofNat 0 = 0 from rfl] at c1
  have i0 : I1 0 = T 0 := c2.2.2.2.2.2 0 (by unfold fx; omega)
  obtain ⟨m, hm⟩ : ∃ m, upN (celV N (T 0) 15) 5 = m := ⟨_, rfl⟩
  have m5 : m < 5 := by rw [← hm]; exact upN_lt _ (by omega)
  obtain ⟨I2, d1, d2, d3, -⟩ := z_row (d := d + 1) (N := N) (J := J) (k := 1) (m := m) c2 (by omega) (by omega)
  rw [show Int32.ofNat 1 = 1 from rfl] at d1
  obtain ⟨E, hE⟩ : ∃ E : Nat → Int32, ∀ q, E q = Int32.ofNat (upN (celV N (T 0) 16 >>> (Int32.ofNat (5 * q) &&& 31)) 25) := ⟨_, fun _ => rfl⟩
  obtain ⟨I3, e1, e2, e3⟩ := lw_1305 (d := d) (N := N) (J := J) (T := T) (E := E) (m := m) (a0 := .ref 0) (a2 := a2) (a3 := .int (Int32.ofNat n)) (a4 := .int (Int32.ofNat D0.length)) (a5 := a5) (a6 := a6) (a7 := .int (Int32.ofNat (bitN (runF D0 f) n 0 0))) (a8 := a8) (a9 := a9) (a10 := a10) (a11 := a11) (a12 := a12) (a13 := a13) (a14 := a14) (a15 := a15) (a16 := a16) (a17 := a17) (a18 := a18) (a19 := a19) (a20 := a20) (a21 := a21) (a22 := a22) (a23 := a23) (a26 := a26) (a27 := a27) (a28 := a28) (a29 := a29) (a30 := a30) (a31 := a31) (a32 := a32) (a33 := a33) (a34 := a34) (a35 := a35) (a36 := a36) (a37 := a37) (a38 := a38) (a39 := a39) (a40 := a40) (a41 := a41) (a42 := a42) (a43 := a43) (a44 := a44) hN rfl (by omega) hE m 0 I2 (by omega) d2 (rw_e d3 (fun q hq => by rw [if_neg (by omega)]))
  rw [show Int32.ofNat 0 = 0 from rfl] at e1
  obtain ⟨I4, w, F, r1, r2, r3, -, r5, r6, -⟩ := z_shows (d := d + 1) (N := N) (J := J) (k2 := 4) e2 e3 (by omega) (allN_of (fun q => by
    obtain ⟨h1, h2⟩ := up25_b (celV N (T 0) 16 >>> (Int32.ofNat (5 * q) &&& 31))
    unfold okS
    rw [hE q, decide_eq_false h1, decide_eq_false h2]; rfl)) (by omega)
  rw [show Int32.ofNat 1 = 1 from rfl, show Int32.ofNat 4 = 4 from rfl] at r1
  obtain ⟨v1, v2⟩ := vR_v (e := E) hn m w 0 0 F (by omega) r5
  obtain ⟨B, hB⟩ : ∃ B, bitN (runF D1 f) n 0 0 = B := ⟨_, rfl⟩
  have b64 : B < 64 := by rw [← hB]; exact bt_lt hn
  obtain ⟨I5, V, b29, b30, g1, g2, g3, g4, g5⟩ := lw_1364 (d := d) (N := N) (J := J) (T := T) (E := E) (m := m) (s := dgt (n + 1) m w) (b := B) (D := D1) (a0 := .ref 0) (a2 := a2) (a4 := .int (Int32.ofNat D0.length)) (a5 := a5) (a6 := a6) (a7 := .int (Int32.ofNat (bitN (runF D0 f) n 0 0))) (a8 := a8) (a9 := a9) (a10 := a10) (a11 := a11) (a12 := a12) (a13 := a13) (a14 := a14) (a15 := a15) (a16 := a16) (a17 := a17) (a18 := a18) (a19 := a19) (a20 := a20) (a21 := a21) (a22 := a22) (a23 := a23) (a25 := .int (Int32.ofNat F)) (a31 := a31) (a32 := a32) (a33 := a33) (a34 := a34) (a35 := a35) (a36 := a36) (a37 := a37) (a38 := a38) (a39 := a39) (a40 := a40) (a41 := a41) (a42 := a42) (a43 := a43) (a44 := a44) hN rfl rfl (by omega) hE (fun q h1 h2 => by
    obtain ⟨y1, y2, y3, -, y5⟩ := v2 q h1 h2
    exact ⟨y1, y2, y3, y5⟩) hB m 0 0 I4 a29 a30 (by omega) r2 r3 (by omega) (Nat.zero_and _) (fun q _ _ _ => Nat.zero_testBit _) pop_0
  have c5 := z_c5 (d := d + 1) (N := N) (J := J) g2
  rw [hB] at c5
  have lb := l_bits (d := d + 10) (M := mk N I5 J) b64
  have fp := sub_pop g3 b64 g4
  rw [g5] at fp
  rw [Nat.zero_add] at v1
  rw [← v1] at fp
  rw [← v1, show nzN (dgt (n + 1) m w) 0 = 0 from rfl, show Int32.ofNat 0 = 0 from rfl] at g1
  have p6 : popN 6 B 0 ≤ 6 := by
    have h1 := pop_cN ⟨B, b64⟩
    simp only at h1
    rw [← h1]
    exact cN_le (j := 6) (c := 0)
  have n1 : ¬ Int32.ofNat (popN 6 B 0) < Int32.ofNat F := fun h => by have := (oN_lt (by omega) (by omega)).mp h; omega
  obtain ⟨I6, k1, k2, -, -⟩ := z_on (d := d + 1) (N := N) (J := J) g2 hK
  have c6 := z_c5 (d := d + 1) (N := N) (J := J) k2
  refine ⟨I6, .int (Int32.ofNat m), .int (Int32.ofNat F), .int (Int32.ofNat V), .int (Int32.ofNat F), .int (Int32.ofNat m), b29, b30, ?_, k2, rfl⟩
  simp only [K_some, K_void, K_none, wA_ref, wA_null, isNull_null, isNull_ref, c_int, c_long, c_ref, c_null, c_float, catS_nil, catS_cons, fit_int, fit_bool, fit_long, isO_mk, len_mk, fld_mk, gI_mk, gI0_mk, gZ_mk, gR_mk, isI_mk, isR_mk, tag_mk, lenE_mk, datR_mk, isOs, lenOs, fldS, lenS, gIs, gI0s, gZs, gRs, isIs, isRs, tagS, datRs, mkv, refV, fkS, isArr, tagOk, datI_mk, wrI_mk, wrA_mk, wrF_mk, wrJ_mk, List.length_cons, List.length_nil, List.getElem?_cons_zero, List.getElem?_cons_succ, List.getElem?_nil, ↓reduceIte, Nat.reduceAdd, Nat.reduceMul, Nat.reduceSub, Nat.reduceDiv, Nat.reduceMod, Nat.reduceLT, Nat.reduceLeDiff, Nat.reduceBEq, Nat.reduceEqDiff, Nat.zero_lt_succ, beq_self_eq_true, Bool.true_and, Bool.and_true, Bool.or_true, Bool.true_or, Bool.or_false, Bool.false_or, Bool.false_and, Bool.and_false, Bool.not_true, Bool.not_false, Bool.false_eq_true, Bool.true_eq_false, Bool.and_eq_true, Bool.or_eq_true, Bool.not_eq_true', decide_eq_true_eq, decide_eq_false_iff_not, decide_true, decide_false, and_self, true_and, and_true, or_true, true_or, or_false, false_or, and_false, false_and, or_self, reduceCtorEq, not_true_eq_false, not_false_eq_true, if_true, if_false, Int32.reduceAdd, Int32.reduceSub, Int32.reduceMul, Int32.reduceDiv, Int32.reduceMod, Int32.reduceLT, Int32.reduceLE, eqF1, eqF2, Int32.reduceOfNat, Int32.reduceOfInt, Int32.reduceToNatClampNeg, inb_lit, e_L_law_1226, e_L_law_1227, sh_1, h23]
  refine c1.trans ?_
  simp only [K_some, K_void, K_none, wA_ref, wA_null, isNull_null, isNull_ref, c_int, c_long, c_ref, c_null, c_float, catS_nil, catS_cons, fit_int, fit_bool, fit_long, isO_mk, len_mk, fld_mk, gI_mk, gI0_mk, gZ_mk, gR_mk, isI_mk, isR_mk, tag_mk, lenE_mk, datR_mk, isOs, lenOs, fldS, lenS, gIs, gI0s, gZs, gRs, isIs, isRs, tagS, datRs, mkv, refV, fkS, isArr, tagOk, datI_mk, wrI_mk, wrA_mk, wrF_mk, wrJ_mk, List.length_cons, List.length_nil, List.getElem?_cons_zero, List.getElem?_cons_succ, List.getElem?_nil, ↓reduceIte, Nat.reduceAdd, Nat.reduceMul, Nat.reduceSub, Nat.reduceDiv, Nat.reduceMod, Nat.reduceLT, Nat.reduceLeDiff, Nat.reduceBEq, Nat.reduceEqDiff, Nat.zero_lt_succ, beq_self_eq_true, Bool.true_and, Bool.and_true, Bool.or_true, Bool.true_or, Bool.or_false, Bool.false_or, Bool.false_and, Bool.and_false, Bool.not_true, Bool.not_false, Bool.false_eq_true, Bool.true_eq_false, Bool.and_eq_true, Bool.or_eq_true, Bool.not_eq_true', decide_eq_true_eq, decide_eq_false_iff_not, decide_true, decide_false, and_self, true_and, and_true, or_true, true_or, or_false, false_or, and_false, false_and, or_self, reduceCtorEq, not_true_eq_false, not_false_eq_true, if_true, if_false, Int32.reduceAdd, Int32.reduceSub, Int32.reduceMul, Int32.reduceDiv, Int32.reduceMod, Int32.reduceLT, Int32.reduceLE, eqF1, eqF2, Int32.reduceOfNat, Int32.reduceOfInt, Int32.reduceToNatClampNeg, inb_lit, e_L_law_1276, e_L_law_1277, e_L_law_1279, e_L_law_1282, e_L_law_1283, e_L_law_1286, e_L_law_1288, e_L_law_1289, e_L_law_1290, e_L_law_1292, e_L_law_1295, e_L_law_1297, e_L_law_1300, e_L_law_1301, e_L_law_1302, e_L_law_1303, sh_1, l_cell hN, i0, l_up2, l_up4, l_up5, l_up6, l_up7, l_up9, l_up10, l_up15, l_up25, l_up30, l_up40, l_up60, l_up2000000, hm, d1, h23]
  refine e1.trans ?_
  simp only [K_some, K_void, K_none, wA_ref, wA_null, isNull_null, isNull_ref, c_int, c_long, c_ref, c_null, c_float, catS_nil, catS_cons, fit_int, fit_bool, fit_long, isO_mk, len_mk, fld_mk, gI_mk, gI0_mk, gZ_mk, gR_mk, isI_mk, isR_mk, tag_mk, lenE_mk, datR_mk, isOs, lenOs, fldS, lenS, gIs, gI0s, gZs, gRs, isIs, isRs, tagS, datRs, mkv, refV, fkS, isArr, tagOk, datI_mk, wrI_mk, wrA_mk, wrF_mk, wrJ_mk, List.length_cons, List.length_nil, List.getElem?_cons_zero, List.getElem?_cons_succ, List.getElem?_nil, ↓reduceIte, Nat.reduceAdd, Nat.reduceMul, Nat.reduceSub, Nat.reduceDiv, Nat.reduceMod, Nat.reduceLT, Nat.reduceLeDiff, Nat.reduceBEq, Nat.reduceEqDiff, Nat.zero_lt_succ, beq_self_eq_true, Bool.true_and, Bool.and_true, Bool.or_true, Bool.true_or, Bool.or_false, Bool.false_or, Bool.false_and, Bool.and_false, Bool.not_true, Bool.not_false, Bool.false_eq_true, Bool.true_eq_false, Bool.and_eq_true, Bool.or_eq_true, Bool.not_eq_true', decide_eq_true_eq, decide_eq_false_iff_not, decide_true, decide_false, and_self, true_and, and_true, or_true, true_or, or_false, false_or, and_false, false_and, or_self, reduceCtorEq, not_true_eq_false, not_false_eq_true, if_true, if_false, Int32.reduceAdd, Int32.reduceSub, Int32.reduceMul, Int32.reduceDiv, Int32.reduceMod, Int32.reduceLT, Int32.reduceLE, eqF1, eqF2, Int32.reduceOfNat, Int32.reduceOfInt, Int32.reduceToNatClampNeg, inb_lit, e_L_law_1347, e_L_law_1348, e_L_law_1349, e_L_law_1350, e_L_law_1353, e_L_law_1355, e_L_law_1356, e_L_law_1358, e_L_law_1359, e_L_law_1361, e_L_law_1362, sh_1, r1]
  refine g1.trans ?_
  simp only [K_some, K_void, K_none, wA_ref, wA_null, isNull_null, isNull_ref, c_int, c_long, c_ref, c_null, c_float, catS_nil, catS_cons, fit_int, fit_bool, fit_long, isO_mk, len_mk, fld_mk, gI_mk, gI0_mk, gZ_mk, gR_mk, isI_mk, isR_mk, tag_mk, lenE_mk, datR_mk, isOs, lenOs, fldS, lenS, gIs, gI0s, gZs, gRs, isIs, isRs, tagS, datRs, mkv, refV, fkS, isArr, tagOk, datI_mk, wrI_mk, wrA_mk, wrF_mk, wrJ_mk, List.length_cons, List.length_nil, List.getElem?_cons_zero, List.getElem?_cons_succ, List.getElem?_nil, ↓reduceIte, Nat.reduceAdd, Nat.reduceMul, Nat.reduceSub, Nat.reduceDiv, Nat.reduceMod, Nat.reduceLT, Nat.reduceLeDiff, Nat.reduceBEq, Nat.reduceEqDiff, Nat.zero_lt_succ, beq_self_eq_true, Bool.true_and, Bool.and_true, Bool.or_true, Bool.true_or, Bool.or_false, Bool.false_or, Bool.false_and, Bool.and_false, Bool.not_true, Bool.not_false, Bool.false_eq_true, Bool.true_eq_false, Bool.and_eq_true, Bool.or_eq_true, Bool.not_eq_true', decide_eq_true_eq, decide_eq_false_iff_not, decide_true, decide_false, and_self, true_and, and_true, or_true, true_or, or_false, false_or, and_false, false_and, or_self, reduceCtorEq, not_true_eq_false, not_false_eq_true, if_true, if_false, Int32.reduceAdd, Int32.reduceSub, Int32.reduceMul, Int32.reduceDiv, Int32.reduceMod, Int32.reduceLT, Int32.reduceLE, eqF1, eqF2, Int32.reduceOfNat, Int32.reduceOfInt, Int32.reduceToNatClampNeg, inb_lit, e_L_law_1510, e_L_law_1512, e_L_law_1514, e_L_law_1517, e_L_law_1519, e_L_law_1520, e_L_law_1521, e_L_law_1524, e_L_law_1527, e_L_law_1530, e_L_law_1531, e_L_law_1532, e_L_law_1535, e_L_law_1537, e_L_law_1540, e_L_law_1541, e_L_law_1542, e_L_law_1545, e_L_law_1547, e_L_law_1550, e_L_law_1551, sh_1, c5, lb, n1, k1, c6]
end
