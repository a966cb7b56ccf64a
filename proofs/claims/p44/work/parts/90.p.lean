/-! THE CONSTRUCTORS -/
def ma (k : Nat) (f : Nat → PE) (ds : List PE) (n : Nat) : Mem := (fun a => if a < k then f a else ds.getD (a - k) (pO 99 []), k + ds.length, n)
theorem ma_rd {k n a : Nat} {f : Nat → PE} {ds : List PE} : rd (ma k f ds n) a = if a < k then f a else ds.getD (a - k) (pO 99 []) := rfl
theorem ma_sz {k n : Nat} {f : Nat → PE} {ds : List PE} : (ma k f ds n).2.1 = k + ds.length := rfl
theorem ma_al {k n m : Nat} {f : Nat → PE} {ds : List PE} {c : PE} : al (ma k f ds n) c m = ma k f (ds ++ [c]) (n + m) := by
  unfold al ma
  refine Prod.ext (funext fun a => ?_) (Prod.ext ?_ rfl)
  · show (if a = k + ds.length then c else if a < k then f a else ds.getD (a - k) (pO 99 [])) = if a < k then f a else (ds ++ [c]).getD (a - k) (pO 99 [])
    by_cases h : a = k + ds.length
    · rw [if_pos h, if_neg (by omega), List.getD_eq_getElem?_getD, List.getElem?_append_right (by omega), show a - k - ds.length = 0 by omega]; rfl
    · rw [if_neg h]
      by_cases h2 : a < k
      · rw [if_pos h2, if_pos h2]
      · rw [if_neg h2, if_neg h2, List.getD_eq_getElem?_getD, List.getD_eq_getElem?_getD]
        by_cases h3 : a - k < ds.length
        · rw [List.getElem?_append_left h3]
        · rw [List.getElem?_eq_none (by omega), List.getElem?_eq_none (by simp; omega)]
  · show k + ds.length + 1 = k + (ds ++ [c]).length
    simp; omega
theorem ma_wr {k n a : Nat} {f : Nat → PE} {ds : List PE} {c : PE} (h1 : (a < k) = False) (h2 : (a - k < ds.length) = True) : wr (ma k f ds n) a c = ma k f (ds.set (a - k) c) n := by
  have h1 : ¬ a < k := fun h => by rw [h1] at h; exact h
  have h2 : a - k < ds.length := by rw [h2]; trivial
  unfold wr ma
  refine Prod.ext (funext fun b => ?_) (Prod.ext ?_ rfl)
  · show (if b = a then c else if b < k then f b else ds.getD (b - k) (pO 99 [])) = if b < k then f b else (ds.set (a - k) c).getD (b - k) (pO 99 [])
    by_cases h : b = a
    · rw [if_pos h, if_neg (by omega), List.getD_eq_getElem?_getD, List.getElem?_set, if_pos (by omega), if_pos h2]; rfl
    · rw [if_neg h]
      by_cases h3 : b < k
      · rw [if_pos h3, if_pos h3]
      · rw [if_neg h3, if_neg h3, List.getD_eq_getElem?_getD, List.getD_eq_getElem?_getD, List.getElem?_set, if_neg (by omega)]
  · show k + ds.length = k + (ds.set (a - k) c).length
    simp
theorem vu_at {f : Nat → Option Nat} {k j : Nat} {x : Option Nat} : va_up f k x j = if j = k then x else f j := rfl
theorem fit_arr {t : FieldType} {a : Nat} : fitV (.array t) (.ref a) = true := rfl
theorem fit_obj {t : String} {a : Nat} : fitV (.object t) (.ref a) = true := rfl
theorem df_0 : defs 0 = [.null, .null, .int 0] := rfl
theorem df_1 : defs 1 = [.null, .null, .null, .null, .null, .int 0, .int 0, .int 0] := rfl
theorem df_2 : defs 2 = [.null] := rfl
theorem df_3 : defs 3 = [.null, .null, .int 0] := rfl
theorem df_4 : defs 4 = [.null, .null, .null, .null, .int 0, .int 0, .int 0] := rfl
theorem df_5 : defs 5 = [.null, .int 0, .int 0] := rfl
theorem df_6 : defs 6 = [.null, .null, .int 0] := rfl
theorem df_7 : defs 7 = [.null, .int 0, .int 0, .long 0, .long 0] := rfl
theorem df_8 : defs 8 = [.int 0, .int 0, .int 0, .int 0, .int 0, .int 0] := rfl
theorem df_9 : defs 9 = [.null, .null, .null, .null, .null, .null, .null, .null] := rfl
def c9 : List PE := [pO 9 [.ref 2, .ref 3, .ref 4, .ref 29, .ref 35, .ref 50, .ref 53, .ref 55], pR 15 6 (va_up (va_up (va_up (va_up (va_up (va_up (fun _ => none) 0 (some 57)) 1 (some 59)) 2 (some 61)) 3 (some 63)) 4 (some 65)) 5 (some 67)), pR 15 4 (va_up (va_up (va_up (va_up (fun _ => none) 0 (some 69)) 1 (some 71)) 2 (some 73)) 3 (some 75)), pO 1 [.ref 5, .ref 7, .ref 9, .ref 10, .ref 13, .int 0, .int 0, .int 0], pO 2 [.ref 6], pI 0 8 (fun _ => 0), pO 2 [.ref 8], pI 0 8 (fun _ => 0), pR 18 6 (va_up (va_up (va_up (va_up (va_up (va_up (fun _ => none) 0 (some 14)) 1 (some 15)) 2 (some 16)) 3 (some 17)) 4 (some 18)) 5 (some 19)), pO 0 [.ref 11, .ref 12, .int 0], pI 0 40 (fun _ => 0), pI 0 40 (fun _ => 0), pR 10 3 (va_up (va_up (va_up (fun _ => none) 0 (some 20)) 1 (some 23)) 2 (some 26)), pO 8 [.int 0, .int 0, .int 0, .int (-9), .int (-9), .int 0], pO 8 [.int 0, .int 0, .int 0, .int (-9), .int (-9), .int 0], pO 8 [.int 0, .int 0, .int 0, .int (-9), .int (-9), .int 0], pO 8 [.int 0, .int 0, .int 0, .int (-9), .int (-9), .int 0], pO 8 [.int 0, .int 0, .int 0, .int (-9), .int (-9), .int 0], pO 8 [.int 0, .int 0, .int 0, .int (-9), .int (-9), .int 0], pO 0 [.ref 21, .ref 22, .int (-1)], pI 0 40 (fun _ => 0), pI 0 40 (fun _ => 0), pO 0 [.ref 24, .ref 25, .int (-1)], pI 0 40 (fun _ => 0), pI 0 40 (fun _ => 0), pO 0 [.ref 27, .ref 28, .int (-1)], pI 0 40 (fun _ => 0), pI 0 40 (fun _ => 0), pO 4 [.ref 30, .ref 32, .ref 33, .ref 34, .int 0, .int 0, .int 0], pO 2 [.ref 31], pI 0 8 (fun _ => 0), pI 0 6 (fun _ => 0), pI 0 6 (fun _ => 0), pI 0 6 (fun _ => 0), pO 3 [.ref 36, .ref 37, .int 0], pI 0 5 (fun _ => 0), pR 12 6 (va_up (va_up (va_up (va_up (va_up (va_up (fun _ => none) 0 (some 38)) 1 (some 40)) 2 (some 42)) 3 (some 44)) 4 (some 46)) 5 (some 48)), pO 2 [.ref 39], pI 0 8 (fun _ => 0), pO 2 [.ref 41], pI 0 8 (fun _ => 0), pO 2 [.ref 43], pI 0 8 (fun _ => 0), pO 2 [.ref 45], pI 0 8 (fun _ => 0), pO 2 [.ref 47], pI 0 8 (fun _ => 0), pO 2 [.ref 49], pI 0 8 (fun _ => 0), pO 6 [.ref 51, .ref 52, .int 0], pI 0 4 (fun _ => 0), pI 0 4 (fun _ => 0), pO 2 [.ref 54], pI 0 8 (fun _ => 0), pO 7 [.ref 56, .int 0, .int 0, .long 0, .long 1], pI 0 6 (fun _ => 0), pO 5 [.ref 58, .int 0, .int (-1)], pI 0 40 (fun _ => 0), pO 5 [.ref 60, .int 0, .int (-1)], pI 0 40 (fun _ => 0), pO 5 [.ref 62, .int 0, .int (-1)], pI 0 40 (fun _ => 0), pO 5 [.ref 64, .int 0, .int (-1)], pI 0 40 (fun _ => 0), pO 5 [.ref 66, .int 0, .int (-1)], pI 0 40 (fun _ => 0), pO 5 [.ref 68, .int 0, .int (-1)], pI 0 40 (fun _ => 0), pO 5 [.ref 70, .int 32, .int (-1)], pI 0 60 (fun _ => 0), pO 5 [.ref 72, .int 32, .int (-1)], pI 0 60 (fun _ => 0), pO 5 [.ref 74, .int 32, .int (-1)], pI 0 60 (fun _ => 0), pO 5 [.ref 76, .int 32, .int (-1)], pI 0 60 (fun _ => 0)]
set_option maxHeartbeats 8000000 in
set_option maxRecDepth 20000 in
theorem i_X9 {d n : Nat} {f : Nat → PE} : C (d + 5) iX9_init [.ref 1] (ma 1 f [pO 9 (defs 9)] n) = some (none, ma 1 f c9 (n + 1056)) := by
  unfold c9
  simp only [K_some, K_void, K_none, wA_ref, wA_null, isNull_null, isNull_ref, c_int, c_long, c_ref, c_null, c_float, catS_nil, catS_cons, fit_int, fit_bool, fit_long, isO_mk, len_mk, fld_mk, gI_mk, gI0_mk, gZ_mk, gR_mk, isI_mk, isR_mk, tag_mk, lenE_mk, datR_mk, isOs, lenOs, fldS, lenS, gIs, gI0s, gZs, gRs, isIs, isRs, tagS, datRs, mkv, refV, fkS, isArr, tagOk, datI_mk, wrI_mk, wrA_mk, wrF_mk, wrJ_mk, List.length_cons, List.length_nil, List.getElem?_cons_zero, List.getElem?_cons_succ, List.getElem?_nil, ↓reduceIte, Nat.reduceAdd, Nat.reduceMul, Nat.reduceSub, Nat.reduceDiv, Nat.reduceMod, Nat.reduceLT, Nat.reduceLeDiff, Nat.reduceBEq, Nat.reduceEqDiff, Nat.zero_lt_succ, beq_self_eq_true, Bool.true_and, Bool.and_true, Bool.or_true, Bool.true_or, Bool.or_false, Bool.false_or, Bool.false_and, Bool.and_false, Bool.not_true, Bool.not_false, Bool.false_eq_true, Bool.true_eq_false, Bool.and_eq_true, Bool.or_eq_true, Bool.not_eq_true', decide_eq_true_eq, decide_eq_false_iff_not, decide_true, decide_false, and_self, true_and, and_true, or_true, true_or, or_false, false_or, and_false, false_and, or_self, reduceCtorEq, not_true_eq_false, not_false_eq_true, if_true, if_false, Int32.reduceAdd, Int32.reduceSub, Int32.reduceMul, Int32.reduceDiv, Int32.reduceMod, Int32.reduceLT, Int32.reduceLE, eqF1, eqF2, Int32.reduceOfNat, Int32.reduceOfInt, Int32.reduceToNatClampNeg, inb_lit, en_X9_init, e_X9_init_0, e_X9_init_1, e_X9_init_4, e_X9_init_5, e_X9_init_7, e_X9_init_10, e_X9_init_13, e_X9_init_14, e_X9_init_15, e_X9_init_18, e_X9_init_21, e_X9_init_22, e_X9_init_25, e_X9_init_26, e_X9_init_29, e_X9_init_32, e_X9_init_33, e_X9_init_36, e_X9_init_37, e_X9_init_40, e_X9_init_43, e_X9_init_44, e_X9_init_47, e_X9_init_48, e_X9_init_51, e_X9_init_54, e_X9_init_55, e_X9_init_58, e_X9_init_59, e_X9_init_62, e_X9_init_65, e_X9_init_66, e_X9_init_69, e_X9_init_70, e_X9_init_73, e_X9_init_76, e_X9_init_77, e_X9_init_80, e_X9_init_81, e_X9_init_84, e_X9_init_87, e_X9_init_88, e_X9_init_89, e_X9_init_90, e_X9_init_91, e_X9_init_94, e_X9_init_95, e_X9_init_98, e_X9_init_99, e_X9_init_102, e_X9_init_103, e_X9_init_106, e_X9_init_107, e_X9_init_109, e_X9_init_110, e_X9_init_113, e_X9_init_114, e_X9_init_117, e_X9_init_120, e_X9_init_121, e_X9_init_122, e_X9_init_123, e_X9_init_124, e_X9_init_127, e_X9_init_128, e_X9_init_131, e_X9_init_132, e_X9_init_135, e_X9_init_136, e_X9_init_139, e_X9_init_140, e_X9_init_142, e_X9_init_144, e_X9_init_147, e_X9_init_148, e_X9_init_151, e_X9_init_154, en_X1_init, e_X1_init_0, e_X1_init_1, e_X1_init_4, e_X1_init_5, e_X1_init_8, e_X1_init_9, e_X1_init_12, e_X1_init_15, e_X1_init_16, e_X1_init_19, e_X1_init_20, e_X1_init_23, e_X1_init_26, e_X1_init_27, e_X1_init_29, e_X1_init_32, e_X1_init_35, e_X1_init_36, e_X1_init_39, e_X1_init_40, e_X1_init_43, e_X1_init_46, e_X1_init_47, e_X1_init_48, e_X1_init_51, e_X1_init_54, e_X1_init_55, e_X1_init_56, e_X1_init_57, e_X1_init_58, e_X1_init_61, e_X1_init_62, e_X1_init_65, e_X1_init_66, e_X1_init_69, e_X1_init_70, e_X1_init_73, e_X1_init_74, e_X1_init_77, e_X1_init_78, e_X1_init_81, e_X1_init_84, e_X1_init_85, e_X1_init_86, e_X1_init_87, e_X1_init_88, e_X1_init_91, e_X1_init_92, e_X1_init_95, e_X1_init_96, e_X1_init_99, e_X1_init_100, e_X1_init_103, e_X1_init_104, e_X1_init_107, e_X1_init_108, e_X1_init_109, e_X1_init_112, e_X1_init_113, e_X1_init_114, e_X1_init_115, e_X1_init_118, e_X1_init_121, e_X1_init_124, en_X2_init, e_X2_init_0, e_X2_init_1, e_X2_init_4, e_X2_init_5, e_X2_init_7, e_X2_init_9, e_X2_init_12, en_X0_init, e_X0_init_0, e_X0_init_1, e_X0_init_4, e_X0_init_5, e_X0_init_7, e_X0_init_9, e_X0_init_12, e_X0_init_13, e_X0_init_15, e_X0_init_17, e_X0_init_20, en_X8_init, e_X8_init_0, e_X8_init_1, e_X8_init_4, e_X8_init_5, e_X8_init_7, e_X8_init_10, e_X8_init_11, e_X8_init_13, e_X8_init_16, en_X4_init, e_X4_init_0, e_X4_init_1, e_X4_init_4, e_X4_init_5, e_X4_init_8, e_X4_init_9, e_X4_init_12, e_X4_init_15, e_X4_init_16, e_X4_init_18, e_X4_init_20, e_X4_init_23, e_X4_init_24, e_X4_init_26, e_X4_init_28, e_X4_init_31, e_X4_init_32, e_X4_init_34, e_X4_init_36, e_X4_init_39, en_X3_init, e_X3_init_0, e_X3_init_1, e_X3_init_4, e_X3_init_5, e_X3_init_6, e_X3_init_8, e_X3_init_11, e_X3_init_12, e_X3_init_14, e_X3_init_17, e_X3_init_20, e_X3_init_21, e_X3_init_22, e_X3_init_23, e_X3_init_24, e_X3_init_27, e_X3_init_28, e_X3_init_31, e_X3_init_32, e_X3_init_35, e_X3_init_36, e_X3_init_39, e_X3_init_40, e_X3_init_43, e_X3_init_44, e_X3_init_47, e_X3_init_50, en_X6_init, e_X6_init_0, e_X6_init_1, e_X6_init_4, e_X6_init_5, e_X6_init_6, e_X6_init_8, e_X6_init_11, e_X6_init_12, e_X6_init_13, e_X6_init_15, e_X6_init_18, en_X7_init, e_X7_init_0, e_X7_init_1, e_X7_init_4, e_X7_init_5, e_X7_init_7, e_X7_init_9, e_X7_init_12, e_X7_init_13, e_X7_init_14, e_X7_init_17, en_X5_init, e_X5_init_0, e_X5_init_1, e_X5_init_4, e_X5_init_5, e_X5_init_6, e_X5_init_9, e_X5_init_10, e_X5_init_11, e_X5_init_12, e_X5_init_15, e_X5_init_17, e_X5_init_20, e_X5_init_21, e_X5_init_22, e_X5_init_25, qJ_max, show imax 0 40 = 40 by decide, show imax 0 60 = 60 by decide, vu_at, ma_rd, ma_sz, ma_al, ma_wr, fit_arr, fit_obj, df_0, df_1, df_2, df_3, df_4, df_5, df_6, df_7, df_8, df_9, isO, fldE, fldsE, setF, setI, setR, tagE, lenE, datI, datR, isIE, isRE, gI0, gR, refV, tagC, List.getD_cons_zero, List.getD_cons_succ, List.set_cons_zero, List.set_cons_succ, List.cons_append, List.nil_append, Nat.lt_irrefl, Nat.sub_self]
/-! THE START -/
def I0 (xs : Nat → Int32) : IT := fun a k => if a = 0 then xs k else if (14 ≤ a ∧ a ≤ 19) ∧ (k = 3 ∨ k = 4) then -9 else if (a = 20 ∨ a = 23 ∨ a = 26) ∧ k = 2 then -1 else if (57 ≤ a ∧ a ≤ 75 ∧ a % 2 = 1) ∧ k = 2 then -1 else if (69 ≤ a ∧ a ≤ 75 ∧ a % 2 = 1) ∧ k = 1 then 32 else 0
def J0 : JT := fun a k => if (a = 55 ∧ k = 4) then 1 else 0
theorem st_cell {L : Nat} {xs : Nat → Int32} : ∀ a : Nat, (if a = 77 then pI 0 48 (fun _ => 0) else if a < 1 then pI 9 L xs else c9.getD (a - 1) (pO 99 [])) = fill (sh (4 * L) a) (I0 xs a) (J0 a)
  | 0 => by
    rw [if_neg (by omega), if_pos (by omega)]
    show _ = fill (Sum.inl (9, 4 * L / 4)) _ _
    rw [Nat.mul_div_cancel_left L (by omega)]
    rfl
  | 1 => rfl
  | 2 => congrArg (fun g => (Sum.inr (Sum.inl (15, 6, g)) : PE)) (funext fun j => match j with | 0 => rfl  | 1 => rfl  | 2 => rfl  | 3 => rfl  | 4 => rfl  | 5 => rfl | _ + 6 => rfl)
  | 3 => congrArg (fun g => (Sum.inr (Sum.inl (15, 4, g)) : PE)) (funext fun j => match j with | 0 => rfl  | 1 => rfl  | 2 => rfl  | 3 => rfl | _ + 4 => rfl)
  | 4 => rfl
  | 5 => rfl
  | 6 => rfl
  | 7 => rfl
  | 8 => rfl
  | 9 => congrArg (fun g => (Sum.inr (Sum.inl (18, 6, g)) : PE)) (funext fun j => match j with | 0 => rfl  | 1 => rfl  | 2 => rfl  | 3 => rfl  | 4 => rfl  | 5 => rfl | _ + 6 => rfl)
  | 10 => rfl
  | 11 => rfl
  | 12 => rfl
  | 13 => congrArg (fun g => (Sum.inr (Sum.inl (10, 3, g)) : PE)) (funext fun j => match j with | 0 => rfl  | 1 => rfl  | 2 => rfl | _ + 3 => rfl)
  | 14 => rfl
  | 15 => rfl
  | 16 => rfl
  | 17 => rfl
  | 18 => rfl
  | 19 => rfl
  | 20 => rfl
  | 21 => rfl
  | 22 => rfl
  | 23 => rfl
  | 24 => rfl
  | 25 => rfl
  | 26 => rfl
  | 27 => rfl
  | 28 => rfl
  | 29 => rfl
  | 30 => rfl
  | 31 => rfl
  | 32 => rfl
  | 33 => rfl
  | 34 => rfl
  | 35 => rfl
  | 36 => rfl
  | 37 => congrArg (fun g => (Sum.inr (Sum.inl (12, 6, g)) : PE)) (funext fun j => match j with | 0 => rfl  | 1 => rfl  | 2 => rfl  | 3 => rfl  | 4 => rfl  | 5 => rfl | _ + 6 => rfl)
  | 38 => rfl
  | 39 => rfl
  | 40 => rfl
  | 41 => rfl
  | 42 => rfl
  | 43 => rfl
  | 44 => rfl
  | 45 => rfl
  | 46 => rfl
  | 47 => rfl
  | 48 => rfl
  | 49 => rfl
  | 50 => rfl
  | 51 => rfl
  | 52 => rfl
  | 53 => rfl
  | 54 => rfl
  | 55 => rfl
  | 56 => rfl
  | 57 => rfl
  | 58 => rfl
  | 59 => rfl
  | 60 => rfl
  | 61 => rfl
  | 62 => rfl
  | 63 => rfl
  | 64 => rfl
  | 65 => rfl
  | 66 => rfl
  | 67 => rfl
  | 68 => rfl
  | 69 => rfl
  | 70 => rfl
  | 71 => rfl
  | 72 => rfl
  | 73 => rfl
  | 74 => rfl
  | 75 => rfl
  | 76 => rfl
  | 77 => rfl
  | a + 78 => by
    rw [if_neg (by omega), if_neg (by omega), List.getD_eq_getElem?_getD, List.getElem?_eq_none (by show 76 ≤ _; omega)]
    unfold sh shX
    rw [if_neg (by omega), if_neg (by omega), if_neg (by omega), if_neg (by omega), if_neg (by omega)]
    rfl
theorem st_mk {L : Nat} {xs : Nat → Int32} : al (ma 1 (fun _ => pI 9 L xs) c9 1064) (pI 0 48 (fun _ => 0)) 48 = mk (4 * L) (I0 xs) J0 := by
  unfold al ma mk
  refine Prod.ext (funext fun a => st_cell a) (Prod.ext ?_ ?_)
  · show 1 + c9.length + 1 = 78 + 4 * L % 4
    rw [show 4 * L % 4 = 0 by omega]; rfl
  · show 1064 + 48 = slN (4 * L)
    unfold slN
    rw [if_pos (by omega)]
theorem st_row {xs : Nat → Int32} : (∀ r, r < 6 → RowOk (I0 xs) r) ∧ ∀ r, r < 4 → TextOk (I0 xs) r := by
  refine ⟨fun r hr => ?_, fun r hr => ?_⟩
  · obtain rfl | rfl | rfl | rfl | rfl | rfl : r = 0 ∨ r = 1 ∨ r = 2 ∨ r = 3 ∨ r = 4 ∨ r = 5 := by omega
    all_goals exact ⟨rfl, Or.inl rfl⟩
  · obtain rfl | rfl | rfl | rfl : r = 0 ∨ r = 1 ∨ r = 2 ∨ r = 3 := by omega
    all_goals exact ⟨rfl, Or.inl rfl⟩
