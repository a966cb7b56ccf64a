/-! NUMBERS of quiet days; calls by written numbers -/
theorem pd_le {H : Nat → Fin 13} (q : Nat) : (pdH H q).val ≤ (H q).val := by
  unfold pdH dn
  split <;> simp only <;> omega
theorem tot_mono {H H' : Nat → Fin 13} (h : ∀ q, (H q).val ≤ (H' q).val) : totN H ≤ totN H' := by
  unfold totN
  have h0 := h 0; have h1 := h 1; have h2 := h 2; have h3 := h 3
  have h4 := h 4; have h5 := h 5; have h6 := h 6; have h7 := h 7
  omega
theorem pd_tot {H : Nat → Fin 13} : totN (pdH H) ≤ totN H := tot_mono pd_le
theorem it_succ : ∀ {k : Nat} {H : Nat → Fin 13}, itH (k + 1) H = pdH (itH k H)
  | 0, _ => rfl
  | k + 1, H => by
    show itH (k + 1) (pdH H) = pdH (itH k (pdH H))
    exact it_succ
theorem pk_v {l : Nat} : ∀ (j c : Nat) (H : Nat → Fin 13), ∃ p, p ≤ j ∧ pk l j c H = (c + p, itH p H) ∧ (∀ k, k < p → ¬ totN (itH k H) < l) ∧ (p < j → totN (itH p H) < l) := by
  intro j
  induction j with
  | zero => intro c H; exact ⟨0, Nat.le_refl _, rfl, fun k hk => by omega, fun h => by omega⟩
  | succ j ih =>
    intro c H
    by_cases h : totN H < l
    · refine ⟨0, by omega, ?_, fun k hk => by omega, fun _ => h⟩
      unfold pk; rw [if_pos h]; rfl
    · obtain ⟨p, h1, h2, h3, h4⟩ := ih (c + 1) (pdH H)
      refine ⟨p + 1, by omega, ?_, fun k hk => ?_, fun hp => h4 (by omega)⟩
      · unfold pk; rw [if_neg h, h2, show c + 1 + p = c + (p + 1) by omega]; rfl
      · cases k with
        | zero => exact h
        | succ k => exact h3 k (by omega)
theorem pk12 {l : Nat} {H : Nat → Fin 13} (hl : 1 ≤ l) : ∃ p, p ≤ 12 ∧ pk l 12 0 H = (p, itH p H) ∧ (∀ k, k < p → ¬ totN (itH k H) < l) ∧ totN (itH p H) < l := by
  obtain ⟨p, h1, h2, h3, h4⟩ := pk_v (l := l) 12 0 H
  rw [Nat.zero_add] at h2
  refine ⟨p, h1, h2, h3, ?_⟩
  by_cases c : p < 12
  · exact h4 c
  · obtain rfl : p = 12 := by omega
    rw [it12]; omega
theorem add_vi {c : Nat} {x : Fin 13} : Int32.ofNat c + vi x = Int32.ofNat (c + x.val) := (Int32.ofNat_add c x.val).symm
theorem vi_12 : ∀ x : Fin 13, ¬ 12 < vi x := by decide +kernel
def psN (H : Nat → Fin 13) : Nat → Nat
  | 0 => 0
  | k + 1 => psN H k + (H k).val
theorem ps8 {H : Nat → Fin 13} : psN H 8 = totN H := by
  unfold totN
  simp only [psN, Nat.zero_add]
section
variable {d N a b c k n m i μ l : Nat} {T I I' : IT} {J : JT} {r v x y z w : Int32} {M : Mem} {H H0 : Nat → Fin 13} {g f : FV} {D : List (Nat × Nat)} {K : Nat → Option (List (Nat × Nat))}
theorem z_c1 (hW : WO T n l f H0 K D I) : C (d + 10) iX9_count [.ref 1, .int 1] (mk N I J) = some (some (.int (runF D f 69)), mk N I J) := z_count (m := 1) hW (by omega)
theorem z_c2 (hW : WO T n l f H0 K D I) : C (d + 10) iX9_count [.ref 1, .int 2] (mk N I J) = some (some (.int (Int32.ofNat D.length)), mk N I J) := z_count (m := 2) hW (by omega)
theorem z_c3 (hW : WO T n l f H0 K D I) : C (d + 10) iX9_count [.ref 1, .int 3] (mk N I J) = some (some (.int (Int32.ofNat (totN (hF H0 D)))), mk N I J) := z_count (m := 3) hW (by omega)
theorem z_c4 (hW : WO T n l f H0 K D I) : C (d + 10) iX9_count [.ref 1, .int 4] (mk N I J) = some (some (.int (if totN (hF H0 D) < l then 0 else 1)), mk N I J) := z_count (m := 4) hW (by omega)
theorem z_c5 (hW : WO T n l f H0 K D I) : C (d + 10) iX9_count [.ref 1, .int 5] (mk N I J) = some (some (.int (Int32.ofNat (bitN (runF D f) n 0 0))), mk N I J) := z_count (m := 5) hW (by omega)
/-- another reference for the fixed cells -/
theorem wo_T {T' : IT} (hW : WO T n l f H0 K D I) (h : ∀ a, a < 78 → I' a = I a) (hT : ∀ b, fx b → T' b = I' b) : WO T' n l f H0 K D I' := by
  obtain ⟨w1, w2, w3, w4, w5, w6⟩ := hW
  exact ⟨farm_congr (fun a ha => h a (by unfold fz at ha; omega)) w1, w2, w3, w4, ci_congr (fun a h1 h2 => h a (by omega)) w5, fun b hb => (hT b hb).symm⟩
/-- a law's cell is written -/
theorem wo_w (hW : WO T n l f H0 K D I) (hk : 78 ≤ k) : WO (up T k m x) n l f H0 K D (up I k m x) := by
  refine wo_T hW (fun a ha => up_ne (by omega)) (fun b hb => ?_)
  funext q
  simp only [up_at]
  rw [hW.2.2.2.2.2 b hb]
theorem wo_wA (hW : WO T n l f H0 K D I) (hk : 78 ≤ k) {g : Nat → Int32} : WO (upA T k g) n l f H0 K D (upA I k g) := by
  refine wo_T hW (fun a ha => upA_ne (by omega)) (fun b hb => ?_)
  funext q
  simp only [upA_at2]
  rw [hW.2.2.2.2.2 b hb]
end
