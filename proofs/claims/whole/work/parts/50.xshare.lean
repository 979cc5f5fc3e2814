/-! the class: shares -/
theorem fr_0 {n : Nat} (h : 0 < n) : fr 0 n = (0, 1) := by
  unfold fr
  rw [Nat.gcd_zero_left, Nat.zero_div, Nat.div_self h]
theorem gD_0 {nb : Nat} {l : sgL} {A : sgA} {t : Nat} : gD nb l A t = 0 ↔ (0 < sAs nb l A t 6 ∧ sYe nb l A t 6 = sAs nb l A t 6) := by
  have h := sYe_le (nb := nb) (l := l) (A := A) (t := t) (k := 6)
  unfold gD gG
  omega
section
variable {X : am_X} {S : am_Sh} {M M' : am_Me} {P : Nat → Nat → Prop} {s : sgm}
theorem q_guessesAll {nb : Nat} {l : sgL} {A : sgA} {t : Nat} (hb : nb ≤ 6) (hx : xT nb l A M) (ht : t < 4) : am_e X 71 0 [some (.ref (36 : Nat)), some (.int (nI t)), none] [] kS M = some (some (.int (am_b (gD nb l A t = 0))), kS, M) := by
  have ct : (nI t).toNatClampNeg = t := nI_clamp (by omega)
  have c6 : (6 : Int32).toNatClampNeg = 6 := by decide
  have g6 : am_ar kS (38 + t) 100 6 = true := g37 (k := 6) ht (by decide)
  have g7 : am_ar kS (43 + t) 100 6 = true := g42 (k := 6) ht (by decide)
  have h40 := sAs_le hb (l := l) (A := A) (t := t) (k := 6)
  have hy := sYe_le (nb := nb) (l := l) (A := A) (t := t) (k := 6)
  obtain ⟨x1, x2⟩ := hx t ht 6 (by decide)
  have c1 : ((0 : Int32) < nI (sAs nb l A t 6)) = (0 < sAs nb l A t 6) := propext (nI_ltI (a := 0) (by decide) (by omega))
  have c2 : (nI (sYe nb l A t 6) = nI (sAs nb l A t 6)) = (sYe nb l A t 6 = sAs nb l A t 6) := ok_eq (by omega) (by omega)
  by_cases h1 : 0 < sAs nb l A t 6
  · by_cases h2 : sYe nb l A t 6 = sAs nb l A t 6
    · rw [am_bt (gD_0.mpr ⟨h1, h2⟩)]
      simp only [e71_0, e71_1, e71_4, e71_5, e71_6, e71_8, e71_9, e71_10, e71_11, e71_14, e71_15, e71_18, e71_19, e71_20, e71_22, e71_23, e71_24, e71_27, e71_28, e71_31, e71_32, s36, s36_0, s36_1, s36_2, r36_0, r36_1, r36_2, s37, s38, s39, s40, s41, s42, s43, s44, s45, s46, s47, s47_0, s47_1, ct, c6, g6, g7, x1, x2, c1, c2, h1, h2, a37 ht, r37 t ht, t37 t ht, a42 ht, r42 t ht, t42 t ht, am_bv_s, am_bw_s, eq_self, true_or, or_true, am_b0, am_b1, am_em, if_true, if_false, true_and, and_true, false_and, and_false, not_true_eq_false, not_false_eq_true, false_or, or_false, Bool.false_eq_true]
    · rw [am_bf (fun q => h2 (gD_0.mp q).2)]
      simp only [e71_0, e71_1, e71_4, e71_5, e71_6, e71_8, e71_9, e71_10, e71_11, e71_14, e71_15, e71_18, e71_19, e71_20, e71_22, e71_23, e71_24, e71_27, e71_28, e71_31, e71_32, s36, s36_0, s36_1, s36_2, r36_0, r36_1, r36_2, s37, s38, s39, s40, s41, s42, s43, s44, s45, s46, s47, s47_0, s47_1, ct, c6, g6, g7, x1, x2, c1, c2, h1, h2, a37 ht, r37 t ht, t37 t ht, a42 ht, r42 t ht, t42 t ht, am_bv_s, am_bw_s, eq_self, true_or, or_true, am_b0, am_b1, am_em, if_true, if_false, true_and, and_true, false_and, and_false, not_true_eq_false, not_false_eq_true, false_or, or_false, Bool.false_eq_true]
  · rw [am_bf (fun q => h1 (gD_0.mp q).1)]
    simp only [e71_0, e71_1, e71_4, e71_5, e71_6, e71_8, e71_9, e71_10, e71_11, e71_14, e71_15, e71_18, e71_19, e71_20, e71_22, e71_23, e71_24, e71_27, e71_28, e71_31, e71_32, s36, s36_0, s36_1, s36_2, r36_0, r36_1, r36_2, s37, s38, s39, s40, s41, s42, s43, s44, s45, s46, s47, s47_0, s47_1, ct, c6, g6, g7, x1, x2, c1, h1, a37 ht, r37 t ht, t37 t ht, am_bv_s, am_bw_s, eq_self, true_or, or_true, am_b0, am_b1, am_em, if_true, if_false, true_and, and_true, false_and, and_false, not_true_eq_false, not_false_eq_true, false_or, or_false, Bool.false_eq_true]
/-- to where the share is put -/
theorem q_putTrueRun {nb : Nat} {l : sgL} {A : sgA} {f t b : Nat} (hb : nb ≤ 6) (hx : xT nb l A M) (ht : t < 4) (hb7 : b < 7) {R : Option am_Re} (hf : isF f) (hr : am_e X 32 0 [some (.ref f), some (.long (lI (tC nb l A t b))), none, some (.long (lI (sAs nb l A t b * gD nb l A t))), none, none, none, none, none, none, none, none] [] kS M = some (none, kS, M')) : am_e X 74 0 [some (.ref (36 : Nat)), some (.int (nI t)), some (.int (nI b)), some (.ref f), none, none, none, none, none, none, none, none] [] kS M = some (none, kS, M') := by
  have ct : (nI t).toNatClampNeg = t := nI_clamp (by omega)
  have cb : (nI b).toNatClampNeg = b := nI_clamp (by omega)
  have c6 : (6 : Int32).toNatClampNeg = 6 := by decide
  have g6 : am_ar kS (38 + t) 100 6 = true := g37 (k := 6) ht (by decide)
  have g7 : am_ar kS (43 + t) 100 6 = true := g42 (k := 6) ht (by decide)
  have h40 := fun k => sAs_le hb (l := l) (A := A) (t := t) (k := k)
  have hy := fun k => sYe_le (nb := nb) (l := l) (A := A) (t := t) (k := k)
  obtain ⟨x1, x2⟩ := hx t ht 6 (by decide)
  obtain ⟨x3, x4⟩ := hx t ht b hb7
  have l1 := lI_w (n := sYe nb l A t 6) (by have := hy 6; have := h40 6; omega)
  have l2 := lI_w (n := max 1 (sAs nb l A t 6)) (by have := h40 6; omega)
  have l3 := lI_w (n := sAs nb l A t b) (by have := h40 b; omega)
  have l4 := lI_w (n := sYe nb l A t b) (by have := hy b; have := h40 b; omega)
  have m1 := q_max1 (X := X) (S := kS) (M := M) (b := sAs nb l A t 6) (by have := h40 6; omega)
  have q1 : sYe nb l A t b * max 1 (sAs nb l A t 6) ≤ 40 * 40 := Nat.mul_le_mul (Nat.le_trans (hy b) (h40 b)) (by have := h40 6; omega)
  have q2 : sYe nb l A t 6 * sAs nb l A t b ≤ 40 * 40 := Nat.mul_le_mul (Nat.le_trans (hy 6) (h40 6)) (h40 b)
  have m2 := q_max0 (X := X) (S := kS) (M := M) (a := sYe nb l A t b * max 1 (sAs nb l A t 6)) (b := sYe nb l A t 6 * sAs nb l A t b) (by omega) (by omega)
  have m3 : lI (max 1 (sAs nb l A t 6)) - lI (sYe nb l A t 6) = lI (gD nb l A t) := lI_sub gG_ge
  have m4 : lI (sYe nb l A t b * max 1 (sAs nb l A t 6) - sYe nb l A t 6 * sAs nb l A t b) = lI (tC nb l A t b) := rfl
  obtain ⟨f0, f1, f2⟩ := hf
  simp only [e74_0, e74_1, e74_4, e74_5, e74_6, e74_8, e74_9, e74_10, e74_12, e74_13, e74_14, e74_17, e74_18, e74_19, e74_21, e74_22, e74_25, e74_26, e74_28, e74_29, e74_32, e74_33, e74_34, e74_35, e74_36, e74_37, e74_39, e74_40, e74_43, e74_44, e74_45, e74_46, e74_47, e74_48, e74_50, e74_51, e74_53, e74_55, e74_56, e74_57, e74_59, e74_60, e74_61, e74_63, e74_66, e74_68, e74_70, e74_72, e74_73, e74_74, e74_77, s36, s36_0, s36_1, s36_2, r36_0, r36_1, r36_2, s37, s38, s39, s40, s41, s42, s43, s44, s45, s46, s47, s47_0, s47_1, ct, cb, c6, g6, g7, x1, x2, x3, x4, l1, l2, l3, l4, m1, lI_mul, m2, m3, m4, f0, f1, f2, hr, a37 ht, r37 t ht, t37 t ht, a42 ht, r42 t ht, t42 t ht, g37 ht hb7, g42 ht hb7, am_bv_s, am_bw_s, eq_self, true_or, or_true, am_b0, am_b1, am_em, if_true, if_false, true_and, and_true, false_and, and_false, not_true_eq_false, not_false_eq_true, false_or, or_false, Bool.false_eq_true]
theorem q_putTrue {nb : Nat} {l : sgL} {A : sgA} {f t b : Nat} (hb : nb ≤ 6) (hx : xT nb l A M) (ht : t < 4) (hb7 : b < 7) (hf : isF f) (hD : 0 < gD nb l A t) : ∃ M', am_e X 74 0 [some (.ref (36 : Nat)), some (.int (nI t)), some (.int (nI b)), some (.ref f), none, none, none, none, none, none, none, none] [] kS M = some (none, kS, M') ∧ hF f (fr (tC nb l A t b) (tH nb l A t b * gD nb l A t)) M' ∧ am_of (fun a _ => a = f) M M' := by
  have h40 := fun k => sAs_le hb (l := l) (A := A) (t := t) (k := k)
  have hy := fun k => sYe_le (nb := nb) (l := l) (A := A) (t := t) (k := k)
  have d40 : gD nb l A t ≤ 40 := by have := h40 6; unfold gD gG; omega
  have c1600 : tC nb l A t b ≤ tH nb l A t b * gD nb l A t := tC_le
  by_cases h0 : sAs nb l A t b = 0
  · have y0 : sYe nb l A t b = 0 := by have := hy b; omega
    have e1 : tC nb l A t b = 0 := by unfold tC; rw [y0, Nat.zero_mul, Nat.zero_sub]
    have e2 : sAs nb l A t b * gD nb l A t = 0 := by rw [h0, Nat.zero_mul]
    obtain ⟨M', r1, r2, r3⟩ := x_put00 (X := X) (M := M) hf
    refine ⟨M', q_putTrueRun hb hx ht hb7 (R := none) hf (by rw [e1, e2]; exact r1), ?_, r3⟩
    rw [e1, fr_0 (Nat.mul_pos tH_pos hD)]
    exact r2
  · have e3 : tH nb l A t b = sAs nb l A t b := Nat.max_eq_right (by omega)
    have q1 : sAs nb l A t b * gD nb l A t ≤ 40 * 40 := Nat.mul_le_mul (h40 b) d40
    rw [e3] at c1600 ⊢
    obtain ⟨M', r1, r2, r3⟩ := x_put (X := X) (M := M) (a := tC nb l A t b) (b := sAs nb l A t b * gD nb l A t) hf (by omega) (by omega) (Nat.mul_pos (by omega) hD)
    exact ⟨M', q_putTrueRun hb hx ht hb7 (R := none) hf r1, r2, r3⟩
theorem q_putTrueT {nb : Nat} {l : sgL} {A : sgA} {f t b : Nat} (hb : nb ≤ 6) (hx : xT nb l A M) (ht : t < 4) (hb7 : b < 7) (hf : isF f) : ∃ M', am_e X 74 0 [some (.ref (36 : Nat)), some (.int (nI t)), some (.int (nI b)), some (.ref f), none, none, none, none, none, none, none, none] [] kS M = some (none, kS, M') ∧ am_of (fun a _ => a = f) M M' := by
  obtain ⟨M', r1, r3⟩ := x_putT (X := X) (M := M) (a := lI (tC nb l A t b)) (b := lI (sAs nb l A t b * gD nb l A t)) hf
  exact ⟨M', q_putTrueRun hb hx ht hb7 (R := none) hf r1, r3⟩
theorem q_putPlain {nb : Nat} {l : sgL} {A : sgA} {f t b : Nat} (hb : nb ≤ 6) (hx : xT nb l A M) (ht : t < 4) (hb7 : b < 7) (hf : isF f) : ∃ M', am_e X 73 0 [some (.ref (36 : Nat)), some (.int (nI t)), some (.int (nI b)), some (.ref f)] [] kS M = some (none, kS, M') ∧ hF f (fr (sYe nb l A t b) (tH nb l A t b)) M' ∧ am_of (fun a _ => a = f) M M' := by
  have h40 := sAs_le hb (l := l) (A := A) (t := t) (k := b)
  have hy := sYe_le (nb := nb) (l := l) (A := A) (t := t) (k := b)
  have ct : (nI t).toNatClampNeg = t := nI_clamp (by omega)
  have cb : (nI b).toNatClampNeg = b := nI_clamp (by omega)
  obtain ⟨x3, x4⟩ := hx t ht b hb7
  obtain ⟨M', r1, r2, r3⟩ := x_put (X := X) (M := M) (a := sYe nb l A t b) (b := tH nb l A t b) hf (by omega) (by unfold tH; omega) tH_pos
  refine ⟨M', ?_, r2, r3⟩
  have l2 := lI_w (n := max 1 (sAs nb l A t b)) (by omega)
  have l4 := lI_w (n := sYe nb l A t b) (by omega)
  have m1 := q_max1 (X := X) (S := kS) (M := M) (b := sAs nb l A t b) (by omega)
  have r1' : am_e X 32 0 [some (.ref f), some (.long (lI (sYe nb l A t b))), none, some (.long (lI (max 1 (sAs nb l A t b)))), none, none, none, none, none, none, none, none] [] kS M = some (none, kS, M') := r1
  obtain ⟨f0, f1, f2⟩ := hf
  simp only [e73_0, e73_1, e73_2, e73_5, e73_6, e73_7, e73_8, e73_9, e73_10, e73_11, e73_12, e73_15, e73_16, e73_17, e73_18, e73_19, e73_22, e73_23, e73_26, s36, s36_0, s36_1, s36_2, r36_0, r36_1, r36_2, s37, s38, s39, s40, s41, s42, s43, s44, s45, s46, s47, s47_0, s47_1, ct, cb, x3, x4, l2, l4, m1, f0, f1, f2, r1', a37 ht, r37 t ht, t37 t ht, a42 ht, r42 t ht, t42 t ht, g37 ht hb7, g42 ht hb7, am_bv_s, am_bw_s, eq_self, true_or, or_true, am_b0, am_b1, am_em, if_true, if_false, true_and, and_true, false_and, and_false, not_true_eq_false, not_false_eq_true, false_or, or_false, Bool.false_eq_true]
theorem q_putGuess {nb : Nat} {l : sgL} {A : sgA} {f t : Nat} (hb : nb ≤ 6) (hx : xT nb l A M) (ht : t < 4) (hf : isF f) : ∃ M', am_e X 72 0 [some (.ref (36 : Nat)), some (.int (nI t)), some (.ref f)] [] kS M = some (none, kS, M') ∧ hF f (fr (sYe nb l A t 6) (gG nb l A t)) M' ∧ am_of (fun a _ => a = f) M M' := by
  have h40 := sAs_le hb (l := l) (A := A) (t := t) (k := 6)
  have hy := sYe_le (nb := nb) (l := l) (A := A) (t := t) (k := 6)
  have ct : (nI t).toNatClampNeg = t := nI_clamp (by omega)
  have c6 : (6 : Int32).toNatClampNeg = 6 := by decide
  have g6 : am_ar kS (38 + t) 100 6 = true := g37 (k := 6) ht (by decide)
  have g7 : am_ar kS (43 + t) 100 6 = true := g42 (k := 6) ht (by decide)
  obtain ⟨x3, x4⟩ := hx t ht 6 (by decide)
  obtain ⟨M', r1, r2, r3⟩ := x_put (X := X) (M := M) (a := sYe nb l A t 6) (b := gG nb l A t) hf (by omega) (by unfold gG; omega) (by unfold gG; omega)
  refine ⟨M', ?_, r2, r3⟩
  have l2 := lI_w (n := max 1 (sAs nb l A t 6)) (by omega)
  have l4 := lI_w (n := sYe nb l A t 6) (by omega)
  have m1 := q_max1 (X := X) (S := kS) (M := M) (b := sAs nb l A t 6) (by omega)
  have r1' : am_e X 32 0 [some (.ref f), some (.long (lI (sYe nb l A t 6))), none, some (.long (lI (max 1 (sAs nb l A t 6)))), none, none, none, none, none, none, none, none] [] kS M = some (none, kS, M') := r1
  obtain ⟨f0, f1, f2⟩ := hf
  simp only [e72_0, e72_1, e72_2, e72_5, e72_6, e72_7, e72_9, e72_10, e72_11, e72_12, e72_13, e72_16, e72_17, e72_18, e72_20, e72_21, e72_24, e72_25, e72_28, s36, s36_0, s36_1, s36_2, r36_0, r36_1, r36_2, s37, s38, s39, s40, s41, s42, s43, s44, s45, s46, s47, s47_0, s47_1, ct, c6, g6, g7, x3, x4, l2, l4, m1, f0, f1, f2, r1', a37 ht, r37 t ht, t37 t ht, a42 ht, r42 t ht, t42 t ht, am_bv_s, am_bw_s, eq_self, true_or, or_true, am_b0, am_b1, am_em, if_true, if_false, true_and, and_true, false_and, and_false, not_true_eq_false, not_false_eq_true, false_or, or_false, Bool.false_eq_true]
end
