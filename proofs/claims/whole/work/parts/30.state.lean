/-! the state: bands, books, answers; what follows from it -/
theorem am_loop {X : am_X} {S : am_Sh} {mi pc n : Nat} (L : Nat → am_Lo) (I : Nat → am_Me → Prop) (st : ∀ j M, j < n → I j M → ∃ M', am_e X mi pc (L j) [] S M = am_e X mi pc (L (j + 1)) [] S M' ∧ I (j + 1) M') : ∀ (k i : Nat), i + k = n → ∀ M, I i M → ∃ M', am_e X mi pc (L i) [] S M = am_e X mi pc (L n) [] S M' ∧ I n M' := by
  intro k
  induction k with
  | zero =>
    intro i hk M hI
    obtain rfl : i = n := by omega
    exact ⟨M, rfl, hI⟩
  | succ k ih =>
    intro i hk M hI
    obtain ⟨M1, e1, h1⟩ := st i M (by omega) hI
    obtain ⟨M2, e2, h2⟩ := ih (i + 1) (by omega) M1 h1
    exact ⟨M2, e1.trans e2, h2⟩
/-- the loop from 0 -/
theorem am_lp {X : am_X} {S : am_Sh} {mi pc : Nat} (n : Nat) (L : Nat → am_Lo) (I : Nat → am_Me → Prop) {M : am_Me} (h0 : I 0 M) (st : ∀ j M, j < n → I j M → ∃ M', am_e X mi pc (L j) [] S M = am_e X mi pc (L (j + 1)) [] S M' ∧ I (j + 1) M') : ∃ M', am_e X mi pc (L 0) [] S M = am_e X mi pc (L n) [] S M' ∧ I n M' := am_loop L I st n 0 (by omega) M h0
def cnt (p : Nat → Prop) [∀ i, Decidable (p i)] : Nat → Nat
  | 0 => 0
  | n + 1 => cnt p n + (if p n then 1 else 0)
theorem cnt_s1 {p : Nat → Prop} [∀ i, Decidable (p i)] {n : Nat} (h : p n) : cnt p (n + 1) = cnt p n + 1 := by
  rw [cnt, if_pos h]
theorem cnt_s0 {p : Nat → Prop} [∀ i, Decidable (p i)] {n : Nat} (h : ¬ p n) : cnt p (n + 1) = cnt p n := by
  rw [cnt, if_neg h, Nat.add_zero]
theorem cnt_le (p : Nat → Prop) [∀ i, Decidable (p i)] : ∀ n, cnt p n ≤ n
  | 0 => Nat.le_refl _
  | n + 1 => by
    have := cnt_le p n
    unfold cnt
    split <;> omega
theorem cnt_mo {p q : Nat → Prop} [∀ i, Decidable (p i)] [∀ i, Decidable (q i)] : ∀ n, (∀ i, i < n → p i → q i) → cnt p n ≤ cnt q n
  | 0, _ => Nat.le_refl _
  | n + 1, h => by
    have h1 := cnt_mo n (fun i hi => h i (by omega))
    have h2 := h n (by omega)
    unfold cnt
    by_cases hp : p n
    · rw [if_pos hp, if_pos (h2 hp)]
      omega
    · rw [if_neg hp]
      split <;> omega
theorem cnt_c {p q : Nat → Prop} [∀ i, Decidable (p i)] [∀ i, Decidable (q i)] (n : Nat) (h : ∀ i, i < n → (p i ↔ q i)) : cnt p n = cnt q n := Nat.le_antisymm (cnt_mo n fun i hi => (h i hi).mp) (cnt_mo n fun i hi => (h i hi).mpr)
abbrev sgD : Type := Nat × (Nat → Nat)
abbrev sgB : Type := Nat × (Nat → Nat → Nat)
/-- answers: how many, whose, of which word, what, when; the view's time -/
abbrev sgA : Type := Nat × (Nat → Nat) × (Nat → Nat) × (Nat → Int32) × (Nat → Nat) × Nat
def okD (d : sgD) : Prop := d.1 ≤ 6 ∧ ∀ b, b < d.1 → 1 ≤ d.2 b ∧ d.2 b ≤ 99
def okB (b : sgB) : Prop := b.1 ≤ 6 ∧ ∀ k, k < 6 → ∀ d, d < 6 → b.2 k d ≤ 99
def okS (v : Int32) : Prop := v = -1 ∨ v = 0 ∨ v = 1
def okA (A : sgA) : Prop := A.1 ≤ 120 ∧ A.2.2.2.2.2 ≤ 999 ∧ ∀ i, i < A.1 → A.2.1 i < 4 ∧ A.2.2.1 i < 40 ∧ okS (A.2.2.2.1 i) ∧ A.2.2.2.2.1 i ≤ 999
/-- what one said last of a word, as of a time -/
def sdn (A : sgA) (tm t w : Nat) : Nat → Int32
  | 0 => -1
  | n + 1 => if A.2.1 n = t ∧ A.2.2.1 n = w ∧ A.2.2.2.2.1 n ≤ tm then A.2.2.2.1 n else sdn A tm t w n
def sd (A : sgA) (tm t w : Nat) : Int32 := sdn A tm t w A.1
theorem sdn_ok {A : sgA} (ho : okA A) {tm t w : Nat} : ∀ n, n ≤ A.1 → okS (sdn A tm t w n)
  | 0, _ => Or.inl rfl
  | n + 1, h => by
    unfold sdn
    split
    · exact (ho.2.2 n h).2.2.1
    · exact sdn_ok ho n (by omega)
theorem sd_ok {A : sgA} (ho : okA A) {tm t w : Nat} : okS (sd A tm t w) := sdn_ok ho _ (Nat.le_refl _)
def xD (d : sgD) (M : am_Me) : Prop := M.1 1 4 = nI d.1 ∧ ∀ b, b < d.1 → M.1 2 b = nI (d.2 b)
def mD (d : sgD) (M : am_Me) : Prop := M.1 59 5 = nI d.1 ∧ ∀ b, b < d.1 → M.1 64 b = nI (d.2 b)
def xB (b : sgB) (M : am_Me) : Prop := M.1 6 8 = nI b.1 ∧ ∀ k, k < 6 → ∀ d, d < 6 → M.1 (8 + k) d = nI (b.2 k d)
def mB (b : sgB) (M : am_Me) : Prop := M.1 59 7 = nI b.1 ∧ ∀ k, k < 6 → ∀ d, d < 6 → M.1 65 (6 * k + d) = nI (b.2 k d)
def xA (A : sgA) (M : am_Me) : Prop := M.1 24 7 = nI A.1 ∧ M.1 24 8 = nI A.2.2.2.2.2 ∧ ∀ i, i < A.1 → M.1 25 i = nI (A.2.1 i) ∧ M.1 26 i = nI (A.2.2.1 i) ∧ M.1 27 i = A.2.2.2.1 i ∧ M.1 28 i = nI (A.2.2.2.2.1 i)
def mA (A : sgA) (M : am_Me) : Prop := M.1 59 14 = nI A.1 ∧ M.1 59 18 = nI A.2.2.2.2.2 ∧ ∀ i, i < A.1 → M.1 68 i = nI (40 * A.2.1 i + A.2.2.1 i) ∧ M.1 69 i = A.2.2.2.1 i ∧ M.1 70 i = nI (A.2.2.2.2.1 i)
def xN (A : sgA) (M : am_Me) : Prop := ∀ t, t < 4 → ∀ w, w < 40 → M.1 (30 + t) w = sd A A.2.2.2.2.2 t w
/-- of the words of a kind: how many were answered; how many with yes -/
def sAs (nb : Nat) (l : sgL) (A : sgA) (t k : Nat) : Nat := cnt (fun w => (ps nb l).2.2 w = k ∧ sd A A.2.2.2.2.2 t w ≠ -1) (ps nb l).2.1
def sYe (nb : Nat) (l : sgL) (A : sgA) (t k : Nat) : Nat := cnt (fun w => (ps nb l).2.2 w = k ∧ sd A A.2.2.2.2.2 t w = 1) (ps nb l).2.1
theorem sYe_le {nb : Nat} {l : sgL} {A : sgA} {t k : Nat} : sYe nb l A t k ≤ sAs nb l A t k := cnt_mo _ fun i _ h => ⟨h.1, by rw [h.2]; decide⟩
theorem sAs_le {nb : Nat} (hb : nb ≤ 6) {l : sgL} {A : sgA} {t k : Nat} : sAs nb l A t k ≤ 40 := Nat.le_trans (cnt_le _ _) (ps_le hb).1
def xT (nb : Nat) (l : sgL) (A : sgA) (M : am_Me) : Prop := ∀ t, t < 4 → ∀ k, k < 7 → M.1 (38 + t) k = nI (sAs nb l A t k) ∧ M.1 (43 + t) k = nI (sYe nb l A t k)
section
variable {X : am_X} {S : am_Sh} {M : am_Me} {A : sgA}
theorem xA.of {M M' : am_Me} {P : Nat → Nat → Prop} (hx : xA A M) (ho : am_of P M M') (hP : ∀ a k, P a k → ¬ ((a = 24) ∨ (25 ≤ a ∧ a ≤ 28))) : xA A M' := by
  have key : ∀ a k, ((a = 24) ∨ (25 ≤ a ∧ a ≤ 28)) → M'.1 a k = M.1 a k := fun a k q => (ho a k (fun z => hP a k z q)).1
  obtain ⟨h1, h2, h3⟩ := hx
  exact ⟨(key _ _ (by omega)).trans h1, (key _ _ (by omega)).trans h2, fun i hi => by
    obtain ⟨q1, q2, q3, q4⟩ := h3 i hi
    exact ⟨(key _ _ (by omega)).trans q1, (key _ _ (by omega)).trans q2, (key _ _ (by omega)).trans q3, (key _ _ (by omega)).trans q4⟩⟩
theorem q_fillAsOf {r t tm : Nat} (hx : xA A M) (ho : okA A) (hr : am_is kS r 100 = true) (hl : kS.2.2.2.1 r = 40) (hd : ¬ ((r = 24) ∨ (25 ≤ r ∧ r ≤ 28))) (ht : t < 4) (htm : tm ≤ 999) :
    ∃ M', am_e X 10 0 [some (.ref (24 : Nat)), some (.ref r), some (.int (nI t)), some (.int (nI tm)), none] [] kS M = some (none, kS, M') ∧ (∀ w, w < 40 → M'.1 r w = sd A tm t w) ∧ am_of (fun a _ => a = r) M M' := by
  have hfill := q_fill0 (X := X) (M := M) (a := r) (n := 40) (v := -1) (by decide) hr hl
  generalize hM1 : am_setA M r (fun j => if j < 40 then -1 else M.1 r j) = M1 at hfill
  have of1 : am_of (fun a _ => a = r) M M1 := by rw [← hM1]; exact am_of.rf.sA (fun _ => Or.inl rfl)
  obtain ⟨M', e1, h1, h2⟩ := am_lp (X := X) (S := kS) (mi := 10) (pc := 8) A.1 (fun i => [some (.ref (24 : Nat)), some (.ref r), some (.int (nI t)), some (.int (nI tm)), some (.int (nI i))])
    (fun i M' => (∀ w, w < 40 → M'.1 r w = sdn A tm t w i) ∧ am_of (fun a _ => a = r) M M') (M := M1) ⟨fun w hw => by rw [← hM1, gA, if_pos rfl, if_pos hw]; rfl, of1⟩ (by
      intro j M2 hj hI
      obtain ⟨i1, i2⟩ := hI
      have x2 : xA A M2 := hx.of i2 (fun a k q => by subst q; exact hd)
      obtain ⟨y1, y2, y3⟩ := x2
      obtain ⟨z1, z2, z3, z4⟩ := y3 j hj
      obtain ⟨o1, o2, o3⟩ := ho
      obtain ⟨p1, p2, p3, p4⟩ := o3 j hj
      have c1 : (nI j < nI A.1) = True := eq_true (nI_lt hj (by omega))
      have cj : (nI j).toNatClampNeg = j := nI_clamp (by omega)
      have cw : (nI (A.2.2.1 j)).toNatClampNeg = A.2.2.1 j := nI_clamp (by omega)
      have c2 : (nI (A.2.1 j) = nI t) = (A.2.1 j = t) := propext (nI_eq (by omega) (by omega))
      have c3 : (nI tm < nI (A.2.2.2.2.1 j)) = (tm < A.2.2.2.2.1 j) := propext ⟨fun h => by
        rw [Int32.lt_iff_toInt_lt, nI_toInt (by omega), nI_toInt (by omega)] at h; omega, fun h => nI_lt h (by omega)⟩
      have har : am_ar kS r 100 (nI (A.2.2.1 j)) = true := ar_nI hr hl p2 (by decide)
      by_cases h1 : A.2.1 j = t
      · by_cases h2 : tm < A.2.2.2.2.1 j
        · refine ⟨M2, ?_, fun w hw => ?_, i2⟩
          · rw [e10_8]
            simp only [e10_0, e10_1, e10_2, e10_5, e10_6, e10_10, e10_11, e10_14, e10_17, e10_18, e10_21, e10_23, e10_24, e10_25, e10_28, e10_29, e10_32, e10_34, e10_35, e10_36, e10_39, e10_40, e10_41, e10_44, e10_46, e10_47, e10_48, e10_51, e10_53, e10_54, e10_55, e10_58, e10_61, s24, s24_0, s24_1, s24_2, s24_3, s24_4, s24_5, s24_6, s24_7, s24_8, r24_0, r24_1, r24_2, r24_3, r24_4, r24_5, r24_6, s25, s26, s27, s28, s29, s30, s31, s32, s33, s34, s35, y1, c1, cj, z1, z2, z3, z4, a25 (show j < 120 by omega), a28 (show j < 120 by omega), c2, c3, h1, h2, nI_1, am_bv_s, am_bw_s, eq_self, true_or, or_true, am_b0, am_b1, am_em, if_true, if_false, true_and, and_true, false_and, and_false, not_true_eq_false, not_false_eq_true, false_or, or_false, Bool.false_eq_true]
          · rw [i1 w hw, sdn, if_neg (by omega)]
        · refine ⟨am_setI M2 r (A.2.2.1 j) (A.2.2.2.1 j), ?_, fun w hw => ?_, i2.sI rfl⟩
          · rw [e10_8]
            simp only [e10_0, e10_1, e10_2, e10_5, e10_6, e10_10, e10_11, e10_14, e10_17, e10_18, e10_21, e10_23, e10_24, e10_25, e10_28, e10_29, e10_32, e10_34, e10_35, e10_36, e10_39, e10_40, e10_41, e10_44, e10_46, e10_47, e10_48, e10_51, e10_53, e10_54, e10_55, e10_58, e10_61, s24, s24_0, s24_1, s24_2, s24_3, s24_4, s24_5, s24_6, s24_7, s24_8, r24_0, r24_1, r24_2, r24_3, r24_4, r24_5, r24_6, s25, s26, s27, s28, s29, s30, s31, s32, s33, s34, s35, y1, c1, cj, cw, har, z1, z2, z3, z4, a25 (show j < 120 by omega), a26 (show j < 120 by omega), a27 (show j < 120 by omega), a28 (show j < 120 by omega), c2, c3, h1, h2, nI_1, am_bv_s, am_bw_s, eq_self, true_or, or_true, am_b0, am_b1, am_em, if_true, if_false, true_and, and_true, false_and, and_false, not_true_eq_false, not_false_eq_true, false_or, or_false, Bool.false_eq_true]
          · rw [gI, sdn]
            by_cases h3 : w = A.2.2.1 j
            · rw [if_pos ⟨rfl, h3⟩, if_pos ⟨h1, h3.symm, by omega⟩]
            · rw [if_neg (fun q => h3 q.2), if_neg (fun q => h3 q.2.1.symm)]
              exact i1 w hw
      · refine ⟨M2, ?_, fun w hw => ?_, i2⟩
        · rw [e10_8]
          simp only [e10_0, e10_1, e10_2, e10_5, e10_6, e10_10, e10_11, e10_14, e10_17, e10_18, e10_21, e10_23, e10_24, e10_25, e10_28, e10_29, e10_32, e10_34, e10_35, e10_36, e10_39, e10_40, e10_41, e10_44, e10_46, e10_47, e10_48, e10_51, e10_53, e10_54, e10_55, e10_58, e10_61, s24, s24_0, s24_1, s24_2, s24_3, s24_4, s24_5, s24_6, s24_7, s24_8, r24_0, r24_1, r24_2, r24_3, r24_4, r24_5, r24_6, s25, s26, s27, s28, s29, s30, s31, s32, s33, s34, s35, y1, c1, cj, z1, a25 (show j < 120 by omega), c2, h1, nI_1, am_bv_s, am_bw_s, eq_self, true_or, or_true, am_b0, am_b1, am_em, if_true, if_false, true_and, and_true, false_and, and_false, not_true_eq_false, not_false_eq_true, false_or, or_false, Bool.false_eq_true]
        · rw [i1 w hw, sdn, if_neg (fun q => h1 q.1)])
  refine ⟨M', ?_, h1, h2⟩
  have x2 : xA A M' := hx.of h2 (fun a k q => by subst q; exact hd)
  have c1 : (nI A.1 < nI A.1) = False := eq_false (nI_nlt (Nat.le_refl _) (by have := ho.1; omega))
  have e2 : am_e X 10 8 [some (.ref (24 : Nat)), some (.ref r), some (.int (nI t)), some (.int (nI tm)), some (.int (nI A.1))] [] kS M' = some (none, kS, M') := by
    rw [e10_8]
    simp only [e10_0, e10_1, e10_2, e10_5, e10_6, e10_10, e10_11, e10_14, e10_17, e10_18, e10_21, e10_23, e10_24, e10_25, e10_28, e10_29, e10_32, e10_34, e10_35, e10_36, e10_39, e10_40, e10_41, e10_44, e10_46, e10_47, e10_48, e10_51, e10_53, e10_54, e10_55, e10_58, e10_61, s24, s24_0, s24_1, s24_2, s24_3, s24_4, s24_5, s24_6, s24_7, s24_8, r24_0, r24_1, r24_2, r24_3, r24_4, r24_5, r24_6, s25, s26, s27, s28, s29, s30, s31, s32, s33, s34, s35, x2.1, c1, am_bv_s, am_bw_s, eq_self, true_or, or_true, am_b0, am_b1, am_em, if_true, if_false, true_and, and_true, false_and, and_false, not_true_eq_false, not_false_eq_true, false_or, or_false, Bool.false_eq_true]
  rw [e2] at e1
  rw [← e1]
  simp only [e10_0, e10_1, e10_2, e10_5, e10_6, e10_10, e10_11, e10_14, e10_17, e10_18, e10_21, e10_23, e10_24, e10_25, e10_28, e10_29, e10_32, e10_34, e10_35, e10_36, e10_39, e10_40, e10_41, e10_44, e10_46, e10_47, e10_48, e10_51, e10_53, e10_54, e10_55, e10_58, e10_61, hfill, am_bv_s, am_bw_s, eq_self, true_or, or_true, am_b0, am_b1, am_em, if_true, if_false, true_and, and_true, false_and, and_false, not_true_eq_false, not_false_eq_true, false_or, or_false, Bool.false_eq_true]
  rfl
end
