/-! the reference: divisor, part, adds -/
section
variable {X : am_X} {S : am_Sh} {M M' : am_Me} {P : Nat → Nat → Prop} {s : sgm}
theorem m_divLoop : ∀ (n a b : Nat), b ≤ n → a < 2 ^ 63 → b < 2 ^ 63 → am_e X 151 17 [none, none, none, none, some (.long (lI a)), none, some (.long (lI b)), none, none, none] [] S M = some (some (.long (lI (Nat.gcd a b))), S, M) := by
  intro n
  induction n with
  | zero =>
    intro a b hb ha hb2
    obtain rfl : b = 0 := by omega
    have c2 : (lI 0 = 0) = True := eq_true rfl
    rw [Nat.gcd_zero_right, e151_17]
    simp only [e151_0, e151_1, e151_2, e151_3, e151_6, e151_7, e151_8, e151_11, e151_12, e151_14, e151_15, e151_19, e151_20, e151_21, e151_24, e151_26, e151_28, e151_29, e151_31, e151_33, e151_35, e151_37, e151_39, e151_42, e151_44, lc_eq, c2, am_bv_s, am_bw_s, eq_self, true_or, or_true, am_b0, am_b1, am_em, if_true, if_false, true_and, and_true, false_and, and_false, not_true_eq_false, not_false_eq_true, false_or, or_false, Bool.false_eq_true]
  | succ n ih =>
    intro a b hb ha hb2
    by_cases h0 : b = 0
    · subst h0
      have c2 : (lI 0 = 0) = True := eq_true rfl
      rw [Nat.gcd_zero_right, e151_17]
      simp only [e151_0, e151_1, e151_2, e151_3, e151_6, e151_7, e151_8, e151_11, e151_12, e151_14, e151_15, e151_19, e151_20, e151_21, e151_24, e151_26, e151_28, e151_29, e151_31, e151_33, e151_35, e151_37, e151_39, e151_42, e151_44, lc_eq, c2, am_bv_s, am_bw_s, eq_self, true_or, or_true, am_b0, am_b1, am_em, if_true, if_false, true_and, and_true, false_and, and_false, not_true_eq_false, not_false_eq_true, false_or, or_false, Bool.false_eq_true]
    · have hr := Nat.mod_lt a (show b > 0 by omega)
      have c2 : (lI b = 0) = False := by rw [lI_0e hb2]; exact eq_false h0
      have g : Nat.gcd b (a % b) = Nat.gcd a b := by
        rw [Nat.gcd_comm a b, Nat.gcd_rec b a, Nat.gcd_comm]
      rw [← g, ← ih b (a % b) (by omega) hb2 (by omega), e151_17]
      simp only [e151_0, e151_1, e151_2, e151_3, e151_6, e151_7, e151_8, e151_11, e151_12, e151_14, e151_15, e151_19, e151_20, e151_21, e151_24, e151_26, e151_28, e151_29, e151_31, e151_33, e151_35, e151_37, e151_39, e151_42, e151_44, lc_eq, c2, lI_mod ha hb2, am_bv_s, am_bw_s, eq_self, true_or, or_true, am_b0, am_b1, am_em, if_true, if_false, true_and, and_true, false_and, and_false, not_true_eq_false, not_false_eq_true, false_or, or_false, Bool.false_eq_true]
theorem m_divisor {a b : Nat} (ha : a < 2 ^ 63) (hb : b < 2 ^ 63) : am_e X 151 0 [some (.long (lI a)), none, some (.long (lI b)), none, none, none, none, none, none, none] [] S M = some (some (.long (lI (Nat.gcd a b))), S, M) := by
  have c : (lI a < 0) = False := by rw [← lI_0, lI_lt ha (by decide)]; exact eq_false (by omega)
  rw [← m_divLoop (X := X) (M := M) b a b (Nat.le_refl _) ha hb]
  simp only [e151_0, e151_1, e151_2, e151_3, e151_6, e151_7, e151_8, e151_11, e151_12, e151_14, e151_15, e151_19, e151_20, e151_21, e151_24, e151_26, e151_28, e151_29, e151_31, e151_33, e151_35, e151_37, e151_39, e151_42, e151_44, lc_lt, c, am_bv_s, am_bw_s, eq_self, true_or, or_true, am_b0, am_b1, am_em, if_true, if_false, true_and, and_true, false_and, and_false, not_true_eq_false, not_false_eq_true, false_or, or_false, Bool.false_eq_true]
theorem m_part2 {a b : Nat} {w : Int32} (ha : a < 2 ^ 63) (hb : b < 2 ^ 63) (h0 : 0 < b) : am_e X 152 0 [some (.long (lI a)), none, some (.long (lI b)), none, some (.int w)] [] S M = some (some (.long (fp (fr a b) w)), S, M) := by
  have hg : 0 < Nat.gcd a b := Nat.gcd_pos_of_pos_right a h0
  have hl : Nat.gcd a b ≤ b := Nat.le_of_dvd h0 (Nat.gcd_dvd_right a b)
  have c2 : (lI (Nat.gcd a b) = 0) = False := by rw [lI_0e (by omega)]; exact eq_false (by omega)
  unfold fp fr
  by_cases h : w = 0
  · rw [if_pos h]
    simp only [e152_0, e152_2, e152_5, e152_6, e152_9, e152_10, e152_11, e152_12, e152_15, e152_16, h, m_divisor ha hb, c2, lI_div ha (show Nat.gcd a b < 2 ^ 63 by omega), am_bv_s, am_bw_s, eq_self, true_or, or_true, am_b0, am_b1, am_em, if_true, if_false, true_and, and_true, false_and, and_false, not_true_eq_false, not_false_eq_true, false_or, or_false, Bool.false_eq_true]
  · rw [if_neg h]
    simp only [e152_0, e152_2, e152_5, e152_6, e152_9, e152_10, e152_11, e152_12, e152_15, e152_16, h, m_divisor ha hb, c2, lI_div hb (show Nat.gcd a b < 2 ^ 63 by omega), am_bv_s, am_bw_s, eq_self, true_or, or_true, am_b0, am_b1, am_em, if_true, if_false, true_and, and_true, false_and, and_false, not_true_eq_false, not_false_eq_true, false_or, or_false, Bool.false_eq_true]
/-- the sum as the reference keeps it -/
def mQ (p : Nat × Nat) (M : am_Me) : Prop := M.2 59 24 = lI p.1 ∧ M.2 59 25 = lI p.2
def pmQ (a k : Nat) : Prop := a = 59 ∧ (k = 24 ∨ k = 25)
def adq (p : Nat × Nat) (a b : Nat) : Nat × Nat := (p.1 * (b / Nat.gcd p.2 b) + a * (p.2 / Nat.gcd p.2 b), p.2 / Nat.gcd p.2 b * b)
theorem m_adds {p : Nat × Nat} {a b : Nat} (hx : mQ p M) (hp : p.2 < 2 ^ 63) (hb : b < 2 ^ 63) (h0 : 0 < b) : ∃ M', am_e X 182 0 [some (.ref (59 : Nat)), some (.long (lI a)), none, some (.long (lI b)), none, none, none] [] kS M = some (none, kS, M') ∧ mQ (adq p a b) M' ∧ am_of pmQ M M' := by
  have hg : 0 < Nat.gcd p.2 b := Nat.gcd_pos_of_pos_right p.2 h0
  have hl : Nat.gcd p.2 b ≤ b := Nat.le_of_dvd h0 (Nat.gcd_dvd_right p.2 b)
  have c2 : (lI (Nat.gcd p.2 b) = 0) = False := by rw [lI_0e (by omega)]; exact eq_false (by omega)
  have gl : Nat.gcd p.2 b < 2 ^ 63 := by omega
  refine ⟨am_setL (am_setL M 59 24 (lI (adq p a b).1)) 59 25 (lI (adq p a b).2), ?_, ⟨by rw [gL, if_neg (by omega), gL, if_pos ⟨rfl, rfl⟩], by rw [gL, if_pos ⟨rfl, rfl⟩]⟩, am_of.sL (am_of.sL am_of.rf ⟨rfl, Or.inl rfl⟩) ⟨rfl, Or.inr rfl⟩⟩
  have e1 : ∀ z, (am_setL M 59 24 z).2 59 25 = lI p.2 := fun z => by rw [gL, if_neg (by omega)]; exact hx.2
  simp only [e182_0, e182_1, e182_4, e182_5, e182_8, e182_10, e182_11, e182_12, e182_15, e182_16, e182_18, e182_19, e182_20, e182_21, e182_22, e182_25, e182_27, e182_28, e182_29, e182_30, e182_33, e182_34, e182_35, e182_38, e182_40, e182_41, e182_42, e182_43, e182_46, s59, s59_0, s59_1, s59_2, s59_3, s59_4, s59_5, s59_6, s59_7, s59_8, s59_9, s59_10, s59_11, s59_12, s59_13, s59_14, s59_15, s59_16, s59_17, s59_18, s59_19, s59_20, s59_21, s59_22, s59_23, s59_24, s59_25, s59_26, s59_27, s59_28, s59_29, s59_30, s59_31, r59_0, r59_1, r59_2, r59_3, r59_6, r59_8, r59_9, r59_13, r59_15, r59_16, r59_17, r59_19, r59_22, r59_23, r59_26, r59_30, r59_31, s60, s61, s62, s63, s64, s65, s66, s67, s68, s69, s70, s71, s72, s73, s74, s75, s76, hx.1, hx.2, e1, m_divisor hp hb, c2, lI_div hb gl, lI_div hp gl, lI_mul, lI_add, adq, am_bv_s, am_bw_s, eq_self, true_or, or_true, am_b0, am_b1, am_em, if_true, if_false, true_and, and_true, false_and, and_false, not_true_eq_false, not_false_eq_true, false_or, or_false, Bool.false_eq_true]
/-- adding keeps the quotient, and the denominator divides -/
theorem adq_ok {p : Nat × Nat} {N L c hD t a b : Nat} (h1 : p.1 * L = N * p.2) (h2 : p.2 ∣ L) (hp : 0 < p.2) (hb : 0 < b) (hab : a * hD = t * c * b) (hbd : b ∣ hD) {h D H : Nat} (eL : L = D * H) (eh : hD = h * D) : (adq p a b).1 * (D * (H * h)) = (N * h + t * c * H) * (adq p a b).2 := by
  obtain ⟨u, hu⟩ := Nat.gcd_dvd_left p.2 b
  obtain ⟨v, hv⟩ := Nat.gcd_dvd_right p.2 b
  have hg : 0 < Nat.gcd p.2 b := Nat.gcd_pos_of_pos_right p.2 hb
  unfold adq
  dsimp only
  generalize hgg : Nat.gcd p.2 b = g at *
  have e1 : p.2 / g = u := by rw [hu]; exact Nat.mul_div_cancel_left u hg
  have e2 : b / g = v := by rw [hv]; exact Nat.mul_div_cancel_left v hg
  rw [e1, e2]
  apply Nat.eq_of_mul_eq_mul_right hg
  calc (p.1 * v + a * u) * (D * (H * h)) * g = (p.1 * (D * H)) * (g * v) * h + (a * (h * D)) * (g * u) * H := by
        rw [Nat.add_mul, Nat.add_mul]
        congr 1 <;> ac_rfl
    _ = (N * p.2) * b * h + (t * c * b) * p.2 * H := by rw [← eL, ← eh, h1, hab, ← hu, ← hv]
    _ = (N * h + t * c * H) * (p.2 * b) := by
        rw [Nat.add_mul]
        congr 1 <;> ac_rfl
    _ = (N * h + t * c * H) * (u * b) * g := by
        conv => lhs; rw [hu]
        ac_rfl
end
