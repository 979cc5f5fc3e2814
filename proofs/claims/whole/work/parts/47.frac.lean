/-! long numbers; fractions in lowest terms -/
theorem lI_toInt {n : Nat} (h : n < 2 ^ 63) : (lI n).toInt = n := Int64.toInt_ofNat_of_lt h
theorem lI_inj {n : Nat} {x : Int64} (h : n < 2 ^ 63) (e : x.toInt = n) : x = lI n := Int64.toInt_inj.mp (by rw [e, lI_toInt h])
theorem lI_0 : lI 0 = 0 := rfl
theorem lI_1 : lI 1 = 1 := rfl
theorem lI_add {a b : Nat} : lI a + lI b = lI (a + b) := (Int64.ofNat_add a b).symm
theorem lI_mul {a b : Nat} : lI a * lI b = lI (a * b) := (Int64.ofNat_mul a b).symm
theorem lI_sub {a b : Nat} (h : b ≤ a) : lI a - lI b = lI (a - b) := by
  have e : lI a = lI (a - b) + lI b := by rw [lI_add, Nat.sub_add_cancel h]
  rw [e]
  exact Int64.add_sub_cancel _ _
theorem lI_w {n : Nat} (h : n < 2 ^ 31) : (nI n).toInt64 = lI n := lI_inj (by omega) (by rw [Int32.toInt_toInt64, nI_toInt h])
theorem lI_lt {a b : Nat} (ha : a < 2 ^ 63) (hb : b < 2 ^ 63) : (lI a < lI b) = (a < b) := propext (by
  rw [Int64.lt_iff_toInt_lt, lI_toInt ha, lI_toInt hb]
  omega)
theorem lI_eq {a b : Nat} (ha : a < 2 ^ 63) (hb : b < 2 ^ 63) : (lI a = lI b) = (a = b) := propext ⟨fun h => by
  have := congrArg Int64.toInt h
  rw [lI_toInt ha, lI_toInt hb] at this
  omega, fun h => by rw [h]⟩
theorem lI_0e {a : Nat} (ha : a < 2 ^ 63) : (lI a = 0) = (a = 0) := by
  rw [← lI_0, lI_eq ha (by decide)]
theorem lI_div {a b : Nat} (ha : a < 2 ^ 63) (hb : b < 2 ^ 63) : lI a / lI b = lI (a / b) := by
  have := Nat.div_le_self a b
  apply lI_inj (by omega)
  rw [Jvm.Kit.i64_div (by rw [lI_toInt hb]; omega), lI_toInt ha, lI_toInt hb]
  exact Int.tdiv_eq_ediv_of_nonneg (by omega)
theorem lI_mod {a b : Nat} (ha : a < 2 ^ 63) (hb : b < 2 ^ 63) : lI a - lI a / lI b * lI b = lI (a % b) := by
  rw [lI_div ha hb, lI_mul, lI_sub (Nat.div_mul_le_self a b)]
  congr 1
  have := Nat.div_add_mod a b
  rw [Nat.mul_comm] at this
  omega
def fr (a b : Nat) : Nat × Nat := (a / Nat.gcd a b, b / Nat.gcd a b)
theorem fr_pos {a b : Nat} (hb : 0 < b) : 0 < (fr a b).2 := Nat.div_pos (Nat.le_of_dvd hb (Nat.gcd_dvd_right a b)) (Nat.gcd_pos_of_pos_right a hb)
theorem fr_x {a b : Nat} : (fr a b).1 * b = a * (fr a b).2 := by
  unfold fr
  dsimp only
  obtain ⟨c, hc⟩ := Nat.gcd_dvd_left a b
  obtain ⟨d, hd⟩ := Nat.gcd_dvd_right a b
  by_cases h : Nat.gcd a b = 0
  · rw [h] at hc hd
    rw [Nat.zero_mul] at hc hd
    rw [hc, hd]
    simp
  · generalize hg : Nat.gcd a b = g at *
    have e1 : a / g = c := by rw [hc]; exact Nat.mul_div_cancel_left c (by omega)
    have e2 : b / g = d := by rw [hd]; exact Nat.mul_div_cancel_left d (by omega)
    rw [e1, e2, hc, hd, ← Nat.mul_assoc, Nat.mul_comm c g]
theorem fr_le {a b : Nat} : (fr a b).1 ≤ a ∧ (fr a b).2 ≤ b := ⟨Nat.div_le_self _ _, Nat.div_le_self _ _⟩
theorem fr_co {a b : Nat} (hb : 0 < b) : Nat.gcd (fr a b).1 (fr a b).2 = 1 := by
  unfold fr
  dsimp only
  have hg := Nat.gcd_pos_of_pos_right a hb
  obtain ⟨c, hc⟩ := Nat.gcd_dvd_left a b
  obtain ⟨d, hd⟩ := Nat.gcd_dvd_right a b
  have e1 : a / Nat.gcd a b = c := Nat.div_eq_of_eq_mul_right hg hc
  have e2 : b / Nat.gcd a b = d := Nat.div_eq_of_eq_mul_right hg hd
  rw [e1, e2]
  have e3 : Nat.gcd (Nat.gcd a b * c) (Nat.gcd a b * d) = Nat.gcd a b * Nat.gcd c d := Nat.gcd_mul_left _ _ _
  rw [← hc, ← hd] at e3
  exact (Nat.eq_of_mul_eq_mul_left hg (by rw [Nat.mul_one]; exact e3)).symm
/-- equal quotients, one pair -/
theorem fr_eq {a b c d : Nat} (hb : 0 < b) (hd : 0 < d) (h : a * d = c * b) : fr a b = fr c d := by
  have p1 := fr_pos (a := a) hb
  have p2 := fr_pos (a := c) hd
  have x1 := @fr_x a b
  have x2 := @fr_x c d
  have c1 := fr_co (a := a) hb
  have c2 := fr_co (a := c) hd
  generalize fr a b = p at *
  generalize fr c d = q at *
  -- p.1 * q.2 = q.1 * p.2
  have key : p.1 * q.2 = q.1 * p.2 := by
    apply Nat.eq_of_mul_eq_mul_right (Nat.mul_pos hb hd)
    calc p.1 * q.2 * (b * d) = (p.1 * b) * (q.2 * d) := by ac_rfl
      _ = (a * p.2) * (q.2 * d) := by rw [x1]
      _ = (a * d) * (p.2 * q.2) := by ac_rfl
      _ = (c * b) * (p.2 * q.2) := by rw [h]
      _ = (c * q.2) * (p.2 * b) := by ac_rfl
      _ = (q.1 * d) * (p.2 * b) := by rw [x2]
      _ = q.1 * p.2 * (b * d) := by ac_rfl
  have d1 : p.2 ∣ q.2 := by
    have : p.2 ∣ p.1 * q.2 := ⟨q.1, by rw [key, Nat.mul_comm]⟩
    exact (Nat.Coprime.dvd_of_dvd_mul_left (Nat.Coprime.symm c1) this)
  have d2 : q.2 ∣ p.2 := by
    have : q.2 ∣ q.1 * p.2 := ⟨p.1, by rw [← key, Nat.mul_comm]⟩
    exact (Nat.Coprime.dvd_of_dvd_mul_left (Nat.Coprime.symm c2) this)
  have e2 : p.2 = q.2 := Nat.dvd_antisymm d1 d2
  rw [← e2] at key
  exact Prod.ext (Nat.eq_of_mul_eq_mul_right p1 key) e2
section
variable {X : am_X} {S : am_Sh} {M M' : am_Me}
theorem q_gcd {f : Nat} {a0 b0 : Int64} : ∀ (k a b i : Nat), b < 2 ^ k → i + 2 * k + 1 ≤ 100 → a < 2 ^ 63 → b < 2 ^ 63 → ∃ r i', am_e X 32 9 [some (.ref f), some (.long a0), none, some (.long b0), none, some (.long (lI a)), none, some (.long (lI b)), none, some (.int (nI i)), none, none] [] kS M = am_e X 32 44 [some (.ref f), some (.long a0), none, some (.long b0), none, some (.long (lI (Nat.gcd a b))), none, some (.long r), none, some (.int i'), none, none] [] kS M := by
  have ex : ∀ (a i : Nat), i < 100 → am_e X 32 9 [some (.ref f), some (.long a0), none, some (.long b0), none, some (.long (lI a)), none, some (.long (lI 0)), none, some (.int (nI i)), none, none] [] kS M = am_e X 32 44 [some (.ref f), some (.long a0), none, some (.long b0), none, some (.long (lI a)), none, some (.long (lI 0)), none, some (.int (nI i)), none, none] [] kS M := fun a i hi => by
    have c1 : (nI i < 100) = True := eq_true (nI_lt (b := 100) hi (by decide))
    have c2 : (lI 0 = 0) = True := eq_true rfl
    rw [e32_9]
    simp only [e32_0, e32_1, e32_3, e32_4, e32_6, e32_7, e32_11, e32_13, e32_16, e32_18, e32_19, e32_20, e32_23, e32_25, e32_27, e32_28, e32_30, e32_32, e32_34, e32_36, e32_38, e32_41, e32_45, e32_47, e32_48, e32_49, e32_52, e32_53, e32_55, e32_56, e32_59, e32_60, e32_63, e32_64, e32_66, e32_67, e32_68, e32_71, e32_72, e32_74, e32_75, e32_78, e32_79, e32_82, c1, lc_eq, c2, am_bv_s, am_bw_s, eq_self, true_or, or_true, am_b0, am_b1, am_em, if_true, if_false, true_and, and_true, false_and, and_false, not_true_eq_false, not_false_eq_true, false_or, or_false, Bool.false_eq_true]
  have st : ∀ (a b i : Nat), i < 100 → a < 2 ^ 63 → b < 2 ^ 63 → 0 < b → am_e X 32 9 [some (.ref f), some (.long a0), none, some (.long b0), none, some (.long (lI a)), none, some (.long (lI b)), none, some (.int (nI i)), none, none] [] kS M = am_e X 32 9 [some (.ref f), some (.long a0), none, some (.long b0), none, some (.long (lI b)), none, some (.long (lI (a % b))), none, some (.int (nI (i + 1))), none, none] [] kS M := fun a b i hi ha hb h0 => by
    have c1 : (nI i < 100) = True := eq_true (nI_lt (b := 100) hi (by decide))
    have c2 : (lI b = 0) = False := by rw [lI_0e hb]; exact eq_false (by omega)
    rw [e32_9]
    simp only [e32_0, e32_1, e32_3, e32_4, e32_6, e32_7, e32_11, e32_13, e32_16, e32_18, e32_19, e32_20, e32_23, e32_25, e32_27, e32_28, e32_30, e32_32, e32_34, e32_36, e32_38, e32_41, e32_45, e32_47, e32_48, e32_49, e32_52, e32_53, e32_55, e32_56, e32_59, e32_60, e32_63, e32_64, e32_66, e32_67, e32_68, e32_71, e32_72, e32_74, e32_75, e32_78, e32_79, e32_82, c1, lc_eq, c2, lI_mod ha hb, nI_1, am_bv_s, am_bw_s, eq_self, true_or, or_true, am_b0, am_b1, am_em, if_true, if_false, true_and, and_true, false_and, and_false, not_true_eq_false, not_false_eq_true, false_or, or_false, Bool.false_eq_true]
  intro k
  induction k with
  | zero =>
    intro a b i hb hi ha hb2
    obtain rfl : b = 0 := by omega
    exact ⟨_, _, by rw [ex a i (by omega), Nat.gcd_zero_right]⟩
  | succ k ih =>
    intro a b i hb hi ha hb2
    by_cases h0 : b = 0
    · subst h0
      exact ⟨_, _, by rw [ex a i (by omega), Nat.gcd_zero_right]⟩
    · have hr := Nat.mod_lt a (show b > 0 by omega)
      by_cases h1 : a % b = 0
      · refine ⟨lI 0, nI (i + 1), ?_⟩
        rw [st a b i (by omega) ha hb2 (by omega), h1, ex b (i + 1) (by omega)]
        have : Nat.gcd a b = b := by
          rw [Nat.gcd_comm, Nat.gcd_rec, h1, Nat.gcd_zero_left]
        rw [this]
      · have h2 := Nat.mod_lt b (show a % b > 0 by omega)
        have h3 : b % (a % b) + a % b ≤ b := by
          have q1 := Nat.div_add_mod b (a % b)
          have q2 : 1 ≤ b / (a % b) := Nat.div_pos (by omega) (by omega)
          have q3 : a % b * 1 ≤ a % b * (b / (a % b)) := Nat.mul_le_mul_left _ q2
          omega
        have h4 : b % (a % b) < 2 ^ k := by
          rw [Nat.pow_succ] at hb
          omega
        obtain ⟨r, i', e⟩ := ih (a % b) (b % (a % b)) (i + 1 + 1) h4 (by omega) (by omega) (by omega)
        refine ⟨r, i', ?_⟩
        rw [st a b i (by omega) ha hb2 (by omega), st b (a % b) (i + 1) (by omega) hb2 (by omega) (by omega), e]
        have g : Nat.gcd (a % b) (b % (a % b)) = Nat.gcd a b := by
          rw [Nat.gcd_comm a b, Nat.gcd_rec b a, Nat.gcd_rec (a % b) b, Nat.gcd_comm]
        rw [g]
/-- a fraction is put -/
theorem q_put {f a b : Nat} (h0 : am_is kS f 3 = true) (h1 : am_ob kS f 3 0 = true) (h2 : am_ob kS f 3 1 = true) (ha : a < 2 ^ 63) (hb : b < 2 ^ 48) (hb0 : 0 < b) : am_e X 32 0 [some (.ref f), some (.long (lI a)), none, some (.long (lI b)), none, none, none, none, none, none, none, none] [] kS M = some (none, kS, am_setL (am_setL M f 0 (lI (fr a b).1)) f 1 (lI (fr a b).2)) := by
  obtain ⟨r, i', e⟩ := q_gcd (X := X) (M := M) (f := f) (a0 := lI a) (b0 := lI b) 48 a b 0 hb (by omega) ha (by omega)
  have hg : 0 < Nat.gcd a b := Nat.gcd_pos_of_pos_right a hb0
  have hgl : Nat.gcd a b ≤ b := Nat.le_of_dvd hb0 (Nat.gcd_dvd_right a b)
  have c1 : ((0 : Int64) < lI (Nat.gcd a b)) = True := eq_true (by rw [← lI_0, lI_lt (by decide) (by omega)]; exact hg)
  have c2 : (lI (Nat.gcd a b) = 0) = False := by rw [lI_0e (by omega)]; exact eq_false (by omega)
  have d1 : lI a / lI (Nat.gcd a b) = lI (a / Nat.gcd a b) := lI_div ha (by omega)
  have d2 : lI b / lI (Nat.gcd a b) = lI (b / Nat.gcd a b) := lI_div (by omega) (by omega)
  rw [nI_0] at e
  simp only [e32_0, e32_1, e32_3, e32_4, e32_6, e32_7, e32_11, e32_13, e32_16, e32_18, e32_19, e32_20, e32_23, e32_25, e32_27, e32_28, e32_30, e32_32, e32_34, e32_36, e32_38, e32_41, e32_45, e32_47, e32_48, e32_49, e32_52, e32_53, e32_55, e32_56, e32_59, e32_60, e32_63, e32_64, e32_66, e32_67, e32_68, e32_71, e32_72, e32_74, e32_75, e32_78, e32_79, e32_82, e, am_bv_s, am_bw_s, eq_self, true_or, or_true, am_b0, am_b1, am_em, if_true, if_false, true_and, and_true, false_and, and_false, not_true_eq_false, not_false_eq_true, false_or, or_false, Bool.false_eq_true]
  rw [e32_44]
  simp only [e32_0, e32_1, e32_3, e32_4, e32_6, e32_7, e32_11, e32_13, e32_16, e32_18, e32_19, e32_20, e32_23, e32_25, e32_27, e32_28, e32_30, e32_32, e32_34, e32_36, e32_38, e32_41, e32_45, e32_47, e32_48, e32_49, e32_52, e32_53, e32_55, e32_56, e32_59, e32_60, e32_63, e32_64, e32_66, e32_67, e32_68, e32_71, e32_72, e32_74, e32_75, e32_78, e32_79, e32_82, lc_gt, c1, c2, d1, d2, h0, h1, h2, fr, am_bv_s, am_bw_s, eq_self, true_or, or_true, am_b0, am_b1, am_em, if_true, if_false, true_and, and_true, false_and, and_false, not_true_eq_false, not_false_eq_true, false_or, or_false, Bool.false_eq_true]
end
