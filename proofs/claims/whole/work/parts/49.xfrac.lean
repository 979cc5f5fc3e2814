/-! the class: fractions; shares -/
def hF (f : Nat) (p : Nat × Nat) (M : am_Me) : Prop := M.2 f 0 = lI p.1 ∧ M.2 f 1 = lI p.2
def isF (f : Nat) : Prop := am_is kS f 3 = true ∧ am_ob kS f 3 0 = true ∧ am_ob kS f 3 1 = true
section
variable {X : am_X} {S : am_Sh} {M M' : am_Me} {P : Nat → Nat → Prop} {s : sgm}
theorem hF.of {f : Nat} {p : Nat × Nat} (hx : hF f p M) (ho : am_of P M M') (hP : ∀ a k, P a k → ¬ a = f) : hF f p M' := ⟨((ho _ _ (fun z => hP _ _ z rfl)).2).trans hx.1, ((ho _ _ (fun z => hP _ _ z rfl)).2).trans hx.2⟩
theorem hF.mk {f : Nat} {p : Nat × Nat} : hF f p (am_setL (am_setL M f 0 (lI p.1)) f 1 (lI p.2)) := ⟨by rw [gL, if_neg (by omega), gL, if_pos ⟨rfl, rfl⟩], by rw [gL, if_pos ⟨rfl, rfl⟩]⟩
theorem am_of.f2 {f : Nat} {u v : Int64} : am_of (fun a _ => a = f) M (am_setL (am_setL M f 0 u) f 1 v) := am_of.sL (P := fun a _ => a = f) (am_of.sL (P := fun a _ => a = f) am_of.rf rfl) rfl
theorem hF.fm {f : Nat} {p : Nat × Nat} : am_of (fun a _ => a = f) M (am_setL (am_setL M f 0 (lI p.1)) f 1 (lI p.2)) := am_of.f2
theorem x_put {f a b : Nat} (hf : isF f) (ha : a < 2 ^ 63) (hb : b < 2 ^ 48) (hb0 : 0 < b) : ∃ M', am_e X 32 0 [some (.ref f), some (.long (lI a)), none, some (.long (lI b)), none, none, none, none, none, none, none, none] [] kS M = some (none, kS, M') ∧ hF f (fr a b) M' ∧ am_of (fun a _ => a = f) M M' := ⟨_, q_put hf.1 hf.2.1 hf.2.2 ha hb hb0, hF.mk, hF.fm⟩
/-- whatever is put: it ends -/
theorem x_putT {f : Nat} {a b : Int64} (hf : isF f) : ∃ M', am_e X 32 0 [some (.ref f), some (.long a), none, some (.long b), none, none, none, none, none, none, none, none] [] kS M = some (none, kS, M') ∧ am_of (fun a _ => a = f) M M' := by
  obtain ⟨h0, h1, h2⟩ := hf
  have lp : ∀ (k i : Nat) (c r : Int64), i + k = 100 → ∃ c' r' i', am_e X 32 9 [some (.ref f), some (.long a), none, some (.long b), none, some (.long c), none, some (.long r), none, some (.int (nI i)), none, none] [] kS M = am_e X 32 44 [some (.ref f), some (.long a), none, some (.long b), none, some (.long c'), none, some (.long r'), none, some (.int i'), none, none] [] kS M := by
    intro k
    induction k with
    | zero =>
      intro i c r hi
      obtain rfl : i = 100 := by omega
      have c1 : (nI 100 < 100) = False := eq_false (by decide)
      refine ⟨c, r, nI 100, ?_⟩
      rw [e32_9]
      simp only [e32_0, e32_1, e32_3, e32_4, e32_6, e32_7, e32_11, e32_13, e32_16, e32_18, e32_19, e32_20, e32_23, e32_25, e32_27, e32_28, e32_30, e32_32, e32_34, e32_36, e32_38, e32_41, e32_45, e32_47, e32_48, e32_49, e32_52, e32_53, e32_55, e32_56, e32_59, e32_60, e32_63, e32_64, e32_66, e32_67, e32_68, e32_71, e32_72, e32_74, e32_75, e32_78, e32_79, e32_82, c1, am_bv_s, am_bw_s, eq_self, true_or, or_true, am_b0, am_b1, am_em, if_true, if_false, true_and, and_true, false_and, and_false, not_true_eq_false, not_false_eq_true, false_or, or_false, Bool.false_eq_true]
    | succ k ih =>
      intro i c r hi
      have c1 : (nI i < 100) = True := eq_true (nI_lt (b := 100) (by omega) (by decide))
      by_cases h : r = 0
      · refine ⟨c, r, nI i, ?_⟩
        rw [e32_9]
        simp only [e32_0, e32_1, e32_3, e32_4, e32_6, e32_7, e32_11, e32_13, e32_16, e32_18, e32_19, e32_20, e32_23, e32_25, e32_27, e32_28, e32_30, e32_32, e32_34, e32_36, e32_38, e32_41, e32_45, e32_47, e32_48, e32_49, e32_52, e32_53, e32_55, e32_56, e32_59, e32_60, e32_63, e32_64, e32_66, e32_67, e32_68, e32_71, e32_72, e32_74, e32_75, e32_78, e32_79, e32_82, c1, lc_eq, h, am_bv_s, am_bw_s, eq_self, true_or, or_true, am_b0, am_b1, am_em, if_true, if_false, true_and, and_true, false_and, and_false, not_true_eq_false, not_false_eq_true, false_or, or_false, Bool.false_eq_true]
      · obtain ⟨c', r', i', e⟩ := ih (i + 1) r (c - c / r * r) (by omega)
        refine ⟨c', r', i', ?_⟩
        rw [← e, e32_9]
        simp only [e32_0, e32_1, e32_3, e32_4, e32_6, e32_7, e32_11, e32_13, e32_16, e32_18, e32_19, e32_20, e32_23, e32_25, e32_27, e32_28, e32_30, e32_32, e32_34, e32_36, e32_38, e32_41, e32_45, e32_47, e32_48, e32_49, e32_52, e32_53, e32_55, e32_56, e32_59, e32_60, e32_63, e32_64, e32_66, e32_67, e32_68, e32_71, e32_72, e32_74, e32_75, e32_78, e32_79, e32_82, c1, lc_eq, h, nI_1, am_bv_s, am_bw_s, eq_self, true_or, or_true, am_b0, am_b1, am_em, if_true, if_false, true_and, and_true, false_and, and_false, not_true_eq_false, not_false_eq_true, false_or, or_false, Bool.false_eq_true]
  obtain ⟨c, r, i, e⟩ := lp 100 0 a b (by omega)
  rw [nI_0] at e
  by_cases h : 0 < c
  · have c2 : (c = 0) = False := eq_false (fun q => by subst q; exact absurd h (Int64.lt_irrefl))
    refine ⟨am_setL (am_setL M f 0 (a / c)) f 1 (b / c), ?_, am_of.f2⟩
    simp only [e32_0, e32_1, e32_3, e32_4, e32_6, e32_7, e32_11, e32_13, e32_16, e32_18, e32_19, e32_20, e32_23, e32_25, e32_27, e32_28, e32_30, e32_32, e32_34, e32_36, e32_38, e32_41, e32_45, e32_47, e32_48, e32_49, e32_52, e32_53, e32_55, e32_56, e32_59, e32_60, e32_63, e32_64, e32_66, e32_67, e32_68, e32_71, e32_72, e32_74, e32_75, e32_78, e32_79, e32_82, e, am_bv_s, am_bw_s, eq_self, true_or, or_true, am_b0, am_b1, am_em, if_true, if_false, true_and, and_true, false_and, and_false, not_true_eq_false, not_false_eq_true, false_or, or_false, Bool.false_eq_true]
    rw [e32_44]
    simp only [e32_0, e32_1, e32_3, e32_4, e32_6, e32_7, e32_11, e32_13, e32_16, e32_18, e32_19, e32_20, e32_23, e32_25, e32_27, e32_28, e32_30, e32_32, e32_34, e32_36, e32_38, e32_41, e32_45, e32_47, e32_48, e32_49, e32_52, e32_53, e32_55, e32_56, e32_59, e32_60, e32_63, e32_64, e32_66, e32_67, e32_68, e32_71, e32_72, e32_74, e32_75, e32_78, e32_79, e32_82, lc_gt, h, c2, h0, h1, h2, am_bv_s, am_bw_s, eq_self, true_or, or_true, am_b0, am_b1, am_em, if_true, if_false, true_and, and_true, false_and, and_false, not_true_eq_false, not_false_eq_true, false_or, or_false, Bool.false_eq_true]
  · refine ⟨am_setL (am_setL M f 0 0) f 1 1, ?_, am_of.f2⟩
    simp only [e32_0, e32_1, e32_3, e32_4, e32_6, e32_7, e32_11, e32_13, e32_16, e32_18, e32_19, e32_20, e32_23, e32_25, e32_27, e32_28, e32_30, e32_32, e32_34, e32_36, e32_38, e32_41, e32_45, e32_47, e32_48, e32_49, e32_52, e32_53, e32_55, e32_56, e32_59, e32_60, e32_63, e32_64, e32_66, e32_67, e32_68, e32_71, e32_72, e32_74, e32_75, e32_78, e32_79, e32_82, e, am_bv_s, am_bw_s, eq_self, true_or, or_true, am_b0, am_b1, am_em, if_true, if_false, true_and, and_true, false_and, and_false, not_true_eq_false, not_false_eq_true, false_or, or_false, Bool.false_eq_true]
    rw [e32_44]
    simp only [e32_0, e32_1, e32_3, e32_4, e32_6, e32_7, e32_11, e32_13, e32_16, e32_18, e32_19, e32_20, e32_23, e32_25, e32_27, e32_28, e32_30, e32_32, e32_34, e32_36, e32_38, e32_41, e32_45, e32_47, e32_48, e32_49, e32_52, e32_53, e32_55, e32_56, e32_59, e32_60, e32_63, e32_64, e32_66, e32_67, e32_68, e32_71, e32_72, e32_74, e32_75, e32_78, e32_79, e32_82, lc_gt, h, h0, h1, h2, am_bv_s, am_bw_s, eq_self, true_or, or_true, am_b0, am_b1, am_em, if_true, if_false, true_and, and_true, false_and, and_false, not_true_eq_false, not_false_eq_true, false_or, or_false, Bool.false_eq_true]
theorem x_put00 {f : Nat} (hf : isF f) : ∃ M', am_e X 32 0 [some (.ref f), some (.long (lI 0)), none, some (.long (lI 0)), none, none, none, none, none, none, none, none] [] kS M = some (none, kS, M') ∧ hF f (0, 1) M' ∧ am_of (fun a _ => a = f) M M' := by
  obtain ⟨h0, h1, h2⟩ := hf
  refine ⟨_, ?_, hF.mk, hF.fm⟩
  have c1 : ((0 : Int32) < 100) = True := eq_true (by decide)
  have c2 : (lI 0 = 0) = True := eq_true rfl
  have c3 : ((0 : Int64) < lI 0) = False := eq_false (by decide)
  simp only [e32_0, e32_1, e32_3, e32_4, e32_6, e32_7, e32_9, e32_11, e32_13, e32_16, e32_18, e32_19, e32_20, e32_23, e32_25, e32_27, e32_28, e32_30, e32_32, e32_34, e32_36, e32_38, e32_41, e32_44, e32_45, e32_47, e32_48, e32_49, e32_52, e32_53, e32_55, e32_56, e32_59, e32_60, e32_63, e32_64, e32_66, e32_67, e32_68, e32_71, e32_72, e32_74, e32_75, e32_78, e32_79, e32_82, lc_eq, lc_gt, c1, c2, c3, h0, h1, h2, am_bv_s, am_bw_s, eq_self, true_or, or_true, am_b0, am_b1, am_em, if_true, if_false, true_and, and_true, false_and, and_false, not_true_eq_false, not_false_eq_true, false_or, or_false, Bool.false_eq_true]
  rfl
theorem x_addTimes {f g t : Nat} {p q : Nat × Nat} (hf : isF f) (hg : isF g) (hp : hF f p M) (hq : hF g q M) (h1 : p.1 * q.2 + q.1 * t * p.2 < 2 ^ 63) (h2 : p.2 * q.2 < 2 ^ 48) (h3 : 0 < p.2 * q.2) : ∃ M', am_e X 34 0 [some (.ref f), some (.ref g), some (.long (lI t)), none] [] kS M = some (none, kS, M') ∧ hF f (fr (p.1 * q.2 + q.1 * t * p.2) (p.2 * q.2)) M' ∧ am_of (fun a _ => a = f) M M' := by
  obtain ⟨M', r1, r2, r3⟩ := x_put (X := X) (M := M) hf h1 h2 h3
  refine ⟨M', ?_, r2, r3⟩
  obtain ⟨a1, a2, a3⟩ := hf
  obtain ⟨b1, b2, b3⟩ := hg
  simp only [e34_0, e34_1, e34_2, e34_5, e34_6, e34_9, e34_10, e34_11, e34_14, e34_15, e34_16, e34_17, e34_20, e34_21, e34_22, e34_23, e34_26, e34_27, e34_30, e34_31, e34_34, a1, a2, a3, b1, b2, b3, hp.1, hp.2, hq.1, hq.2, lI_mul, lI_add, r1, am_bv_s, am_bw_s, eq_self, true_or, or_true, am_b0, am_b1, am_em, if_true, if_false, true_and, and_true, false_and, and_false, not_true_eq_false, not_false_eq_true, false_or, or_false, Bool.false_eq_true]
theorem x_addTimesT {f g : Nat} {t : Int64} (hf : isF f) (hg : isF g) : ∃ M', am_e X 34 0 [some (.ref f), some (.ref g), some (.long t), none] [] kS M = some (none, kS, M') ∧ am_of (fun a _ => a = f) M M' := by
  obtain ⟨M', r1, r3⟩ := x_putT (X := X) (M := M) (a := M.2 f 0 * M.2 g 1 + M.2 g 0 * t * M.2 f 1) (b := M.2 f 1 * M.2 g 1) hf
  refine ⟨M', ?_, r3⟩
  obtain ⟨a1, a2, a3⟩ := hf
  obtain ⟨b1, b2, b3⟩ := hg
  simp only [e34_0, e34_1, e34_2, e34_5, e34_6, e34_9, e34_10, e34_11, e34_14, e34_15, e34_16, e34_17, e34_20, e34_21, e34_22, e34_23, e34_26, e34_27, e34_30, e34_31, e34_34, a1, a2, a3, b1, b2, b3, r1, am_bv_s, am_bw_s, eq_self, true_or, or_true, am_b0, am_b1, am_em, if_true, if_false, true_and, and_true, false_and, and_false, not_true_eq_false, not_false_eq_true, false_or, or_false, Bool.false_eq_true]
theorem x_divideBy {f n : Nat} {p : Nat × Nat} (hf : isF f) (hp : hF f p M) (h1 : p.1 < 2 ^ 63) (h2 : p.2 * n < 2 ^ 48) (h3 : 0 < p.2 * n) : ∃ M', am_e X 35 0 [some (.ref f), some (.long (lI n)), none] [] kS M = some (none, kS, M') ∧ hF f (fr p.1 (p.2 * n)) M' ∧ am_of (fun a _ => a = f) M M' := by
  obtain ⟨M', r1, r2, r3⟩ := x_put (X := X) (M := M) hf h1 h2 h3
  refine ⟨M', ?_, r2, r3⟩
  obtain ⟨a1, a2, a3⟩ := hf
  simp only [e35_0, e35_1, e35_2, e35_5, e35_6, e35_9, e35_10, e35_11, e35_14, a1, a2, a3, hp.1, hp.2, lI_mul, r1, am_bv_s, am_bw_s, eq_self, true_or, or_true, am_b0, am_b1, am_em, if_true, if_false, true_and, and_true, false_and, and_false, not_true_eq_false, not_false_eq_true, false_or, or_false, Bool.false_eq_true]
/-- one part of a fraction, as it is asked -/
def fp (p : Nat × Nat) (w : Int32) : Int64 := if w = 0 then lI p.1 else lI p.2
theorem q_part {f : Nat} {p : Nat × Nat} {w : Int32} (hf : isF f) (hp : hF f p M) : am_e X 36 0 [some (.ref f), some (.int w)] [] kS M = some (some (.long (fp p w)), kS, M) := by
  obtain ⟨a1, a2, a3⟩ := hf
  unfold fp
  by_cases h : w = 0
  · rw [if_pos h]
    simp only [e36_0, e36_1, e36_4, e36_5, e36_8, e36_11, e36_12, e36_15, a1, a2, a3, hp.1, h, am_bv_s, am_bw_s, eq_self, true_or, or_true, am_b0, am_b1, am_em, if_true, if_false, true_and, and_true, false_and, and_false, not_true_eq_false, not_false_eq_true, false_or, or_false, Bool.false_eq_true]
  · rw [if_neg h]
    simp only [e36_0, e36_1, e36_4, e36_5, e36_8, e36_11, e36_12, e36_15, a1, a2, a3, hp.2, h, am_bv_s, am_bw_s, eq_self, true_or, or_true, am_b0, am_b1, am_em, if_true, if_false, true_and, and_true, false_and, and_false, not_true_eq_false, not_false_eq_true, false_or, or_false, Bool.false_eq_true]
theorem q_max1 {b : Nat} (hb : b < 2 ^ 31) : am_e X 216 0 [some (.int 1), some (.int (nI b))] [] S M = some (some (.int (nI (max 1 b))), S, M) := by
  have c1 : ((1 : Int32) < nI b) = (1 < b) := propext (nI_ltI (a := 1) (by decide) hb)
  by_cases h : 1 < b
  · rw [Nat.max_eq_right (by omega)]
    simp only [e216_0, e216_1, e216_2, e216_5, e216_6, e216_9, e216_10, c1, h, am_bv_s, am_bw_s, eq_self, true_or, or_true, am_b0, am_b1, am_em, if_true, if_false, true_and, and_true, false_and, and_false, not_true_eq_false, not_false_eq_true, false_or, or_false, Bool.false_eq_true]
  · rw [Nat.max_eq_left (by omega)]
    simp only [e216_0, e216_1, e216_2, e216_5, e216_6, e216_9, e216_10, c1, h, am_bv_s, am_bw_s, eq_self, true_or, or_true, am_b0, am_b1, am_em, if_true, if_false, true_and, and_true, false_and, and_false, not_true_eq_false, not_false_eq_true, false_or, or_false, Bool.false_eq_true]
    rfl
theorem q_max0 {a b : Nat} (ha : a < 2 ^ 62) (hb : b < 2 ^ 62) : am_e X 217 0 [some (.long 0), none, some (.long (lI a - lI b)), none] [] S M = some (some (.long (lI (a - b))), S, M) := by
  have t1 : (lI a - lI b).toInt = (a : Int) - b := by
    rw [Jvm.Kit.i64_sub (by rw [lI_toInt (by omega), lI_toInt (by omega)]; omega) (by rw [lI_toInt (by omega), lI_toInt (by omega)]; omega), lI_toInt (by omega), lI_toInt (by omega)]
  have c1 : ((0 : Int64) < lI a - lI b) = (b < a) := propext (by
    rw [Int64.lt_iff_toInt_lt, t1, show (0 : Int64).toInt = 0 from rfl]
    omega)
  by_cases h : b < a
  · rw [← lI_sub (by omega)]
    simp only [e217_0, e217_1, e217_2, e217_3, e217_6, e217_7, e217_10, e217_11, lc_lt, c1, h, am_bv_s, am_bw_s, eq_self, true_or, or_true, am_b0, am_b1, am_em, if_true, if_false, true_and, and_true, false_and, and_false, not_true_eq_false, not_false_eq_true, false_or, or_false, Bool.false_eq_true]
  · rw [show a - b = 0 by omega]
    simp only [e217_0, e217_1, e217_2, e217_3, e217_6, e217_7, e217_10, e217_11, lc_lt, c1, h, am_bv_s, am_bw_s, eq_self, true_or, or_true, am_b0, am_b1, am_em, if_true, if_false, true_and, and_true, false_and, and_false, not_true_eq_false, not_false_eq_true, false_or, or_false, Bool.false_eq_true]
    rfl
end
