/-! plain facts for the runs -/
def am_b (p : Prop) [Decidable p] : Int32 := if p then 1 else 0
theorem am_b0 {p : Prop} [Decidable p] : (am_b p = 0) = ¬ p := by
  unfold am_b
  by_cases h : p <;> simp [h]
theorem am_b1 {p : Prop} [Decidable p] : (am_b p = 1) = p := by
  unfold am_b
  by_cases h : p <;> simp [h]
theorem am_em {p : Prop} : (¬ p ∨ p) = True := by
  by_cases h : p <;> simp [h]
theorem am_b01 {p : Prop} [Decidable p] : (am_b p = 0 ∨ am_b p = 1) = True := by
  unfold am_b
  by_cases h : p <;> simp [h]
theorem am_bt {p : Prop} [Decidable p] (h : p) : am_b p = 1 := if_pos h
theorem am_bf {p : Prop} [Decidable p] (h : ¬ p) : am_b p = 0 := if_neg h
theorem am_bc {p q : Prop} [Decidable p] [Decidable q] (h : p ↔ q) : am_b p = am_b q := by
  unfold am_b
  by_cases hp : p
  · rw [if_pos hp, if_pos (h.mp hp)]
  · rw [if_neg hp, if_neg (fun hq => hp (h.mpr hq))]
theorem am_z01 : ((0 : Int32) = 0 ∨ (0 : Int32) = 1) = True := by simp
theorem am_o01 : ((1 : Int32) = 0 ∨ (1 : Int32) = 1) = True := by simp
section
variable {X : am_X} {S : am_Sh} {M : am_Me}
theorem q_isIn (v lo hi : Int32) : am_e X 123 0 [some (.int v), some (.int lo), some (.int hi)] [] S M = some (some (.int (am_b (lo ≤ v ∧ v ≤ hi))), S, M) := by
  simp only [e123_0, e123_1, e123_2, e123_5, e123_6, e123_7, e123_10, e123_11, e123_14, e123_15, am_bv_s, am_bw_s, eq_self, true_or, or_true, am_b0, am_b1, am_em, if_true, if_false]
  by_cases h1 : v < lo
  · simp only [h1, am_bv_s, am_bw_s, eq_self, true_or, or_true, am_b0, am_b1, am_em, if_true, if_false]
    rw [am_bf (fun q => Int32.not_lt.mpr q.1 h1)]
  · by_cases h2 : hi < v
    · simp only [h1, h2, am_bv_s, am_bw_s, eq_self, true_or, or_true, am_b0, am_b1, am_em, if_true, if_false]
      rw [am_bf (fun q => Int32.not_lt.mpr q.2 h2)]
    · simp only [h1, h2, am_bv_s, am_bw_s, eq_self, true_or, or_true, am_b0, am_b1, am_em, if_true, if_false]
      rw [am_bt ⟨Int32.not_lt.mp h1, Int32.not_lt.mp h2⟩]
theorem q_isTaker (v : Int32) : am_e X 124 0 [some (.int v)] [] S M = some (some (.int (am_b (0 ≤ v ∧ v ≤ 3))), S, M) := by
  simp only [e124_0, e124_1, e124_2, e124_3, e124_6, q_isIn, am_bv_s, am_bw_s, eq_self, true_or, or_true, am_b0, am_b1, am_em, if_true, if_false]
theorem q_isTime (v : Int32) : am_e X 126 0 [some (.int v)] [] S M = some (some (.int (am_b (0 ≤ v ∧ v ≤ 999))), S, M) := by
  simp only [e126_0, e126_1, e126_2, e126_5, e126_8, q_isIn, am_bv_s, am_bw_s, eq_self, true_or, or_true, am_b0, am_b1, am_em, if_true, if_false]
theorem q_maySay (v : Int32) : am_e X 127 0 [some (.int v)] [] S M = some (some (.int (am_b (-1 ≤ v ∧ v ≤ 1))), S, M) := by
  simp only [e127_0, e127_1, e127_2, e127_3, e127_6, q_isIn, am_bv_s, am_bw_s, eq_self, true_or, or_true, am_b0, am_b1, am_em, if_true, if_false]
theorem q_isSheet (v : Int32) : am_e X 128 0 [some (.int v)] [] S M = some (some (.int (am_b (0 ≤ v ∧ v ≤ 3))), S, M) := by
  simp only [e128_0, e128_1, e128_2, e128_3, e128_6, q_isIn, am_bv_s, am_bw_s, eq_self, true_or, or_true, am_b0, am_b1, am_em, if_true, if_false]
theorem q_isForm (v : Int32) : am_e X 129 0 [some (.int v)] [] S M = some (some (.int (am_b (0 ≤ v ∧ v ≤ 2))), S, M) := by
  simp only [e129_0, e129_1, e129_2, e129_3, e129_6, q_isIn, am_bv_s, am_bw_s, eq_self, true_or, or_true, am_b0, am_b1, am_em, if_true, if_false]
theorem q_areTwo (a c : Int32) : am_e X 125 0 [some (.int a), some (.int c)] [] S M = some (some (.int (am_b ((0 ≤ a ∧ a ≤ 3) ∧ (0 ≤ c ∧ c ≤ 3) ∧ a ≠ c))), S, M) := by
  simp only [e125_0, e125_1, e125_4, e125_7, e125_8, e125_11, e125_14, e125_15, e125_16, e125_19, e125_20, e125_23, e125_24, q_isTaker, am_bv_s, am_bw_s, eq_self, true_or, or_true, am_b0, am_b1, am_em, if_true, if_false]
  by_cases h1 : 0 ≤ a ∧ a ≤ 3 <;> by_cases h2 : 0 ≤ c ∧ c ≤ 3 <;> by_cases h3 : a = c <;> simp [h1, h2, h3, am_b]
theorem q_refusal (v : Int32) : am_e X 133 0 [some (.int v)] [] S M = some (some (.long (-9223372036854775808 - v.toInt64)), S, M) := by
  simp only [e133_0, e133_3, e133_4, e133_5, e133_6]
theorem q_bands : am_e X 22 0 [some (.ref (1 : Nat))] [] kS M = some (some (.int (M.1 1 4)), kS, M) := by
  simp only [e22_0, e22_1, e22_4, s1, s1_0, s1_1, s1_2, s1_3, s1_4, r1_0, r1_1, r1_2, r1_3, s2, s3, s4, s5, am_bv_s, am_bw_s, eq_self, true_or, or_true, am_b0, am_b1, am_em, if_true, if_false]
theorem q_isBand (v : Int32) : am_e X 130 0 [some (.ref (0 : Nat)), some (.int v)] [] kS M = some (some (.int (am_b (0 ≤ v ∧ v ≤ M.1 1 4 - 1))), kS, M) := by
  simp only [e130_0, e130_1, e130_2, e130_3, e130_6, e130_9, e130_10, e130_11, e130_14, s0, s0_0, s0_1, s0_2, s0_3, s0_4, s0_5, s0_6, s0_7, r0_0, r0_1, r0_2, r0_3, r0_4, r0_5, r0_6, r0_7, s1, s1_0, s1_1, s1_2, s1_3, s1_4, r1_0, r1_1, r1_2, r1_3, s2, s3, s4, s5, q_bands, q_isIn, am_bv_s, am_bw_s, eq_self, true_or, or_true, am_b0, am_b1, am_em, if_true, if_false]
end
