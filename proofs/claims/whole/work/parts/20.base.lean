/-! plain facts for the runs -/
def am_b (p : Prop) [Decidable p] : Int32 := if p then 1 else 0
theorem am_b0 {p : Prop} [Decidable p] : (am_b p = 0) = ¬ p := by
  unfold am_b
  by_cases h : p <;> simp [h]
theorem am_b1 {p : Prop} [Decidable p] : (am_b p = 1) = p := by
  unfold am_b
  by_cases h : p <;> simp [h]
theorem am_em {p : Prop} : (¬ p ∨ p) = True := by
  by_cases h : p <;> simp [h]
theorem am_b01 {p : Prop} [Decidable p] : (am_b p = 0 ∨ am_b p = 1) = True := by
  unfold am_b
  by_cases h : p <;> simp [h]
theorem am_bt {p : Prop} [Decidable p] (h : p) : am_b p = 1 := if_pos h
theorem am_bf {p : Prop} [Decidable p] (h : ¬ p) : am_b p = 0 := if_neg h
theorem am_bc {p q : Prop} [Decidable p] [Decidable q] (h : p ↔ q) : am_b p = am_b q := by
  unfold am_b
  by_cases hp : p
  · rw [if_pos hp, if_pos (h.mp hp)]
  · rw [if_neg hp, if_neg (fun hq => hp (h.mpr hq))]
theorem am_z01 : ((0 : Int32) = 0 ∨ (0 : Int32) = 1) = True := by simp
theorem am_o01 : ((1 : Int32) = 0 ∨ (1 : Int32) = 1) = True := by simp
section
variable {X : am_X} {S : am_Sh} {M : am_Me}
theorem q_isIn (v lo hi : Int32) : am_e X 123 0 [some (.int v), some (.int lo), some (.int hi)] [] S M = some (some (.int (am_b (lo ≤ v ∧ v ≤ hi))), S, M) := by
  simp only [e123_0, e123_1, e123_2, e123_5, e123_6, e123_7, e123_10, e123_11, e123_14, e123_15, am_bv_s, am_bw_s, eq_self, true_or, or_true, am_b0, am_b1, am_em, if_true, if_false, true_and, and_true, false_and, and_false, not_true_eq_false, not_false_eq_true, false_or, or_false]
  by_cases h1 : v < lo
  · simp only [h1, am_bv_s, am_bw_s, eq_self, true_or, or_true, am_b0, am_b1, am_em, if_true, if_false, true_and, and_true, false_and, and_false, not_true_eq_false, not_false_eq_true, false_or, or_false]
    rw [am_bf (fun q => Int32.not_lt.mpr q.1 h1)]
  · by_cases h2 : hi < v
    · simp only [h1, h2, am_bv_s, am_bw_s, eq_self, true_or, or_true, am_b0, am_b1, am_em, if_true, if_false, true_and, and_true, false_and, and_false, not_true_eq_false, not_false_eq_true, false_or, or_false]
      rw [am_bf (fun q => Int32.not_lt.mpr q.2 h2)]
    · simp only [h1, h2, am_bv_s, am_bw_s, eq_self, true_or, or_true, am_b0, am_b1, am_em, if_true, if_false, true_and, and_true, false_and, and_false, not_true_eq_false, not_false_eq_true, false_or, or_false]
      rw [am_bt ⟨Int32.not_lt.mp h1, Int32.not_lt.mp h2⟩]
theorem q_isTaker (v : Int32) : am_e X 124 0 [some (.int v)] [] S M = some (some (.int (am_b (0 ≤ v ∧ v ≤ 3))), S, M) := by
  simp only [e124_0, e124_1, e124_2, e124_3, e124_6, q_isIn, am_bv_s, am_bw_s, eq_self, true_or, or_true, am_b0, am_b1, am_em, if_true, if_false, true_and, and_true, false_and, and_false, not_true_eq_false, not_false_eq_true, false_or, or_false]
theorem q_isTime (v : Int32) : am_e X 126 0 [some (.int v)] [] S M = some (some (.int (am_b (0 ≤ v ∧ v ≤ 999))), S, M) := by
  simp only [e126_0, e126_1, e126_2, e126_5, e126_8, q_isIn, am_bv_s, am_bw_s, eq_self, true_or, or_true, am_b0, am_b1, am_em, if_true, if_false, true_and, and_true, false_and, and_false, not_true_eq_false, not_false_eq_true, false_or, or_false]
theorem q_maySay (v : Int32) : am_e X 127 0 [some (.int v)] [] S M = some (some (.int (am_b (-1 ≤ v ∧ v ≤ 1))), S, M) := by
  simp only [e127_0, e127_1, e127_2, e127_3, e127_6, q_isIn, am_bv_s, am_bw_s, eq_self, true_or, or_true, am_b0, am_b1, am_em, if_true, if_false, true_and, and_true, false_and, and_false, not_true_eq_false, not_false_eq_true, false_or, or_false]
theorem q_isSheet (v : Int32) : am_e X 128 0 [some (.int v)] [] S M = some (some (.int (am_b (0 ≤ v ∧ v ≤ 3))), S, M) := by
  simp only [e128_0, e128_1, e128_2, e128_3, e128_6, q_isIn, am_bv_s, am_bw_s, eq_self, true_or, or_true, am_b0, am_b1, am_em, if_true, if_false, true_and, and_true, false_and, and_false, not_true_eq_false, not_false_eq_true, false_or, or_false]
theorem q_isForm (v : Int32) : am_e X 129 0 [some (.int v)] [] S M = some (some (.int (am_b (0 ≤ v ∧ v ≤ 2))), S, M) := by
  simp only [e129_0, e129_1, e129_2, e129_3, e129_6, q_isIn, am_bv_s, am_bw_s, eq_self, true_or, or_true, am_b0, am_b1, am_em, if_true, if_false, true_and, and_true, false_and, and_false, not_true_eq_false, not_false_eq_true, false_or, or_false]
theorem q_areTwo (a c : Int32) : am_e X 125 0 [some (.int a), some (.int c)] [] S M = some (some (.int (am_b ((0 ≤ a ∧ a ≤ 3) ∧ (0 ≤ c ∧ c ≤ 3) ∧ a ≠ c))), S, M) := by
  simp only [e125_0, e125_1, e125_4, e125_7, e125_8, e125_11, e125_14, e125_15, e125_16, e125_19, e125_20, e125_23, e125_24, q_isTaker, am_bv_s, am_bw_s, eq_self, true_or, or_true, am_b0, am_b1, am_em, if_true, if_false, true_and, and_true, false_and, and_false, not_true_eq_false, not_false_eq_true, false_or, or_false]
  by_cases h1 : 0 ≤ a ∧ a ≤ 3 <;> by_cases h2 : 0 ≤ c ∧ c ≤ 3 <;> by_cases h3 : a = c <;> simp [h1, h2, h3, am_b]
theorem q_refusal (v : Int32) : am_e X 133 0 [some (.int v)] [] S M = some (some (.long (-9223372036854775808 - v.toInt64)), S, M) := by
  simp only [e133_0, e133_3, e133_4, e133_5, e133_6]
theorem q_bands : am_e X 22 0 [some (.ref (1 : Nat))] [] kS M = some (some (.int (M.1 1 4)), kS, M) := by
  simp only [e22_0, e22_1, e22_4, s1, s1_0, s1_1, s1_2, s1_3, s1_4, r1_0, r1_1, r1_2, r1_3, s2, s3, s4, s5, am_bv_s, am_bw_s, eq_self, true_or, or_true, am_b0, am_b1, am_em, if_true, if_false, true_and, and_true, false_and, and_false, not_true_eq_false, not_false_eq_true, false_or, or_false]
theorem q_isBand (v : Int32) : am_e X 130 0 [some (.ref (0 : Nat)), some (.int v)] [] kS M = some (some (.int (am_b (0 ≤ v ∧ v ≤ M.1 1 4 - 1))), kS, M) := by
  simp only [e130_0, e130_1, e130_2, e130_3, e130_6, e130_9, e130_10, e130_11, e130_14, s0, s0_0, s0_1, s0_2, s0_3, s0_4, s0_5, s0_6, s0_7, r0_0, r0_1, r0_2, r0_3, r0_4, r0_5, r0_6, r0_7, s1, s1_0, s1_1, s1_2, s1_3, s1_4, r1_0, r1_1, r1_2, r1_3, s2, s3, s4, s5, q_bands, q_isIn, am_bv_s, am_bw_s, eq_self, true_or, or_true, am_b0, am_b1, am_em, if_true, if_false, true_and, and_true, false_and, and_false, not_true_eq_false, not_false_eq_true, false_or, or_false]
end
theorem nI_n1 {k : Nat} (h : k < 2 ^ 31) : (nI k = -1) = False := eq_false (fun e => by
  have h1 := nI_toInt h
  rw [e] at h1
  have h2 : (-1 : Int32).toInt = -1 := by decide
  omega)
theorem nI_0e {k : Nat} (h : k < 2 ^ 31) : (nI k = 0) = (k = 0) := propext (by rw [← nI_0]; exact nI_eq h (by decide))
theorem wd_le (x y : Int32) : (x.toInt64 ≤ y.toInt64) = (x ≤ y) := propext (by rw [Int64.le_iff_toInt_le, Int32.le_iff_toInt_le, Int32.toInt_toInt64, Int32.toInt_toInt64])
theorem wd_lt (x y : Int32) : (x.toInt64 < y.toInt64) = (x < y) := propext (by rw [Int64.lt_iff_toInt_lt, Int32.lt_iff_toInt_lt, Int32.toInt_toInt64, Int32.toInt_toInt64])
theorem lc_lt (x y : Int64) : (lg_cmp x y < 0) = (x < y) := propext (by
  unfold lg_cmp
  by_cases h1 : x > y
  · rw [if_pos h1]
    exact ⟨fun h => absurd h (by decide), fun h => absurd h1 (Int64.not_lt.mpr (Int64.le_of_lt h))⟩
  · rw [if_neg h1]
    by_cases h2 : x = y
    · rw [if_pos h2, h2]
      exact ⟨fun h => absurd h (by decide), fun h => absurd h (Int64.lt_irrefl)⟩
    · rw [if_neg h2]
      exact ⟨fun _ => Int64.lt_of_le_of_ne (Int64.not_lt.mp h1) h2, fun _ => by decide⟩)
theorem lc_gt (x y : Int64) : (0 < lg_cmp x y) = (y < x) := propext (by
  unfold lg_cmp
  by_cases h1 : x > y
  · rw [if_pos h1]
    exact ⟨fun _ => h1, fun _ => by decide⟩
  · rw [if_neg h1]
    by_cases h2 : x = y
    · rw [if_pos h2]
      exact ⟨fun h => absurd h (by decide), fun h => absurd h h1⟩
    · rw [if_neg h2]
      exact ⟨fun h => absurd h (by decide), fun h => absurd h h1⟩)
theorem lc_eq (x y : Int64) : (lg_cmp x y = 0) = (x = y) := propext (by
  unfold lg_cmp
  by_cases h1 : x > y
  · rw [if_pos h1]
    exact ⟨fun h => absurd h (by decide), fun h => absurd h1 (by rw [h]; exact Int64.lt_irrefl)⟩
  · rw [if_neg h1]
    by_cases h2 : x = y
    · rw [if_pos h2]
      exact ⟨fun _ => h2, fun _ => rfl⟩
    · rw [if_neg h2]
      exact ⟨fun h => absurd h (by decide), fun h => absurd h h2⟩)
section
variable {X : am_X} {S : am_Sh} {M : am_Me}
theorem q_in (v lo hi : Int32) {l h : Int64} (h1 : lo.toInt64 = l) (h2 : hi.toInt64 = h) : am_e X 139 0 [some (.long v.toInt64), none, some (.long l), none, some (.long h), none] [] S M = some (some (.int (am_b (lo ≤ v ∧ v ≤ hi))), S, M) := by
  subst h1 h2
  simp only [e139_0, e139_1, e139_2, e139_3, e139_6, e139_7, e139_9, e139_10, e139_13, e139_14, e139_17, e139_18, lc_lt, lc_gt, wd_lt, am_bv_s, am_bw_s, eq_self, true_or, or_true, am_b0, am_b1, am_em, if_true, if_false, true_and, and_true, false_and, and_false, not_true_eq_false, not_false_eq_true, false_or, or_false]
  by_cases h1 : v < lo
  · simp only [h1, am_bv_s, am_bw_s, eq_self, true_or, or_true, am_b0, am_b1, am_em, if_true, if_false, true_and, and_true, false_and, and_false, not_true_eq_false, not_false_eq_true, false_or, or_false]
    rw [am_bf (fun q => Int32.not_lt.mpr q.1 h1)]
  · by_cases h2 : hi < v
    · simp only [h1, h2, am_bv_s, am_bw_s, eq_self, true_or, or_true, am_b0, am_b1, am_em, if_true, if_false, true_and, and_true, false_and, and_false, not_true_eq_false, not_false_eq_true, false_or, or_false]
      rw [am_bf (fun q => Int32.not_lt.mpr q.2 h2)]
    · simp only [h1, h2, am_bv_s, am_bw_s, eq_self, true_or, or_true, am_b0, am_b1, am_em, if_true, if_false, true_and, and_true, false_and, and_false, not_true_eq_false, not_false_eq_true, false_or, or_false]
      rw [am_bt ⟨Int32.not_lt.mp h1, Int32.not_lt.mp h2⟩]
theorem m_isSheet (v : Int32) : am_e X 143 0 [some (.int v)] [] S M = some (some (.int (am_b (0 ≤ v ∧ v ≤ 3))), S, M) := by
  simp only [e143_0, e143_1, e143_2, e143_3, e143_6, e143_9, q_in v 0 3 (by decide : (0 : Int32).toInt64 = 0) (by decide : (3 : Int32).toInt64 = 3), am_bv_s, am_bw_s, eq_self, true_or, or_true, am_b0, am_b1, am_em, if_true, if_false, true_and, and_true, false_and, and_false, not_true_eq_false, not_false_eq_true, false_or, or_false]
theorem m_isTwo (v : Int32) : am_e X 141 0 [some (.int v)] [] S M = some (some (.int (am_b (0 ≤ v ∧ v ≤ 1))), S, M) := by
  simp only [e141_0, e141_1, e141_2, e141_3, e141_4, e141_7, q_in v 0 1 (by decide : (0 : Int32).toInt64 = 0) (by decide : (1 : Int32).toInt64 = 1), am_bv_s, am_bw_s, eq_self, true_or, or_true, am_b0, am_b1, am_em, if_true, if_false, true_and, and_true, false_and, and_false, not_true_eq_false, not_false_eq_true, false_or, or_false]
theorem m_isTaker (v : Int32) : am_e X 157 0 [some (.int v)] [] S M = some (some (.int (am_b (0 ≤ v ∧ v ≤ 3))), S, M) := by
  simp only [e157_0, e157_1, e157_2, e157_3, e157_6, e157_9, q_in v 0 3 (by decide : (0 : Int32).toInt64 = 0) (by decide : (3 : Int32).toInt64 = 3), am_bv_s, am_bw_s, eq_self, true_or, or_true, am_b0, am_b1, am_em, if_true, if_false, true_and, and_true, false_and, and_false, not_true_eq_false, not_false_eq_true, false_or, or_false]
theorem m_isWord (v : Int32) : am_e X 168 0 [some (.int v)] [] S M = some (some (.int (am_b (0 ≤ v ∧ v ≤ 39))), S, M) := by
  simp only [e168_0, e168_1, e168_2, e168_3, e168_6, e168_9, q_in v 0 39 (by decide : (0 : Int32).toInt64 = 0) (by decide : (39 : Int32).toInt64 = 39), am_bv_s, am_bw_s, eq_self, true_or, or_true, am_b0, am_b1, am_em, if_true, if_false, true_and, and_true, false_and, and_false, not_true_eq_false, not_false_eq_true, false_or, or_false]
theorem m_isTime (v : Int32) : am_e X 170 0 [some (.int v)] [] S M = some (some (.int (am_b (0 ≤ v ∧ v ≤ 999))), S, M) := by
  simp only [e170_0, e170_1, e170_2, e170_3, e170_6, e170_9, q_in v 0 999 (by decide : (0 : Int32).toInt64 = 0) (by decide : (999 : Int32).toInt64 = 999), am_bv_s, am_bw_s, eq_self, true_or, or_true, am_b0, am_b1, am_em, if_true, if_false, true_and, and_true, false_and, and_false, not_true_eq_false, not_false_eq_true, false_or, or_false]
theorem m_areTwo (a c : Int32) : am_e X 204 0 [some (.int a), some (.int c)] [] S M = some (some (.int (am_b ((0 ≤ a ∧ a ≤ 3) ∧ (0 ≤ c ∧ c ≤ 3) ∧ a ≠ c))), S, M) := by
  simp only [e204_0, e204_1, e204_4, e204_7, e204_8, e204_11, e204_14, e204_15, e204_16, e204_19, e204_20, e204_23, e204_24, m_isTaker, am_bv_s, am_bw_s, eq_self, true_or, or_true, am_b0, am_b1, am_em, if_true, if_false, true_and, and_true, false_and, and_false, not_true_eq_false, not_false_eq_true, false_or, or_false]
  by_cases h1 : 0 ≤ a ∧ a ≤ 3 <;> by_cases h2 : 0 ≤ c ∧ c ≤ 3 <;> by_cases h3 : a = c <;> simp [h1, h2, h3, am_b]
theorem m_no (v : Int32) : am_e X 140 0 [some (.int v)] [] S M = some (some (.long (-9223372036854775808 - v.toInt64)), S, M) := by
  simp only [e140_0, e140_3, e140_4, e140_5, e140_6]
theorem m_cut {f v : Int32} : am_e X 147 0 [some (.int f), some (.int v)] [] S M = some (some (.int (if f = 0 then v.toInt8.toInt32 else if f = 1 then v.toInt16.toInt32 else v)), S, M) := by
  simp only [e147_0, e147_1, e147_4, e147_5, e147_6, e147_9, e147_10, e147_11, e147_14, e147_15, e147_16, e147_19, e147_20, am_bv_s, am_bw_s, eq_self, true_or, or_true, am_b0, am_b1, am_em, if_true, if_false, true_and, and_true, false_and, and_false, not_true_eq_false, not_false_eq_true, false_or, or_false]
  by_cases h1 : f = 0
  · rw [if_pos h1, if_pos h1]
  · rw [if_neg h1, if_neg h1]
    by_cases h2 : f = 1
    · rw [if_pos h2, if_pos h2]
    · rw [if_neg h2, if_neg h2]
theorem m_met {f : Int32} : am_e X 142 0 [some (.ref (59 : Nat)), some (.int f)] [] kS M = some (some (.int (-10 - f)), kS, am_setI M 59 4 f) := by
  simp only [e142_0, e142_1, e142_2, e142_5, e142_7, e142_8, e142_9, s59, s59_0, s59_1, s59_2, s59_3, s59_4, s59_5, s59_6, s59_7, s59_8, s59_9, s59_10, s59_11, s59_12, s59_13, s59_14, s59_15, s59_16, s59_17, s59_18, s59_19, s59_20, s59_21, s59_22, s59_23, s59_24, s59_25, s59_26, s59_27, s59_28, s59_29, s59_30, s59_31, r59_0, r59_1, r59_2, r59_3, r59_6, r59_8, r59_9, r59_13, r59_15, r59_16, r59_17, r59_19, r59_22, r59_23, r59_26, r59_30, r59_31, s60, s61, s62, s63, s64, s65, s66, s67, s68, s69, s70, s71, s72, s73, s74, s75, s76, am_bv_s, am_bw_s, eq_self, true_or, or_true, am_b0, am_b1, am_em, if_true, if_false, true_and, and_true, false_and, and_false, not_true_eq_false, not_false_eq_true, false_or, or_false]
end
