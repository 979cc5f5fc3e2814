/-! the reference: share -/
section
variable {X : am_X} {S : am_Sh} {M M' : am_Me} {P : Nat → Nat → Prop} {s : sgm}
theorem m_share (hx : JM s M) (ho : okm s) (t b w v : Int32) : ∃ M', am_e X 181 0 [some (.ref (59 : Nat)), some (.int t), some (.int b), some (.int w), some (.int v)] [] kS M = some (some (.long (sp_share s t b w v)), kS, M') ∧ JM s M' ∧ am_of pM M M' := by
  have i1 := m_isTaker (X := X) (S := kS) (M := M) t
  have i2 := m_isBand2 (X := X) (M := M) hx.2.1 b
  have i3 := m_isTwo (X := X) (S := kS) (M := M) w
  have i4 := m_isTwo (X := X) (S := kS) (M := M) v
  have d6 := ho.2.1.1
  unfold sp_share
  by_cases h1 : 0 ≤ t ∧ t ≤ 3
  · rw [am_bt h1] at i1
    by_cases h2 : 0 ≤ b ∧ b ≤ nI s.2.1.1 - 1
    · rw [am_bt h2] at i2
      by_cases h3 : 0 ≤ w ∧ w ≤ 1
      · rw [am_bt h3] at i3
        by_cases h4 : 0 ≤ v ∧ v ≤ 1
        · rw [am_bt h4] at i4
          rw [if_pos ⟨⟨h1, h2⟩, h3, h4⟩]
          obtain ⟨tn, htn, rfl⟩ := in_n (n := 3) h1 (by decide)
          obtain ⟨bn, hbn, rfl⟩ := (pred_le (by omega)).mp h2
          rw [nI_clamp (n := tn) (by omega), nI_clamp (n := bn) (by omega)]
          obtain ⟨M', r1, r2, r3⟩ := m_shareOf (X := X) hx ho (show tn < 4 by omega) hbn w v (b01 h3)
          refine ⟨M', ?_, r2, r3.mo fun a k q => pmT_M q⟩
          simp only [e181_0, e181_1, e181_4, e181_7, e181_8, e181_9, e181_12, e181_15, e181_16, e181_19, e181_22, e181_24, e181_27, e181_30, e181_31, e181_32, e181_33, e181_34, e181_36, e181_39, e181_42, e181_44, e181_47, s59, s59_0, s59_1, s59_2, s59_3, s59_4, s59_5, s59_6, s59_7, s59_8, s59_9, s59_10, s59_11, s59_12, s59_13, s59_14, s59_15, s59_16, s59_17, s59_18, s59_19, s59_20, s59_21, s59_22, s59_23, s59_24, s59_25, s59_26, s59_27, s59_28, s59_29, s59_30, s59_31, r59_0, r59_1, r59_2, r59_3, r59_6, r59_8, r59_9, r59_13, r59_15, r59_16, r59_17, r59_19, r59_22, r59_23, r59_26, r59_30, r59_31, s60, s61, s62, s63, s64, s65, s66, s67, s68, s69, s70, s71, s72, s73, s74, s75, s76, i1, i2, i3, i4, z10, z01, z1m, zm1, z0m, zm0, r1, am_bv_s, am_bw_s, eq_self, true_or, or_true, am_b0, am_b1, am_em, if_true, if_false, true_and, and_true, false_and, and_false, not_true_eq_false, not_false_eq_true, false_or, or_false, Bool.false_eq_true]
        · rw [am_bf h4] at i4
          rw [if_neg (fun q => h4 q.2.2)]
          refine ⟨M, ?_, hx, am_of.rf⟩
          simp only [e181_0, e181_1, e181_4, e181_7, e181_8, e181_9, e181_12, e181_15, e181_16, e181_19, e181_22, e181_24, e181_27, e181_30, e181_31, e181_32, e181_33, e181_34, e181_36, e181_39, e181_42, e181_44, e181_47, s59, s59_0, s59_1, s59_2, s59_3, s59_4, s59_5, s59_6, s59_7, s59_8, s59_9, s59_10, s59_11, s59_12, s59_13, s59_14, s59_15, s59_16, s59_17, s59_18, s59_19, s59_20, s59_21, s59_22, s59_23, s59_24, s59_25, s59_26, s59_27, s59_28, s59_29, s59_30, s59_31, r59_0, r59_1, r59_2, r59_3, r59_6, r59_8, r59_9, r59_13, r59_15, r59_16, r59_17, r59_19, r59_22, r59_23, r59_26, r59_30, r59_31, s60, s61, s62, s63, s64, s65, s66, s67, s68, s69, s70, s71, s72, s73, s74, s75, s76, i1, i2, i3, i4, z10, z01, z1m, zm1, z0m, zm0, m_no2, am_bv_s, am_bw_s, eq_self, true_or, or_true, am_b0, am_b1, am_em, if_true, if_false, true_and, and_true, false_and, and_false, not_true_eq_false, not_false_eq_true, false_or, or_false, Bool.false_eq_true]
      · rw [am_bf h3] at i3
        rw [if_neg (fun q => h3 q.2.1)]
        refine ⟨M, ?_, hx, am_of.rf⟩
        simp only [e181_0, e181_1, e181_4, e181_7, e181_8, e181_9, e181_12, e181_15, e181_16, e181_19, e181_22, e181_24, e181_27, e181_30, e181_31, e181_32, e181_33, e181_34, e181_36, e181_39, e181_42, e181_44, e181_47, s59, s59_0, s59_1, s59_2, s59_3, s59_4, s59_5, s59_6, s59_7, s59_8, s59_9, s59_10, s59_11, s59_12, s59_13, s59_14, s59_15, s59_16, s59_17, s59_18, s59_19, s59_20, s59_21, s59_22, s59_23, s59_24, s59_25, s59_26, s59_27, s59_28, s59_29, s59_30, s59_31, r59_0, r59_1, r59_2, r59_3, r59_6, r59_8, r59_9, r59_13, r59_15, r59_16, r59_17, r59_19, r59_22, r59_23, r59_26, r59_30, r59_31, s60, s61, s62, s63, s64, s65, s66, s67, s68, s69, s70, s71, s72, s73, s74, s75, s76, i1, i2, i3, z10, z01, z1m, zm1, z0m, zm0, m_no2, am_bv_s, am_bw_s, eq_self, true_or, or_true, am_b0, am_b1, am_em, if_true, if_false, true_and, and_true, false_and, and_false, not_true_eq_false, not_false_eq_true, false_or, or_false, Bool.false_eq_true]
    · rw [am_bf h2] at i2
      rw [if_neg (fun q => h2 q.1.2)]
      refine ⟨M, ?_, hx, am_of.rf⟩
      simp only [e181_0, e181_1, e181_4, e181_7, e181_8, e181_9, e181_12, e181_15, e181_16, e181_19, e181_22, e181_24, e181_27, e181_30, e181_31, e181_32, e181_33, e181_34, e181_36, e181_39, e181_42, e181_44, e181_47, s59, s59_0, s59_1, s59_2, s59_3, s59_4, s59_5, s59_6, s59_7, s59_8, s59_9, s59_10, s59_11, s59_12, s59_13, s59_14, s59_15, s59_16, s59_17, s59_18, s59_19, s59_20, s59_21, s59_22, s59_23, s59_24, s59_25, s59_26, s59_27, s59_28, s59_29, s59_30, s59_31, r59_0, r59_1, r59_2, r59_3, r59_6, r59_8, r59_9, r59_13, r59_15, r59_16, r59_17, r59_19, r59_22, r59_23, r59_26, r59_30, r59_31, s60, s61, s62, s63, s64, s65, s66, s67, s68, s69, s70, s71, s72, s73, s74, s75, s76, i1, i2, z10, z01, z1m, zm1, z0m, zm0, m_no2, am_bv_s, am_bw_s, eq_self, true_or, or_true, am_b0, am_b1, am_em, if_true, if_false, true_and, and_true, false_and, and_false, not_true_eq_false, not_false_eq_true, false_or, or_false, Bool.false_eq_true]
  · rw [am_bf h1] at i1
    rw [if_neg (fun q => h1 q.1.1)]
    refine ⟨M, ?_, hx, am_of.rf⟩
    simp only [e181_0, e181_1, e181_4, e181_7, e181_8, e181_9, e181_12, e181_15, e181_16, e181_19, e181_22, e181_24, e181_27, e181_30, e181_31, e181_32, e181_33, e181_34, e181_36, e181_39, e181_42, e181_44, e181_47, s59, s59_0, s59_1, s59_2, s59_3, s59_4, s59_5, s59_6, s59_7, s59_8, s59_9, s59_10, s59_11, s59_12, s59_13, s59_14, s59_15, s59_16, s59_17, s59_18, s59_19, s59_20, s59_21, s59_22, s59_23, s59_24, s59_25, s59_26, s59_27, s59_28, s59_29, s59_30, s59_31, r59_0, r59_1, r59_2, r59_3, r59_6, r59_8, r59_9, r59_13, r59_15, r59_16, r59_17, r59_19, r59_22, r59_23, r59_26, r59_30, r59_31, s60, s61, s62, s63, s64, s65, s66, s67, s68, s69, s70, s71, s72, s73, s74, s75, s76, i1, z10, z01, z1m, zm1, z0m, zm0, m_no2, am_bv_s, am_bw_s, eq_self, true_or, or_true, am_b0, am_b1, am_em, if_true, if_false, true_and, and_true, false_and, and_false, not_true_eq_false, not_false_eq_true, false_or, or_false, Bool.false_eq_true]
end
