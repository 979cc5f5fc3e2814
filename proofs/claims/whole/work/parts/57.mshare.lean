/-! the reference: share -/
section
variable {X : am_X} {S : am_Sh} {M M' : am_Me} {P : Nat → Nat → Prop} {s : sgm}
theorem pmT_M {a k : Nat} (h : pmT a k) : pM a k := by unfold pmT pmS pmW at h; unfold pM; omega
theorem m_no2 (v : Int32) : am_e X 140 0 [some (.int v)] [] S M = some (some (.long (nol v)), S, M) := m_no v
theorem m_shareOf {t b : Nat} (hx : JM s M) (ho : okm s) (ht : t < 4) (hb : b < s.2.1.1) (w v : Int32) (hw : w = 0 ∨ w = 1) : ∃ M', am_e X 180 0 [some (.ref (59 : Nat)), some (.int (nI t)), some (.int (nI b)), some (.int w), some (.int v), none, none] [] kS M = some (some (.long (if sAs s.2.1.1 s.2.2.2.1 s.2.2.2.2 t b = 0 then nol (-3) else if w = 0 then fp (fr (sYe s.2.1.1 s.2.2.2.1 s.2.2.2.2 t b) (tH s.2.1.1 s.2.2.2.1 s.2.2.2.2 t b)) v else if gD s.2.1.1 s.2.2.2.1 s.2.2.2.2 t = 0 then nol (-3) else fp (fr (tC s.2.1.1 s.2.2.2.1 s.2.2.2.2 t b) (tH s.2.1.1 s.2.2.2.1 s.2.2.2.2 t b * gD s.2.1.1 s.2.2.2.1 s.2.2.2.2 t)) v)), kS, M') ∧ JM s M' ∧ am_of pmT M M' := by
  have d6 := ho.2.1.1
  obtain ⟨M', r1, j1, mt, mf, of1⟩ := m_findTrue (X := X) hx ho ht
  refine ⟨M', ?_, j1.1, of1⟩
  have b7 : b < 7 := by omega
  have qa := j1.as (X := X) ho ht b7
  have qy := j1.ye (X := X) ho ht b7
  have h40 := fun k => sAs_le d6 (l := s.2.2.2.1) (A := s.2.2.2.2) (t := t) (k := k)
  have hy := fun k => sYe_le (nb := s.2.1.1) (l := s.2.2.2.1) (A := s.2.2.2.2) (t := t) (k := k)
  have c0 : (nI (sAs s.2.1.1 s.2.2.2.1 s.2.2.2.2 t b) = 0) = (sAs s.2.1.1 s.2.2.2.1 s.2.2.2.2 t b = 0) := nI_0e (by have := h40 b; omega)
  have cb : (nI b).toNatClampNeg = b := nI_clamp (by omega)
  by_cases h0 : sAs s.2.1.1 s.2.2.2.1 s.2.2.2.2 t b = 0
  · rw [if_pos h0]
    simp only [e180_0, e180_1, e180_2, e180_5, e180_7, e180_8, e180_9, e180_10, e180_11, e180_14, e180_16, e180_18, e180_21, e180_22, e180_23, e180_26, e180_28, e180_31, e180_33, e180_36, e180_37, e180_38, e180_41, e180_42, e180_43, e180_44, e180_45, e180_48, e180_49, e180_51, e180_52, e180_54, e180_57, e180_60, e180_61, e180_64, e180_65, e180_66, e180_67, e180_70, e180_71, e180_72, e180_74, e180_77, s59, s59_0, s59_1, s59_2, s59_3, s59_4, s59_5, s59_6, s59_7, s59_8, s59_9, s59_10, s59_11, s59_12, s59_13, s59_14, s59_15, s59_16, s59_17, s59_18, s59_19, s59_20, s59_21, s59_22, s59_23, s59_24, s59_25, s59_26, s59_27, s59_28, s59_29, s59_30, s59_31, r59_0, r59_1, r59_2, r59_3, r59_6, r59_8, r59_9, r59_13, r59_15, r59_16, r59_17, r59_19, r59_22, r59_23, r59_26, r59_30, r59_31, s60, s61, s62, s63, s64, s65, s66, s67, s68, s69, s70, s71, s72, s73, s74, s75, s76, r1, qa, h0, (eq_true rfl : (nI 0 = 0) = True), m_no2, am_bv_s, am_bw_s, eq_self, true_or, or_true, am_b0, am_b1, am_em, if_true, if_false, true_and, and_true, false_and, and_false, not_true_eq_false, not_false_eq_true, false_or, or_false, Bool.false_eq_true]
  · rw [if_neg h0]
    have e3 : tH s.2.1.1 s.2.2.2.1 s.2.2.2.2 t b = sAs s.2.1.1 s.2.2.2.1 s.2.2.2.2 t b := Nat.max_eq_right (by omega)
    rw [e3]
    have d40 : gD s.2.1.1 s.2.2.2.1 s.2.2.2.2 t ≤ 40 := by have := h40 6; unfold gD gG; omega
    have q1 : sAs s.2.1.1 s.2.2.2.1 s.2.2.2.2 t b * gD s.2.1.1 s.2.2.2.1 s.2.2.2.2 t ≤ 40 * 40 := Nat.mul_le_mul (h40 b) d40
    have tc := tC_le (nb := s.2.1.1) (l := s.2.2.2.1) (A := s.2.2.2.2) (t := t) (b := b)
    rw [e3] at tc
    rcases hw with rfl | rfl
    · have l1 := lI_w (n := sAs s.2.1.1 s.2.2.2.1 s.2.2.2.2 t b) (by have := h40 b; omega)
      have l2 := lI_w (n := sYe s.2.1.1 s.2.2.2.1 s.2.2.2.2 t b) (by have := hy b; have := h40 b; omega)
      have p := m_part2 (X := X) (S := kS) (M := M') (a := sYe s.2.1.1 s.2.2.2.1 s.2.2.2.2 t b) (b := sAs s.2.1.1 s.2.2.2.1 s.2.2.2.2 t b) (w := v) (by have := hy b; have := h40 b; omega) (by have := h40 b; omega) (by omega)
      simp only [e180_0, e180_1, e180_2, e180_5, e180_7, e180_8, e180_9, e180_10, e180_11, e180_14, e180_16, e180_18, e180_21, e180_22, e180_23, e180_26, e180_28, e180_31, e180_33, e180_36, e180_37, e180_38, e180_41, e180_42, e180_43, e180_44, e180_45, e180_48, e180_49, e180_51, e180_52, e180_54, e180_57, e180_60, e180_61, e180_64, e180_65, e180_66, e180_67, e180_70, e180_71, e180_72, e180_74, e180_77, s59, s59_0, s59_1, s59_2, s59_3, s59_4, s59_5, s59_6, s59_7, s59_8, s59_9, s59_10, s59_11, s59_12, s59_13, s59_14, s59_15, s59_16, s59_17, s59_18, s59_19, s59_20, s59_21, s59_22, s59_23, s59_24, s59_25, s59_26, s59_27, s59_28, s59_29, s59_30, s59_31, r59_0, r59_1, r59_2, r59_3, r59_6, r59_8, r59_9, r59_13, r59_15, r59_16, r59_17, r59_19, r59_22, r59_23, r59_26, r59_30, r59_31, s60, s61, s62, s63, s64, s65, s66, s67, s68, s69, s70, s71, s72, s73, s74, s75, s76, r1, qa, qy, c0, h0, z10, z01, z1m, zm1, z0m, zm0, l1, l2, p, am_bv_s, am_bw_s, eq_self, true_or, or_true, am_b0, am_b1, am_em, if_true, if_false, true_and, and_true, false_and, and_false, not_true_eq_false, not_false_eq_true, false_or, or_false, Bool.false_eq_true]
    · by_cases h7 : gD s.2.1.1 s.2.2.2.1 s.2.2.2.2 t = 0
      · rw [if_pos h7]
        simp only [e180_0, e180_1, e180_2, e180_5, e180_7, e180_8, e180_9, e180_10, e180_11, e180_14, e180_16, e180_18, e180_21, e180_22, e180_23, e180_26, e180_28, e180_31, e180_33, e180_36, e180_37, e180_38, e180_41, e180_42, e180_43, e180_44, e180_45, e180_48, e180_49, e180_51, e180_52, e180_54, e180_57, e180_60, e180_61, e180_64, e180_65, e180_66, e180_67, e180_70, e180_71, e180_72, e180_74, e180_77, s59, s59_0, s59_1, s59_2, s59_3, s59_4, s59_5, s59_6, s59_7, s59_8, s59_9, s59_10, s59_11, s59_12, s59_13, s59_14, s59_15, s59_16, s59_17, s59_18, s59_19, s59_20, s59_21, s59_22, s59_23, s59_24, s59_25, s59_26, s59_27, s59_28, s59_29, s59_30, s59_31, r59_0, r59_1, r59_2, r59_3, r59_6, r59_8, r59_9, r59_13, r59_15, r59_16, r59_17, r59_19, r59_22, r59_23, r59_26, r59_30, r59_31, s60, s61, s62, s63, s64, s65, s66, s67, s68, s69, s70, s71, s72, s73, s74, s75, s76, r1, qa, c0, h0, h7, z10, z01, z1m, zm1, z0m, zm0, m_no2, am_bv_s, am_bw_s, eq_self, true_or, or_true, am_b0, am_b1, am_em, if_true, if_false, true_and, and_true, false_and, and_false, not_true_eq_false, not_false_eq_true, false_or, or_false, Bool.false_eq_true]
      · rw [if_neg h7]
        obtain ⟨u1, u2⟩ := mt b (by omega)
        have p := m_part2 (X := X) (S := kS) (M := M') (a := tC s.2.1.1 s.2.2.2.1 s.2.2.2.2 t b) (b := sAs s.2.1.1 s.2.2.2.1 s.2.2.2.2 t b * gD s.2.1.1 s.2.2.2.1 s.2.2.2.2 t) (w := v) (by omega) (by omega) (Nat.mul_pos (by omega) (by omega))
        simp only [e180_0, e180_1, e180_2, e180_5, e180_7, e180_8, e180_9, e180_10, e180_11, e180_14, e180_16, e180_18, e180_21, e180_22, e180_23, e180_26, e180_28, e180_31, e180_33, e180_36, e180_37, e180_38, e180_41, e180_42, e180_43, e180_44, e180_45, e180_48, e180_49, e180_51, e180_52, e180_54, e180_57, e180_60, e180_61, e180_64, e180_65, e180_66, e180_67, e180_70, e180_71, e180_72, e180_74, e180_77, s59, s59_0, s59_1, s59_2, s59_3, s59_4, s59_5, s59_6, s59_7, s59_8, s59_9, s59_10, s59_11, s59_12, s59_13, s59_14, s59_15, s59_16, s59_17, s59_18, s59_19, s59_20, s59_21, s59_22, s59_23, s59_24, s59_25, s59_26, s59_27, s59_28, s59_29, s59_30, s59_31, r59_0, r59_1, r59_2, r59_3, r59_6, r59_8, r59_9, r59_13, r59_15, r59_16, r59_17, r59_19, r59_22, r59_23, r59_26, r59_30, r59_31, s60, s61, s62, s63, s64, s65, s66, s67, s68, s69, s70, s71, s72, s73, s74, s75, s76, r1, qa, c0, h0, h7, z10, z01, z1m, zm1, z0m, zm0, u1, u2, cb, p, a72 (show b < 6 by omega), a73 (show b < 6 by omega), am_bv_s, am_bw_s, eq_self, true_or, or_true, am_b0, am_b1, am_em, if_true, if_false, true_and, and_true, false_and, and_false, not_true_eq_false, not_false_eq_true, false_or, or_false, Bool.false_eq_true]
end
