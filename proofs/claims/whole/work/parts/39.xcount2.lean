/-! the class: count -/
section
variable {X : am_X} {S : am_Sh} {M M' : am_Me} {P : Nat → Nat → Prop} {s : sgm}
theorem sp_count_n {w : Int32} (h : w.toInt < 0 ∨ 8 < w.toInt) : sp_count s w = -2 := by
  unfold sp_count
  rw [if_neg, if_neg, if_neg, if_neg, if_neg, if_neg, if_neg, if_neg, if_neg] <;> (intro e; subst e; revert h; decide)
theorem x_count (hx : JX s M) (ho : okm s) (w : Int32) : am_e X 120 0 [some (.ref (0 : Nat)), some (.int w)] [] kS M = some (some (.int (sp_count s w)), kS, M) := by
  rw [e120_0]
  by_cases h : w.toInt < 0 ∨ 8 < w.toInt
  · rw [e120_1_d (h := h), sp_count_n h]
    simp only [e120_0, e120_52, e120_53, e120_56, e120_59, e120_60, e120_61, e120_64, e120_67, e120_68, e120_69, e120_72, e120_75, e120_76, e120_77, e120_80, e120_83, e120_84, e120_85, e120_88, e120_91, e120_92, e120_93, e120_96, e120_99, e120_100, e120_101, e120_104, e120_107, e120_108, e120_109, e120_112, e120_115, e120_116, e120_117, e120_120, e120_123, e120_124, e120_126, am_bv_s, am_bw_s, eq_self, true_or, or_true, am_b0, am_b1, am_em, if_true, if_false, true_and, and_true, false_and, and_false, not_true_eq_false, not_false_eq_true, false_or, or_false, Bool.false_eq_true]
  · have h9 : w.toInt = 0 ∨ w.toInt = 1 ∨ w.toInt = 2 ∨ w.toInt = 3 ∨ w.toInt = 4 ∨ w.toInt = 5 ∨ w.toInt = 6 ∨ w.toInt = 7 ∨ w.toInt = 8 := by omega
    obtain ⟨⟨y1, y2, y3, y4, y5, y6, y7⟩, w1, t1⟩ := hx
    rcases h9 with h | h | h | h | h | h | h | h | h
    · obtain rfl : w = 0 := Int32.toInt_inj.mp h
      rw [e120_1_0 (h := h)]
      simp only [e120_0, e120_52, e120_53, e120_56, e120_59, e120_60, e120_61, e120_64, e120_67, e120_68, e120_69, e120_72, e120_75, e120_76, e120_77, e120_80, e120_83, e120_84, e120_85, e120_88, e120_91, e120_92, e120_93, e120_96, e120_99, e120_100, e120_101, e120_104, e120_107, e120_108, e120_109, e120_112, e120_115, e120_116, e120_117, e120_120, e120_123, e120_124, e120_126, e22_0, e22_1, e22_4, s0, s0_0, s0_1, s0_2, s0_3, s0_4, s0_5, s0_6, s0_7, r0_0, r0_1, r0_2, r0_3, r0_4, r0_5, r0_6, r0_7, s1, s1_0, s1_1, s1_2, s1_3, s1_4, r1_0, r1_1, r1_2, r1_3, s2, s3, s4, s5, y2.1, am_bv_s, am_bw_s, eq_self, true_or, or_true, am_b0, am_b1, am_em, if_true, if_false, true_and, and_true, false_and, and_false, not_true_eq_false, not_false_eq_true, false_or, or_false, Bool.false_eq_true]
      rfl
    · obtain rfl : w = 1 := Int32.toInt_inj.mp h
      rw [e120_1_1 (h := h)]
      simp only [e120_0, e120_52, e120_53, e120_56, e120_59, e120_60, e120_61, e120_64, e120_67, e120_68, e120_69, e120_72, e120_75, e120_76, e120_77, e120_80, e120_83, e120_84, e120_85, e120_88, e120_91, e120_92, e120_93, e120_96, e120_99, e120_100, e120_101, e120_104, e120_107, e120_108, e120_109, e120_112, e120_115, e120_116, e120_117, e120_120, e120_123, e120_124, e120_126, e53_0, e53_1, e53_4, s0, s0_0, s0_1, s0_2, s0_3, s0_4, s0_5, s0_6, s0_7, r0_0, r0_1, r0_2, r0_3, r0_4, r0_5, r0_6, r0_7, s6, s6_0, s6_1, s6_2, s6_3, s6_4, s6_5, s6_6, s6_7, s6_8, r6_0, r6_1, r6_2, r6_3, r6_4, r6_5, r6_6, r6_7, s7, s8, s9, s10, s11, s12, s13, s14, s15, s16, s17, s18, s18_0, s18_1, s19, s19_0, s19_1, s20, s20_0, s20_1, y3.1, am_bv_s, am_bw_s, eq_self, true_or, or_true, am_b0, am_b1, am_em, if_true, if_false, true_and, and_true, false_and, and_false, not_true_eq_false, not_false_eq_true, false_or, or_false, Bool.false_eq_true]
      rfl
    · obtain rfl : w = 2 := Int32.toInt_inj.mp h
      rw [e120_1_2 (h := h)]
      simp only [e120_0, e120_52, e120_53, e120_56, e120_59, e120_60, e120_61, e120_64, e120_67, e120_68, e120_69, e120_72, e120_75, e120_76, e120_77, e120_80, e120_83, e120_84, e120_85, e120_88, e120_91, e120_92, e120_93, e120_96, e120_99, e120_100, e120_101, e120_104, e120_107, e120_108, e120_109, e120_112, e120_115, e120_116, e120_117, e120_120, e120_123, e120_124, e120_126, e77_0, e77_1, e77_4, s0, s0_0, s0_1, s0_2, s0_3, s0_4, s0_5, s0_6, s0_7, r0_0, r0_1, r0_2, r0_3, r0_4, r0_5, r0_6, r0_7, s21, s21_0, s21_1, s21_2, s21_3, s21_4, r21_0, r21_1, s22, s23, y4.1, am_bv_s, am_bw_s, eq_self, true_or, or_true, am_b0, am_b1, am_em, if_true, if_false, true_and, and_true, false_and, and_false, not_true_eq_false, not_false_eq_true, false_or, or_false, Bool.false_eq_true]
      rfl
    · obtain rfl : w = 3 := Int32.toInt_inj.mp h
      rw [e120_1_3 (h := h)]
      simp only [e120_0, e120_52, e120_53, e120_56, e120_59, e120_60, e120_61, e120_64, e120_67, e120_68, e120_69, e120_72, e120_75, e120_76, e120_77, e120_80, e120_83, e120_84, e120_85, e120_88, e120_91, e120_92, e120_93, e120_96, e120_99, e120_100, e120_101, e120_104, e120_107, e120_108, e120_109, e120_112, e120_115, e120_116, e120_117, e120_120, e120_123, e120_124, e120_126, e78_0, e78_1, e78_4, s0, s0_0, s0_1, s0_2, s0_3, s0_4, s0_5, s0_6, s0_7, r0_0, r0_1, r0_2, r0_3, r0_4, r0_5, r0_6, r0_7, s21, s21_0, s21_1, s21_2, s21_3, s21_4, r21_0, r21_1, s22, s23, w1.1, am_bv_s, am_bw_s, eq_self, true_or, or_true, am_b0, am_b1, am_em, if_true, if_false, true_and, and_true, false_and, and_false, not_true_eq_false, not_false_eq_true, false_or, or_false, Bool.false_eq_true]
      rfl
    · obtain rfl : w = 4 := Int32.toInt_inj.mp h
      rw [e120_1_4 (h := h)]
      simp only [e120_0, e120_52, e120_53, e120_56, e120_59, e120_60, e120_61, e120_64, e120_67, e120_68, e120_69, e120_72, e120_75, e120_76, e120_77, e120_80, e120_83, e120_84, e120_85, e120_88, e120_91, e120_92, e120_93, e120_96, e120_99, e120_100, e120_101, e120_104, e120_107, e120_108, e120_109, e120_112, e120_115, e120_116, e120_117, e120_120, e120_123, e120_124, e120_126, e2_0, e2_1, e2_4, s0, s0_0, s0_1, s0_2, s0_3, s0_4, s0_5, s0_6, s0_7, r0_0, r0_1, r0_2, r0_3, r0_4, r0_5, r0_6, r0_7, s24, s24_0, s24_1, s24_2, s24_3, s24_4, s24_5, s24_6, s24_7, s24_8, r24_0, r24_1, r24_2, r24_3, r24_4, r24_5, r24_6, s25, s26, s27, s28, s29, s30, s31, s32, s33, s34, s35, y5.1, am_bv_s, am_bw_s, eq_self, true_or, or_true, am_b0, am_b1, am_em, if_true, if_false, true_and, and_true, false_and, and_false, not_true_eq_false, not_false_eq_true, false_or, or_false, Bool.false_eq_true]
      rfl
    · obtain rfl : w = 5 := Int32.toInt_inj.mp h
      rw [e120_1_5 (h := h)]
      simp only [e120_0, e120_52, e120_53, e120_56, e120_59, e120_60, e120_61, e120_64, e120_67, e120_68, e120_69, e120_72, e120_75, e120_76, e120_77, e120_80, e120_83, e120_84, e120_85, e120_88, e120_91, e120_92, e120_93, e120_96, e120_99, e120_100, e120_101, e120_104, e120_107, e120_108, e120_109, e120_112, e120_115, e120_116, e120_117, e120_120, e120_123, e120_124, e120_126, s0, s0_0, s0_1, s0_2, s0_3, s0_4, s0_5, s0_6, s0_7, r0_0, r0_1, r0_2, r0_3, r0_4, r0_5, r0_6, r0_7, s36, s36_0, s36_1, s36_2, r36_0, r36_1, r36_2, s37, s38, s39, s40, s41, s42, s43, s44, s45, s46, s47, s47_0, s47_1, q_askedOfAll t1, am_bv_s, am_bw_s, eq_self, true_or, or_true, am_b0, am_b1, am_em, if_true, if_false, true_and, and_true, false_and, and_false, not_true_eq_false, not_false_eq_true, false_or, or_false, Bool.false_eq_true]
      rfl
    · obtain rfl : w = 6 := Int32.toInt_inj.mp h
      rw [e120_1_6 (h := h)]
      simp only [e120_0, e120_52, e120_53, e120_56, e120_59, e120_60, e120_61, e120_64, e120_67, e120_68, e120_69, e120_72, e120_75, e120_76, e120_77, e120_80, e120_83, e120_84, e120_85, e120_88, e120_91, e120_92, e120_93, e120_96, e120_99, e120_100, e120_101, e120_104, e120_107, e120_108, e120_109, e120_112, e120_115, e120_116, e120_117, e120_120, e120_123, e120_124, e120_126, s0, s0_0, s0_1, s0_2, s0_3, s0_4, s0_5, s0_6, s0_7, r0_0, r0_1, r0_2, r0_3, r0_4, r0_5, r0_6, r0_7, s1, s1_0, s1_1, s1_2, s1_3, s1_4, r1_0, r1_1, r1_2, r1_3, s2, s3, s4, s5, q_allSizes y2 ho.2.1, am_bv_s, am_bw_s, eq_self, true_or, or_true, am_b0, am_b1, am_em, if_true, if_false, true_and, and_true, false_and, and_false, not_true_eq_false, not_false_eq_true, false_or, or_false, Bool.false_eq_true]
      rfl
    · obtain rfl : w = 7 := Int32.toInt_inj.mp h
      rw [e120_1_7 (h := h)]
      simp only [e120_0, e120_52, e120_53, e120_56, e120_59, e120_60, e120_61, e120_64, e120_67, e120_68, e120_69, e120_72, e120_75, e120_76, e120_77, e120_80, e120_83, e120_84, e120_85, e120_88, e120_91, e120_92, e120_93, e120_96, e120_99, e120_100, e120_101, e120_104, e120_107, e120_108, e120_109, e120_112, e120_115, e120_116, e120_117, e120_120, e120_123, e120_124, e120_126, e3_0, e3_1, e3_4, s0, s0_0, s0_1, s0_2, s0_3, s0_4, s0_5, s0_6, s0_7, r0_0, r0_1, r0_2, r0_3, r0_4, r0_5, r0_6, r0_7, s24, s24_0, s24_1, s24_2, s24_3, s24_4, s24_5, s24_6, s24_7, s24_8, r24_0, r24_1, r24_2, r24_3, r24_4, r24_5, r24_6, s25, s26, s27, s28, s29, s30, s31, s32, s33, s34, s35, y5.2.1, am_bv_s, am_bw_s, eq_self, true_or, or_true, am_b0, am_b1, am_em, if_true, if_false, true_and, and_true, false_and, and_false, not_true_eq_false, not_false_eq_true, false_or, or_false, Bool.false_eq_true]
      rfl
    · obtain rfl : w = 8 := Int32.toInt_inj.mp h
      rw [e120_1_8 (h := h)]
      simp only [e120_0, e120_52, e120_53, e120_56, e120_59, e120_60, e120_61, e120_64, e120_67, e120_68, e120_69, e120_72, e120_75, e120_76, e120_77, e120_80, e120_83, e120_84, e120_85, e120_88, e120_91, e120_92, e120_93, e120_96, e120_99, e120_100, e120_101, e120_104, e120_107, e120_108, e120_109, e120_112, e120_115, e120_116, e120_117, e120_120, e120_123, e120_124, e120_126, e40_0, e40_1, e40_4, s0, s0_0, s0_1, s0_2, s0_3, s0_4, s0_5, s0_6, s0_7, r0_0, r0_1, r0_2, r0_3, r0_4, r0_5, r0_6, r0_7, s50, s50_0, s50_1, s50_2, s50_3, r50_0, r50_1, r50_2, s51, s52, s53, s54, s55, s56, s57, y1.1, am_bv_s, am_bw_s, eq_self, true_or, or_true, am_b0, am_b1, am_em, if_true, if_false, true_and, and_true, false_and, and_false, not_true_eq_false, not_false_eq_true, false_or, or_false, Bool.false_eq_true]
      rfl
end
