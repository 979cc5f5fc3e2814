/-! the reference: over, may -/
theorem sm_ge {f : Nat → Nat} {y : Nat} : ∀ q, sm (fun k => if y ≤ k then f k else 0) (y + q) = sm (fun i => f (y + i)) q
  | 0 => by
    have h : ∀ n, n ≤ y → sm (fun k => if y ≤ k then f k else 0) n = 0 := by
      intro n
      induction n with
      | zero => intro _; rfl
      | succ n ih => intro hn; rw [sm, ih (by omega), if_neg (by omega)]
    exact h y (Nat.le_refl _)
  | q + 1 => by
    rw [← Nat.add_assoc, sm, sm, sm_ge q, if_pos (Nat.le_add_right _ _)]
theorem sm_lo {f : Nat → Nat} {y : Nat} : ∀ q, sm (fun k => if k ≤ y then f k else 0) (y + 1 + q) = sm f (y + 1)
  | 0 => sm_c _ (fun i hi => if_pos (by omega))
  | q + 1 => by
    rw [← Nat.add_assoc, sm, sm_lo q, if_neg (by omega), Nat.add_zero]
section
variable {X : am_X} {S : am_Sh} {M M' : am_Me} {P : Nat → Nat → Prop} {s : sgm}
theorem m_over {c k : Nat} (hc : c < 2 ^ 31) (hk : k < 2 ^ 30) (hb : ∀ i, i < k → ch c i * (c - i) < 2 ^ 63) : am_e X 153 0 [some (.int (nI c)), some (.int (nI k)), none, none, none] [] S M = some (some (.long (lI (ch c k))), S, M) := by
  have c1 := nlt0 (n := k) (by omega)
  by_cases h : c < k
  · have c2 : (nI c < nI k) = True := eq_true (nI_lt h (by omega))
    rw [ch_0 c k h]
    simp only [e153_0, e153_1, e153_4, e153_5, e153_6, e153_9, e153_10, e153_11, e153_12, e153_13, e153_14, e153_18, e153_19, e153_22, e153_23, e153_24, e153_26, e153_27, e153_28, e153_29, e153_31, e153_32, e153_33, e153_34, e153_35, e153_36, e153_39, e153_42, e153_43, c1, c2, am_bv_s, am_bw_s, eq_self, true_or, or_true, am_b0, am_b1, am_em, if_true, if_false, true_and, and_true, false_and, and_false, not_true_eq_false, not_false_eq_true, false_or, or_false, Bool.false_eq_true]
    rfl
  · have c2 : (nI c < nI k) = False := eq_false (nI_nlt (by omega) (by omega))
    obtain ⟨M', e1, rfl⟩ := am_lp (X := X) (S := S) (mi := 153) (pc := 16) k (fun i => [some (.int (nI c)), some (.int (nI k)), some (.long (lI (ch c i))), none, some (.int (nI i))])
      (fun i M' => M' = M) (M := M) rfl (by
        intro j M2 hj hI
        subst hI
        have c3 : (nI j < nI k) = True := eq_true (nI_lt hj (by omega))
        have d1 : nI c - nI j = nI (c - j) := pk_sub (by omega)
        have l1 := lI_w (n := c - j) (by omega)
        have l2 := lI_w (n := j + 1) (by omega)
        have c4 : (lI (j + 1) = 0) = False := by rw [lI_0e (by omega)]; exact eq_false (by omega)
        have dv : lI (ch c j * (c - j)) / lI (j + 1) = lI (ch c (j + 1)) := by
          rw [lI_div (hb j hj) (by omega), ← ch_st, Nat.mul_div_cancel _ (Nat.succ_pos j)]
        refine ⟨M2, ?_, rfl⟩
        rw [e153_16]
        simp only [e153_0, e153_1, e153_4, e153_5, e153_6, e153_9, e153_10, e153_11, e153_12, e153_13, e153_14, e153_18, e153_19, e153_22, e153_23, e153_24, e153_26, e153_27, e153_28, e153_29, e153_31, e153_32, e153_33, e153_34, e153_35, e153_36, e153_39, e153_42, e153_43, c3, d1, l1, nI_1, l2, lI_mul, c4, dv, am_bv_s, am_bw_s, eq_self, true_or, or_true, am_b0, am_b1, am_em, if_true, if_false, true_and, and_true, false_and, and_false, not_true_eq_false, not_false_eq_true, false_or, or_false, Bool.false_eq_true])
    have c3 : (nI k < nI k) = False := eq_false (nI_nlt (Nat.le_refl _) (by omega))
    have fin : am_e X 153 16 [some (.int (nI c)), some (.int (nI k)), some (.long (lI (ch c k))), none, some (.int (nI k))] [] S M' = some (some (.long (lI (ch c k))), S, M') := by
      rw [e153_16]
      simp only [e153_0, e153_1, e153_4, e153_5, e153_6, e153_9, e153_10, e153_11, e153_12, e153_13, e153_14, e153_18, e153_19, e153_22, e153_23, e153_24, e153_26, e153_27, e153_28, e153_29, e153_31, e153_32, e153_33, e153_34, e153_35, e153_36, e153_39, e153_42, e153_43, c3, am_bv_s, am_bw_s, eq_self, true_or, or_true, am_b0, am_b1, am_em, if_true, if_false, true_and, and_true, false_and, and_false, not_true_eq_false, not_false_eq_true, false_or, or_false, Bool.false_eq_true]
    rw [fin, nI_0, ch_z, lI_1] at e1
    rw [← e1]
    simp only [e153_0, e153_1, e153_4, e153_5, e153_6, e153_9, e153_10, e153_11, e153_12, e153_13, e153_14, e153_18, e153_19, e153_22, e153_23, e153_24, e153_26, e153_27, e153_28, e153_29, e153_31, e153_32, e153_33, e153_34, e153_35, e153_36, e153_39, e153_42, e153_43, c1, c2, am_bv_s, am_bw_s, eq_self, true_or, or_true, am_b0, am_b1, am_em, if_true, if_false, true_and, and_true, false_and, and_false, not_true_eq_false, not_false_eq_true, false_or, or_false, Bool.false_eq_true]
theorem m_over8 {c k : Nat} (hc : c ≤ 99) (hk : k ≤ 8) : am_e X 153 0 [some (.int (nI c)), some (.int (nI k)), none, none, none] [] S M = some (some (.long (lI (ch c k))), S, M) := by
  refine m_over (by omega) (by omega) (fun i hi => ?_)
  have h1 : ch c i ≤ 99 ^ 7 := Nat.le_trans (ch_pw c i) (Nat.le_trans (Nat.pow_le_pow_left hc i) (Nat.pow_le_pow_right (by decide) (by omega)))
  have h2 : ch c i * (c - i) ≤ 99 ^ 7 * 99 := Nat.mul_le_mul h1 (by omega)
  exact Nat.lt_of_le_of_lt h2 (by decide)
theorem m_over24 {c k : Nat} (hc : c ≤ 24) (hk : k ≤ 24) : am_e X 153 0 [some (.int (nI c)), some (.int (nI k)), none, none, none] [] S M = some (some (.long (lI (ch c k))), S, M) := by
  refine m_over (by omega) (by omega) (fun i hi => ?_)
  have h1 : ch c i ≤ 2 ^ 24 := Nat.le_trans (ch_2 c i) (Nat.pow_le_pow_right (by decide) hc)
  have h2 : ch c i * (c - i) ≤ 2 ^ 24 * 24 := Nat.mul_le_mul h1 (by omega)
  exact Nat.lt_of_le_of_lt h2 (by decide)
theorem m_mayIn {size n y c : Nat} {x e f : Int32} (hw : e = 0 ∨ e = 1) (hs : size ≤ 99) (hn : n ≤ 8) (hy : y ≤ n) (hc : c ≤ size) : am_e X 185 116 [none, none, none, some (.int x), some (.int e), some (.int (nI n)), some (.int (nI y)), some (.int (nI size)), some (.int f), some (.int (nI c)), some (.long 0), none, some (.int 0)] [] kS M = am_e X 185 181 [none, none, none, some (.int x), some (.int e), some (.int (nI n)), some (.int (nI y)), some (.int (nI size)), some (.int f), some (.int (nI c)), some (.long (lI (mS0 size n y e c))), none, some (.int (nI (n + 1)))] [] kS M := by
  have hd : ∀ k, k ≤ n → am_e X 153 0 [some (.int (nI c)), some (.int (nI k)), none, none, none] [] kS M = some (some (.long (lI (ch c k))), kS, M) ∧ am_e X 153 0 [some (.int (nI (size - c))), some (.int (nI (n - k))), none, none, none] [] kS M = some (some (.long (lI (ch (size - c) (n - k)))), kS, M) := fun k hk => ⟨m_over8 (by omega) (by omega), m_over8 (by omega) (by omega)⟩
  have ds : nI size - nI c = nI (size - c) := pk_sub hc
  have lz : ∀ a, lI a + 0 = lI a := fun a => Int64.add_zero _
  have cn : (nI n < nI (n + 1)) = True := eq_true (nI_lt (by omega) (by omega))
  rcases hw with rfl | rfl
  · obtain ⟨M', e1, rfl⟩ := am_lp (X := X) (S := kS) (mi := 185) (pc := 116) (n + 1) (fun i => [none, none, none, some (.int x), some (.int 0), some (.int (nI n)), some (.int (nI y)), some (.int (nI size)), some (.int f), some (.int (nI c)), some (.long (lI (sm (fun k => if y ≤ k then dW size n c k else 0) i))), none, some (.int (nI i))])
      (fun i M' => M' = M) (M := M) rfl (by
        intro j M2 hj hI
        subst hI
        have c1 : (nI n < nI j) = False := eq_false (nI_nlt (by omega) (by omega))
        have c2 : (nI j < nI y) = (j < y) := ok_lt (by omega) (by omega)
        have z0 : ((0 : Int32) = 0) = True := eq_true rfl
        refine ⟨M2, ?_, rfl⟩
        by_cases h : j < y
        · have es : sm (fun k => if y ≤ k then dW size n c k else 0) (j + 1) = sm (fun k => if y ≤ k then dW size n c k else 0) j := by rw [sm, if_neg (by omega), Nat.add_zero]
          rw [es, e185_116]
          simp only [e185_0, e185_1, e185_4, e185_7, e185_8, e185_9, e185_12, e185_15, e185_16, e185_17, e185_18, e185_21, e185_24, e185_27, e185_29, e185_32, e185_35, e185_37, e185_38, e185_39, e185_40, e185_43, e185_46, e185_47, e185_48, e185_49, e185_50, e185_53, e185_55, e185_56, e185_57, e185_58, e185_59, e185_62, e185_64, e185_65, e185_68, e185_69, e185_70, e185_72, e185_74, e185_77, e185_79, e185_80, e185_82, e185_84, e185_87, e185_89, e185_91, e185_94, e185_96, e185_97, e185_98, e185_100, e185_101, e185_105, e185_107, e185_110, e185_111, e185_113, e185_114, e185_118, e185_120, e185_123, e185_125, e185_127, e185_130, e185_132, e185_134, e185_137, e185_140, e185_142, e185_144, e185_147, e185_149, e185_151, e185_154, e185_156, e185_158, e185_159, e185_161, e185_163, e185_164, e185_167, e185_168, e185_171, e185_172, e185_173, e185_175, e185_178, e185_183, e185_186, e185_187, e185_188, e185_189, e185_191, e185_193, e185_196, e185_197, e185_198, e185_201, e185_202, e185_205, e185_206, e185_208, e185_210, e185_213, e185_215, e185_216, e185_219, e185_221, e185_222, e185_225, e185_227, e185_230, e185_232, e185_234, e185_237, e185_240, e185_242, c1, c2, h, lz, nI_1, am_bv_s, am_bw_s, eq_self, true_or, or_true, am_b0, am_b1, am_em, if_true, if_false, true_and, and_true, false_and, and_false, not_true_eq_false, not_false_eq_true, false_or, or_false, Bool.false_eq_true]
        · have es : lI (sm (fun k => if y ≤ k then dW size n c k else 0) (j + 1)) = lI (sm (fun k => if y ≤ k then dW size n c k else 0) j) + lI (ch c j * ch (size - c) (n - j)) := by rw [sm, if_pos (by omega), lI_add]; rfl
          obtain ⟨o1, o2⟩ := hd j (by omega)
          have dn : nI n - nI j = nI (n - j) := pk_sub (by omega)
          rw [es, e185_116]
          simp only [e185_0, e185_1, e185_4, e185_7, e185_8, e185_9, e185_12, e185_15, e185_16, e185_17, e185_18, e185_21, e185_24, e185_27, e185_29, e185_32, e185_35, e185_37, e185_38, e185_39, e185_40, e185_43, e185_46, e185_47, e185_48, e185_49, e185_50, e185_53, e185_55, e185_56, e185_57, e185_58, e185_59, e185_62, e185_64, e185_65, e185_68, e185_69, e185_70, e185_72, e185_74, e185_77, e185_79, e185_80, e185_82, e185_84, e185_87, e185_89, e185_91, e185_94, e185_96, e185_97, e185_98, e185_100, e185_101, e185_105, e185_107, e185_110, e185_111, e185_113, e185_114, e185_118, e185_120, e185_123, e185_125, e185_127, e185_130, e185_132, e185_134, e185_137, e185_140, e185_142, e185_144, e185_147, e185_149, e185_151, e185_154, e185_156, e185_158, e185_159, e185_161, e185_163, e185_164, e185_167, e185_168, e185_171, e185_172, e185_173, e185_175, e185_178, e185_183, e185_186, e185_187, e185_188, e185_189, e185_191, e185_193, e185_196, e185_197, e185_198, e185_201, e185_202, e185_205, e185_206, e185_208, e185_210, e185_213, e185_215, e185_216, e185_219, e185_221, e185_222, e185_225, e185_227, e185_230, e185_232, e185_234, e185_237, e185_240, e185_242, c1, c2, h, z0, ds, dn, o1, o2, lI_mul, nI_1, am_bv_s, am_bw_s, eq_self, true_or, or_true, am_b0, am_b1, am_em, if_true, if_false, true_and, and_true, false_and, and_false, not_true_eq_false, not_false_eq_true, false_or, or_false, Bool.false_eq_true])
    have fin : am_e X 185 116 [none, none, none, some (.int x), some (.int 0), some (.int (nI n)), some (.int (nI y)), some (.int (nI size)), some (.int f), some (.int (nI c)), some (.long (lI (sm (fun k => if y ≤ k then dW size n c k else 0) (n + 1)))), none, some (.int (nI (n + 1)))] [] kS M' = am_e X 185 181 [none, none, none, some (.int x), some (.int 0), some (.int (nI n)), some (.int (nI y)), some (.int (nI size)), some (.int f), some (.int (nI c)), some (.long (lI (mS0 size n y 0 c))), none, some (.int (nI (n + 1)))] [] kS M' := by
      have es : mS0 size n y 0 c = sm (fun k => if y ≤ k then dW size n c k else 0) (n + 1) := by
        have := sm_ge (f := dW size n c) (y := y) (n + 1 - y)
        rw [show y + (n + 1 - y) = n + 1 by omega] at this
        rw [this]
        exact if_pos rfl
      rw [es, e185_116]
      simp only [e185_0, e185_1, e185_4, e185_7, e185_8, e185_9, e185_12, e185_15, e185_16, e185_17, e185_18, e185_21, e185_24, e185_27, e185_29, e185_32, e185_35, e185_37, e185_38, e185_39, e185_40, e185_43, e185_46, e185_47, e185_48, e185_49, e185_50, e185_53, e185_55, e185_56, e185_57, e185_58, e185_59, e185_62, e185_64, e185_65, e185_68, e185_69, e185_70, e185_72, e185_74, e185_77, e185_79, e185_80, e185_82, e185_84, e185_87, e185_89, e185_91, e185_94, e185_96, e185_97, e185_98, e185_100, e185_101, e185_105, e185_107, e185_110, e185_111, e185_113, e185_114, e185_118, e185_120, e185_123, e185_125, e185_127, e185_130, e185_132, e185_134, e185_137, e185_140, e185_142, e185_144, e185_147, e185_149, e185_151, e185_154, e185_156, e185_158, e185_159, e185_161, e185_163, e185_164, e185_167, e185_168, e185_171, e185_172, e185_173, e185_175, e185_178, e185_183, e185_186, e185_187, e185_188, e185_189, e185_191, e185_193, e185_196, e185_197, e185_198, e185_201, e185_202, e185_205, e185_206, e185_208, e185_210, e185_213, e185_215, e185_216, e185_219, e185_221, e185_222, e185_225, e185_227, e185_230, e185_232, e185_234, e185_237, e185_240, e185_242, cn, am_bv_s, am_bw_s, eq_self, true_or, or_true, am_b0, am_b1, am_em, if_true, if_false, true_and, and_true, false_and, and_false, not_true_eq_false, not_false_eq_true, false_or, or_false, Bool.false_eq_true]
    rw [fin] at e1
    exact e1
  · obtain ⟨M', e1, rfl⟩ := am_lp (X := X) (S := kS) (mi := 185) (pc := 116) (n + 1) (fun i => [none, none, none, some (.int x), some (.int 1), some (.int (nI n)), some (.int (nI y)), some (.int (nI size)), some (.int f), some (.int (nI c)), some (.long (lI (sm (fun k => if k ≤ y then dW size n c k else 0) i))), none, some (.int (nI i))])
      (fun i M' => M' = M) (M := M) rfl (by
        intro j M2 hj hI
        subst hI
        have c1 : (nI n < nI j) = False := eq_false (nI_nlt (by omega) (by omega))
        have c2 : (nI y < nI j) = (y < j) := ok_lt (by omega) (by omega)
        have o0 : ((1 : Int32) = 0) = False := eq_false (by decide)
        refine ⟨M2, ?_, rfl⟩
        by_cases h : y < j
        · have es : sm (fun k => if k ≤ y then dW size n c k else 0) (j + 1) = sm (fun k => if k ≤ y then dW size n c k else 0) j := by rw [sm, if_neg (by omega), Nat.add_zero]
          rw [es, e185_116]
          simp only [e185_0, e185_1, e185_4, e185_7, e185_8, e185_9, e185_12, e185_15, e185_16, e185_17, e185_18, e185_21, e185_24, e185_27, e185_29, e185_32, e185_35, e185_37, e185_38, e185_39, e185_40, e185_43, e185_46, e185_47, e185_48, e185_49, e185_50, e185_53, e185_55, e185_56, e185_57, e185_58, e185_59, e185_62, e185_64, e185_65, e185_68, e185_69, e185_70, e185_72, e185_74, e185_77, e185_79, e185_80, e185_82, e185_84, e185_87, e185_89, e185_91, e185_94, e185_96, e185_97, e185_98, e185_100, e185_101, e185_105, e185_107, e185_110, e185_111, e185_113, e185_114, e185_118, e185_120, e185_123, e185_125, e185_127, e185_130, e185_132, e185_134, e185_137, e185_140, e185_142, e185_144, e185_147, e185_149, e185_151, e185_154, e185_156, e185_158, e185_159, e185_161, e185_163, e185_164, e185_167, e185_168, e185_171, e185_172, e185_173, e185_175, e185_178, e185_183, e185_186, e185_187, e185_188, e185_189, e185_191, e185_193, e185_196, e185_197, e185_198, e185_201, e185_202, e185_205, e185_206, e185_208, e185_210, e185_213, e185_215, e185_216, e185_219, e185_221, e185_222, e185_225, e185_227, e185_230, e185_232, e185_234, e185_237, e185_240, e185_242, c1, c2, h, o0, lz, nI_1, am_bv_s, am_bw_s, eq_self, true_or, or_true, am_b0, am_b1, am_em, if_true, if_false, true_and, and_true, false_and, and_false, not_true_eq_false, not_false_eq_true, false_or, or_false, Bool.false_eq_true]
        · have es : lI (sm (fun k => if k ≤ y then dW size n c k else 0) (j + 1)) = lI (sm (fun k => if k ≤ y then dW size n c k else 0) j) + lI (ch c j * ch (size - c) (n - j)) := by rw [sm, if_pos (by omega), lI_add]; rfl
          obtain ⟨o1, o2⟩ := hd j (by omega)
          have dn : nI n - nI j = nI (n - j) := pk_sub (by omega)
          rw [es, e185_116]
          simp only [e185_0, e185_1, e185_4, e185_7, e185_8, e185_9, e185_12, e185_15, e185_16, e185_17, e185_18, e185_21, e185_24, e185_27, e185_29, e185_32, e185_35, e185_37, e185_38, e185_39, e185_40, e185_43, e185_46, e185_47, e185_48, e185_49, e185_50, e185_53, e185_55, e185_56, e185_57, e185_58, e185_59, e185_62, e185_64, e185_65, e185_68, e185_69, e185_70, e185_72, e185_74, e185_77, e185_79, e185_80, e185_82, e185_84, e185_87, e185_89, e185_91, e185_94, e185_96, e185_97, e185_98, e185_100, e185_101, e185_105, e185_107, e185_110, e185_111, e185_113, e185_114, e185_118, e185_120, e185_123, e185_125, e185_127, e185_130, e185_132, e185_134, e185_137, e185_140, e185_142, e185_144, e185_147, e185_149, e185_151, e185_154, e185_156, e185_158, e185_159, e185_161, e185_163, e185_164, e185_167, e185_168, e185_171, e185_172, e185_173, e185_175, e185_178, e185_183, e185_186, e185_187, e185_188, e185_189, e185_191, e185_193, e185_196, e185_197, e185_198, e185_201, e185_202, e185_205, e185_206, e185_208, e185_210, e185_213, e185_215, e185_216, e185_219, e185_221, e185_222, e185_225, e185_227, e185_230, e185_232, e185_234, e185_237, e185_240, e185_242, c1, c2, h, o0, ds, dn, o1, o2, lI_mul, nI_1, am_bv_s, am_bw_s, eq_self, true_or, or_true, am_b0, am_b1, am_em, if_true, if_false, true_and, and_true, false_and, and_false, not_true_eq_false, not_false_eq_true, false_or, or_false, Bool.false_eq_true])
    have fin : am_e X 185 116 [none, none, none, some (.int x), some (.int 1), some (.int (nI n)), some (.int (nI y)), some (.int (nI size)), some (.int f), some (.int (nI c)), some (.long (lI (sm (fun k => if k ≤ y then dW size n c k else 0) (n + 1)))), none, some (.int (nI (n + 1)))] [] kS M' = am_e X 185 181 [none, none, none, some (.int x), some (.int 1), some (.int (nI n)), some (.int (nI y)), some (.int (nI size)), some (.int f), some (.int (nI c)), some (.long (lI (mS0 size n y 1 c))), none, some (.int (nI (n + 1)))] [] kS M' := by
      have es : mS0 size n y 1 c = sm (fun k => if k ≤ y then dW size n c k else 0) (n + 1) := by
        have := sm_lo (f := dW size n c) (y := y) (n - y)
        rw [show y + 1 + (n - y) = n + 1 by omega] at this
        rw [this]
        exact if_neg (by decide)
      rw [es, e185_116]
      simp only [e185_0, e185_1, e185_4, e185_7, e185_8, e185_9, e185_12, e185_15, e185_16, e185_17, e185_18, e185_21, e185_24, e185_27, e185_29, e185_32, e185_35, e185_37, e185_38, e185_39, e185_40, e185_43, e185_46, e185_47, e185_48, e185_49, e185_50, e185_53, e185_55, e185_56, e185_57, e185_58, e185_59, e185_62, e185_64, e185_65, e185_68, e185_69, e185_70, e185_72, e185_74, e185_77, e185_79, e185_80, e185_82, e185_84, e185_87, e185_89, e185_91, e185_94, e185_96, e185_97, e185_98, e185_100, e185_101, e185_105, e185_107, e185_110, e185_111, e185_113, e185_114, e185_118, e185_120, e185_123, e185_125, e185_127, e185_130, e185_132, e185_134, e185_137, e185_140, e185_142, e185_144, e185_147, e185_149, e185_151, e185_154, e185_156, e185_158, e185_159, e185_161, e185_163, e185_164, e185_167, e185_168, e185_171, e185_172, e185_173, e185_175, e185_178, e185_183, e185_186, e185_187, e185_188, e185_189, e185_191, e185_193, e185_196, e185_197, e185_198, e185_201, e185_202, e185_205, e185_206, e185_208, e185_210, e185_213, e185_215, e185_216, e185_219, e185_221, e185_222, e185_225, e185_227, e185_230, e185_232, e185_234, e185_237, e185_240, e185_242, cn, am_bv_s, am_bw_s, eq_self, true_or, or_true, am_b0, am_b1, am_em, if_true, if_false, true_and, and_true, false_and, and_false, not_true_eq_false, not_false_eq_true, false_or, or_false, Bool.false_eq_true]
    rw [fin] at e1
    exact e1
theorem m_may (hx : JM s M) (ho : okm s) (t b x e : Int32) : ∃ M', am_e X 185 0 [some (.ref (59 : Nat)), some (.int t), some (.int b), some (.int x), some (.int e), none, none, none, none, none, none, none, none] [] kS M = some (some (.int (sp_may s t b x e)), kS, M') ∧ JM s M' ∧ am_of pM M M' := by
  have i1 := m_isTaker (X := X) (S := kS) (M := M) t
  have i2 := m_isBand2 (X := X) (M := M) hx.2.1 b
  have i3 := q_in (X := X) (S := kS) (M := M) x 0 255 (by decide : (0 : Int32).toInt64 = 0) (by decide : (255 : Int32).toInt64 = 255)
  have i4 := m_isTwo (X := X) (S := kS) (M := M) e
  have d6 := ho.2.1.1
  have y52 := hx.2.2.2.2.2.1
  unfold sp_may
  by_cases h1 : 0 ≤ t ∧ t ≤ 3
  · rw [am_bt h1] at i1
    by_cases h2 : 0 ≤ b ∧ b ≤ nI s.2.1.1 - 1
    · rw [am_bt h2] at i2
      by_cases h3 : 0 ≤ x ∧ x ≤ 255
      · rw [am_bt h3] at i3
        by_cases h4 : 0 ≤ e ∧ e ≤ 1
        · rw [am_bt h4] at i4
          rw [if_pos ⟨⟨h1, h2⟩, h3, h4⟩]
          obtain ⟨tn, htn, rfl⟩ := in_n (n := 3) h1 (by decide)
          obtain ⟨bn, hbn, rfl⟩ := (pred_le (by omega)).mp h2
          obtain ⟨xn, hxn, rfl⟩ := in_n (n := 255) h3 (by decide)
          have cb : (nI bn).toNatClampNeg = bn := nI_clamp (by omega)
          rw [nI_clamp (n := tn) (by omega), cb, nI_clamp (n := xn) (by omega)]
          obtain ⟨M1, r1, j1, of1⟩ := m_said (X := X) hx ho
          have qa := j1.as (X := X) ho (show tn < 4 by omega) (show bn < 7 by omega)
          have qy := j1.ye (X := X) ho (show tn < 4 by omega) (show bn < 7 by omega)
          have sz := j1.1.2.1.2 bn hbn
          have s99 := ho.2.1.2 bn hbn
          have h40 := sAs_le d6 (l := s.2.2.2.1) (A := s.2.2.2.2) (t := tn) (k := bn)
          have hy := sYe_le (nb := s.2.1.1) (l := s.2.2.2.1) (A := s.2.2.2.2) (t := tn) (k := bn)
          have lx := lI_w (n := xn) (by omega)
          refine ⟨M1, ?_, j1.1, of1.mo fun a k q => by unfold pmS pmW at q; unfold pM; omega⟩
          generalize sAs s.2.1.1 s.2.2.2.1 s.2.2.2.2 tn bn = n at *
          generalize sYe s.2.1.1 s.2.2.2.1 s.2.2.2.2 tn bn = y at *
          generalize s.2.1.2 bn = size at *
          have c0 : (nI n = 0) = (n = 0) := nI_0e (by omega)
          have c8 : (8 < nI n) = (8 < n) := ok_lt (x := 8) (by decide) (by omega)
          have cz : (nI size < nI n) = (size < n) := ok_lt (by omega) (by omega)
          by_cases h5 : n = 0
          · rw [if_pos h5]
            simp only [e185_0, e185_1, e185_4, e185_7, e185_8, e185_9, e185_12, e185_15, e185_16, e185_17, e185_18, e185_21, e185_24, e185_27, e185_29, e185_32, e185_35, e185_37, e185_38, e185_39, e185_40, e185_43, e185_46, e185_47, e185_48, e185_49, e185_50, e185_53, e185_55, e185_56, e185_57, e185_58, e185_59, e185_62, e185_64, e185_65, e185_68, e185_69, e185_70, e185_72, e185_74, e185_77, e185_79, e185_80, e185_82, e185_84, e185_87, e185_89, e185_91, e185_94, e185_96, e185_97, e185_98, e185_100, e185_101, e185_105, e185_107, e185_110, e185_111, e185_113, e185_114, e185_118, e185_120, e185_123, e185_125, e185_127, e185_130, e185_132, e185_134, e185_137, e185_140, e185_142, e185_144, e185_147, e185_149, e185_151, e185_154, e185_156, e185_158, e185_159, e185_161, e185_163, e185_164, e185_167, e185_168, e185_171, e185_172, e185_173, e185_175, e185_178, e185_183, e185_186, e185_187, e185_188, e185_189, e185_191, e185_193, e185_196, e185_197, e185_198, e185_201, e185_202, e185_205, e185_206, e185_208, e185_210, e185_213, e185_215, e185_216, e185_219, e185_221, e185_222, e185_225, e185_227, e185_230, e185_232, e185_234, e185_237, e185_240, e185_242, s59, s59_0, s59_1, s59_2, s59_3, s59_4, s59_5, s59_6, s59_7, s59_8, s59_9, s59_10, s59_11, s59_12, s59_13, s59_14, s59_15, s59_16, s59_17, s59_18, s59_19, s59_20, s59_21, s59_22, s59_23, s59_24, s59_25, s59_26, s59_27, s59_28, s59_29, s59_30, s59_31, r59_0, r59_1, r59_2, r59_3, r59_6, r59_8, r59_9, r59_13, r59_15, r59_16, r59_17, r59_19, r59_22, r59_23, r59_26, r59_30, r59_31, s60, s61, s62, s63, s64, s65, s66, s67, s68, s69, s70, s71, s72, s73, s74, s75, s76, i1, i2, i3, i4, z10, z01, z1m, zm1, z0m, zm0, y52, r1, qa, qy, cb, sz, c0, h5, (eq_true rfl : (nI 0 = 0) = True), a64 (show bn < 6 by omega), am_bv_s, am_bw_s, eq_self, true_or, or_true, am_b0, am_b1, am_em, if_true, if_false, true_and, and_true, false_and, and_false, not_true_eq_false, not_false_eq_true, false_or, or_false, Bool.false_eq_true]
          · rw [if_neg h5]
            by_cases h6 : 8 < n
            · rw [if_pos (Or.inl h6)]
              simp only [e185_0, e185_1, e185_4, e185_7, e185_8, e185_9, e185_12, e185_15, e185_16, e185_17, e185_18, e185_21, e185_24, e185_27, e185_29, e185_32, e185_35, e185_37, e185_38, e185_39, e185_40, e185_43, e185_46, e185_47, e185_48, e185_49, e185_50, e185_53, e185_55, e185_56, e185_57, e185_58, e185_59, e185_62, e185_64, e185_65, e185_68, e185_69, e185_70, e185_72, e185_74, e185_77, e185_79, e185_80, e185_82, e185_84, e185_87, e185_89, e185_91, e185_94, e185_96, e185_97, e185_98, e185_100, e185_101, e185_105, e185_107, e185_110, e185_111, e185_113, e185_114, e185_118, e185_120, e185_123, e185_125, e185_127, e185_130, e185_132, e185_134, e185_137, e185_140, e185_142, e185_144, e185_147, e185_149, e185_151, e185_154, e185_156, e185_158, e185_159, e185_161, e185_163, e185_164, e185_167, e185_168, e185_171, e185_172, e185_173, e185_175, e185_178, e185_183, e185_186, e185_187, e185_188, e185_189, e185_191, e185_193, e185_196, e185_197, e185_198, e185_201, e185_202, e185_205, e185_206, e185_208, e185_210, e185_213, e185_215, e185_216, e185_219, e185_221, e185_222, e185_225, e185_227, e185_230, e185_232, e185_234, e185_237, e185_240, e185_242, s59, s59_0, s59_1, s59_2, s59_3, s59_4, s59_5, s59_6, s59_7, s59_8, s59_9, s59_10, s59_11, s59_12, s59_13, s59_14, s59_15, s59_16, s59_17, s59_18, s59_19, s59_20, s59_21, s59_22, s59_23, s59_24, s59_25, s59_26, s59_27, s59_28, s59_29, s59_30, s59_31, r59_0, r59_1, r59_2, r59_3, r59_6, r59_8, r59_9, r59_13, r59_15, r59_16, r59_17, r59_19, r59_22, r59_23, r59_26, r59_30, r59_31, s60, s61, s62, s63, s64, s65, s66, s67, s68, s69, s70, s71, s72, s73, s74, s75, s76, i1, i2, i3, i4, z10, z01, z1m, zm1, z0m, zm0, y52, r1, qa, qy, cb, sz, c0, h5, c8, h6, a64 (show bn < 6 by omega), am_bv_s, am_bw_s, eq_self, true_or, or_true, am_b0, am_b1, am_em, if_true, if_false, true_and, and_true, false_and, and_false, not_true_eq_false, not_false_eq_true, false_or, or_false, Bool.false_eq_true]
            · by_cases h7 : size < n
              · rw [if_pos (Or.inr h7)]
                simp only [e185_0, e185_1, e185_4, e185_7, e185_8, e185_9, e185_12, e185_15, e185_16, e185_17, e185_18, e185_21, e185_24, e185_27, e185_29, e185_32, e185_35, e185_37, e185_38, e185_39, e185_40, e185_43, e185_46, e185_47, e185_48, e185_49, e185_50, e185_53, e185_55, e185_56, e185_57, e185_58, e185_59, e185_62, e185_64, e185_65, e185_68, e185_69, e185_70, e185_72, e185_74, e185_77, e185_79, e185_80, e185_82, e185_84, e185_87, e185_89, e185_91, e185_94, e185_96, e185_97, e185_98, e185_100, e185_101, e185_105, e185_107, e185_110, e185_111, e185_113, e185_114, e185_118, e185_120, e185_123, e185_125, e185_127, e185_130, e185_132, e185_134, e185_137, e185_140, e185_142, e185_144, e185_147, e185_149, e185_151, e185_154, e185_156, e185_158, e185_159, e185_161, e185_163, e185_164, e185_167, e185_168, e185_171, e185_172, e185_173, e185_175, e185_178, e185_183, e185_186, e185_187, e185_188, e185_189, e185_191, e185_193, e185_196, e185_197, e185_198, e185_201, e185_202, e185_205, e185_206, e185_208, e185_210, e185_213, e185_215, e185_216, e185_219, e185_221, e185_222, e185_225, e185_227, e185_230, e185_232, e185_234, e185_237, e185_240, e185_242, s59, s59_0, s59_1, s59_2, s59_3, s59_4, s59_5, s59_6, s59_7, s59_8, s59_9, s59_10, s59_11, s59_12, s59_13, s59_14, s59_15, s59_16, s59_17, s59_18, s59_19, s59_20, s59_21, s59_22, s59_23, s59_24, s59_25, s59_26, s59_27, s59_28, s59_29, s59_30, s59_31, r59_0, r59_1, r59_2, r59_3, r59_6, r59_8, r59_9, r59_13, r59_15, r59_16, r59_17, r59_19, r59_22, r59_23, r59_26, r59_30, r59_31, s60, s61, s62, s63, s64, s65, s66, s67, s68, s69, s70, s71, s72, s73, s74, s75, s76, i1, i2, i3, i4, z10, z01, z1m, zm1, z0m, zm0, y52, r1, qa, qy, cb, sz, c0, h5, c8, h6, cz, h7, a64 (show bn < 6 by omega), am_bv_s, am_bw_s, eq_self, true_or, or_true, am_b0, am_b1, am_em, if_true, if_false, true_and, and_true, false_and, and_false, not_true_eq_false, not_false_eq_true, false_or, or_false, Bool.false_eq_true]
              · rw [if_neg (by omega)]
                have hw := b01 h4
                have l256 : (256 : Int64) = lI 256 := rfl
                have ov := m_over8 (X := X) (S := kS) (M := M1) (c := size) (k := n) (by omega) (by omega)
                have n0 : ((-1 : Int32) = -1) = True := eq_true rfl
                -- one known number tried
                have st : ∀ (c : Nat) (f : Option Nat), c < size + 1 → (∀ j, f = some j → j < 100) → am_e X 185 103 [none, none, none, some (.int (nI xn)), some (.int e), some (.int (nI n)), some (.int (nI y)), some (.int (nI size)), some (.int (oI f)), some (.int (nI c)), none, none, none] [] kS M1 = am_e X 185 103 [none, none, none, some (.int (nI xn)), some (.int e), some (.int (nI n)), some (.int (nI y)), some (.int (nI size)), some (.int (if mP size n y xn e c = true ∧ (e = 1 ∨ f = none) then nI c else oI f)), some (.int (nI (c + 1))), none, none, none] [] kS M1 := by
                  intro c f hc hf
                  have c1 : (nI size < nI c) = False := eq_false (nI_nlt (by omega) (by omega))
                  have inn := m_mayIn (X := X) (M := M1) (x := nI xn) (f := oI f) hw (show size ≤ 99 by omega) (show n ≤ 8 by omega) hy (show c ≤ size by omega)
                  have cf : (oI f = -1) = (f = none) := by
                    cases f with
                    | none => exact propext ⟨fun _ => rfl, fun _ => rfl⟩
                    | some j =>
                      have := nI_n1 (k := j) (by have := hf j rfl; omega)
                      rw [oI, this]
                      exact (eq_false (fun q => by cases q)).symm
                  rw [e185_103]
                  simp only [e185_0, e185_1, e185_4, e185_7, e185_8, e185_9, e185_12, e185_15, e185_16, e185_17, e185_18, e185_21, e185_24, e185_27, e185_29, e185_32, e185_35, e185_37, e185_38, e185_39, e185_40, e185_43, e185_46, e185_47, e185_48, e185_49, e185_50, e185_53, e185_55, e185_56, e185_57, e185_58, e185_59, e185_62, e185_64, e185_65, e185_68, e185_69, e185_70, e185_72, e185_74, e185_77, e185_79, e185_80, e185_82, e185_84, e185_87, e185_89, e185_91, e185_94, e185_96, e185_97, e185_98, e185_100, e185_101, e185_105, e185_107, e185_110, e185_111, e185_113, e185_114, e185_118, e185_120, e185_123, e185_125, e185_127, e185_130, e185_132, e185_134, e185_137, e185_140, e185_142, e185_144, e185_147, e185_149, e185_151, e185_154, e185_156, e185_158, e185_159, e185_161, e185_163, e185_164, e185_167, e185_168, e185_171, e185_172, e185_173, e185_175, e185_178, e185_183, e185_186, e185_187, e185_188, e185_189, e185_191, e185_193, e185_196, e185_197, e185_198, e185_201, e185_202, e185_205, e185_206, e185_208, e185_210, e185_213, e185_215, e185_216, e185_219, e185_221, e185_222, e185_225, e185_227, e185_230, e185_232, e185_234, e185_237, e185_240, e185_242, c1, inn, am_bv_s, am_bw_s, eq_self, true_or, or_true, am_b0, am_b1, am_em, if_true, if_false, true_and, and_true, false_and, and_false, not_true_eq_false, not_false_eq_true, false_or, or_false, Bool.false_eq_true]
                  rw [e185_181]
                  by_cases hp : lI (xn * ch size n) < lI (256 * mS0 size n y e c)
                  · have hP : mP size n y xn e c = true := decide_eq_true hp
                    rw [hP]
                    rw [Nat.mul_comm] at hp
                    rw [Nat.mul_comm 256] at hp
                    have o0 : ((1 : Int32) = 0) = False := eq_false (by decide)
                    by_cases h8 : e = 1
                    · subst h8
                      rw [if_pos ⟨rfl, Or.inl rfl⟩]
                      have h8 : ((1 : Int32) = 1) = True := eq_true rfl
                      simp only [e185_0, e185_1, e185_4, e185_7, e185_8, e185_9, e185_12, e185_15, e185_16, e185_17, e185_18, e185_21, e185_24, e185_27, e185_29, e185_32, e185_35, e185_37, e185_38, e185_39, e185_40, e185_43, e185_46, e185_47, e185_48, e185_49, e185_50, e185_53, e185_55, e185_56, e185_57, e185_58, e185_59, e185_62, e185_64, e185_65, e185_68, e185_69, e185_70, e185_72, e185_74, e185_77, e185_79, e185_80, e185_82, e185_84, e185_87, e185_89, e185_91, e185_94, e185_96, e185_97, e185_98, e185_100, e185_101, e185_105, e185_107, e185_110, e185_111, e185_113, e185_114, e185_118, e185_120, e185_123, e185_125, e185_127, e185_130, e185_132, e185_134, e185_137, e185_140, e185_142, e185_144, e185_147, e185_149, e185_151, e185_154, e185_156, e185_158, e185_159, e185_161, e185_163, e185_164, e185_167, e185_168, e185_171, e185_172, e185_173, e185_175, e185_178, e185_183, e185_186, e185_187, e185_188, e185_189, e185_191, e185_193, e185_196, e185_197, e185_198, e185_201, e185_202, e185_205, e185_206, e185_208, e185_210, e185_213, e185_215, e185_216, e185_219, e185_221, e185_222, e185_225, e185_227, e185_230, e185_232, e185_234, e185_237, e185_240, e185_242, l256, lx, ov, lI_mul, Nat.mul_comm xn, lc_gt, hp, o0, h8, nI_1, am_bv_s, am_bw_s, eq_self, true_or, or_true, am_b0, am_b1, am_em, if_true, if_false, true_and, and_true, false_and, and_false, not_true_eq_false, not_false_eq_true, false_or, or_false, Bool.false_eq_true]
                    · by_cases h9 : f = none
                      · subst h9
                        rw [if_pos ⟨rfl, Or.inr rfl⟩]
                        have h9 : ((none : Option Nat) = none) = True := eq_true rfl
                        simp only [e185_0, e185_1, e185_4, e185_7, e185_8, e185_9, e185_12, e185_15, e185_16, e185_17, e185_18, e185_21, e185_24, e185_27, e185_29, e185_32, e185_35, e185_37, e185_38, e185_39, e185_40, e185_43, e185_46, e185_47, e185_48, e185_49, e185_50, e185_53, e185_55, e185_56, e185_57, e185_58, e185_59, e185_62, e185_64, e185_65, e185_68, e185_69, e185_70, e185_72, e185_74, e185_77, e185_79, e185_80, e185_82, e185_84, e185_87, e185_89, e185_91, e185_94, e185_96, e185_97, e185_98, e185_100, e185_101, e185_105, e185_107, e185_110, e185_111, e185_113, e185_114, e185_118, e185_120, e185_123, e185_125, e185_127, e185_130, e185_132, e185_134, e185_137, e185_140, e185_142, e185_144, e185_147, e185_149, e185_151, e185_154, e185_156, e185_158, e185_159, e185_161, e185_163, e185_164, e185_167, e185_168, e185_171, e185_172, e185_173, e185_175, e185_178, e185_183, e185_186, e185_187, e185_188, e185_189, e185_191, e185_193, e185_196, e185_197, e185_198, e185_201, e185_202, e185_205, e185_206, e185_208, e185_210, e185_213, e185_215, e185_216, e185_219, e185_221, e185_222, e185_225, e185_227, e185_230, e185_232, e185_234, e185_237, e185_240, e185_242, l256, lx, ov, lI_mul, Nat.mul_comm xn, lc_gt, hp, o0, h8, cf, h9, nI_1, am_bv_s, am_bw_s, eq_self, true_or, or_true, am_b0, am_b1, am_em, if_true, if_false, true_and, and_true, false_and, and_false, not_true_eq_false, not_false_eq_true, false_or, or_false, Bool.false_eq_true]
                      · rw [if_neg (fun q => q.2.elim h8 h9)]
                        simp only [e185_0, e185_1, e185_4, e185_7, e185_8, e185_9, e185_12, e185_15, e185_16, e185_17, e185_18, e185_21, e185_24, e185_27, e185_29, e185_32, e185_35, e185_37, e185_38, e185_39, e185_40, e185_43, e185_46, e185_47, e185_48, e185_49, e185_50, e185_53, e185_55, e185_56, e185_57, e185_58, e185_59, e185_62, e185_64, e185_65, e185_68, e185_69, e185_70, e185_72, e185_74, e185_77, e185_79, e185_80, e185_82, e185_84, e185_87, e185_89, e185_91, e185_94, e185_96, e185_97, e185_98, e185_100, e185_101, e185_105, e185_107, e185_110, e185_111, e185_113, e185_114, e185_118, e185_120, e185_123, e185_125, e185_127, e185_130, e185_132, e185_134, e185_137, e185_140, e185_142, e185_144, e185_147, e185_149, e185_151, e185_154, e185_156, e185_158, e185_159, e185_161, e185_163, e185_164, e185_167, e185_168, e185_171, e185_172, e185_173, e185_175, e185_178, e185_183, e185_186, e185_187, e185_188, e185_189, e185_191, e185_193, e185_196, e185_197, e185_198, e185_201, e185_202, e185_205, e185_206, e185_208, e185_210, e185_213, e185_215, e185_216, e185_219, e185_221, e185_222, e185_225, e185_227, e185_230, e185_232, e185_234, e185_237, e185_240, e185_242, l256, lx, ov, lI_mul, Nat.mul_comm xn, lc_gt, hp, o0, h8, cf, h9, nI_1, am_bv_s, am_bw_s, eq_self, true_or, or_true, am_b0, am_b1, am_em, if_true, if_false, true_and, and_true, false_and, and_false, not_true_eq_false, not_false_eq_true, false_or, or_false, Bool.false_eq_true]
                  · have hP : mP size n y xn e c = false := decide_eq_false hp
                    rw [hP, if_neg (fun q => by cases q.1)]
                    rw [Nat.mul_comm] at hp
                    rw [Nat.mul_comm 256] at hp
                    have z0 : ((0 : Int32) = 0) = True := eq_true rfl
                    simp only [e185_0, e185_1, e185_4, e185_7, e185_8, e185_9, e185_12, e185_15, e185_16, e185_17, e185_18, e185_21, e185_24, e185_27, e185_29, e185_32, e185_35, e185_37, e185_38, e185_39, e185_40, e185_43, e185_46, e185_47, e185_48, e185_49, e185_50, e185_53, e185_55, e185_56, e185_57, e185_58, e185_59, e185_62, e185_64, e185_65, e185_68, e185_69, e185_70, e185_72, e185_74, e185_77, e185_79, e185_80, e185_82, e185_84, e185_87, e185_89, e185_91, e185_94, e185_96, e185_97, e185_98, e185_100, e185_101, e185_105, e185_107, e185_110, e185_111, e185_113, e185_114, e185_118, e185_120, e185_123, e185_125, e185_127, e185_130, e185_132, e185_134, e185_137, e185_140, e185_142, e185_144, e185_147, e185_149, e185_151, e185_154, e185_156, e185_158, e185_159, e185_161, e185_163, e185_164, e185_167, e185_168, e185_171, e185_172, e185_173, e185_175, e185_178, e185_183, e185_186, e185_187, e185_188, e185_189, e185_191, e185_193, e185_196, e185_197, e185_198, e185_201, e185_202, e185_205, e185_206, e185_208, e185_210, e185_213, e185_215, e185_216, e185_219, e185_221, e185_222, e185_225, e185_227, e185_230, e185_232, e185_234, e185_237, e185_240, e185_242, l256, lx, ov, lI_mul, Nat.mul_comm xn, lc_gt, hp, z0, nI_1, am_bv_s, am_bw_s, eq_self, true_or, or_true, am_b0, am_b1, am_em, if_true, if_false, true_and, and_true, false_and, and_false, not_true_eq_false, not_false_eq_true, false_or, or_false, Bool.false_eq_true]
                have cn : (nI size < nI (size + 1)) = True := eq_true (nI_lt (by omega) (by omega))
                have fin : ∀ f : Int32, am_e X 185 103 [none, none, none, some (.int (nI xn)), some (.int e), some (.int (nI n)), some (.int (nI y)), some (.int (nI size)), some (.int f), some (.int (nI (size + 1))), none, none, none] [] kS M1 = some (some (.int f), kS, M1) := fun f => by
                  rw [e185_103]
                  simp only [e185_0, e185_1, e185_4, e185_7, e185_8, e185_9, e185_12, e185_15, e185_16, e185_17, e185_18, e185_21, e185_24, e185_27, e185_29, e185_32, e185_35, e185_37, e185_38, e185_39, e185_40, e185_43, e185_46, e185_47, e185_48, e185_49, e185_50, e185_53, e185_55, e185_56, e185_57, e185_58, e185_59, e185_62, e185_64, e185_65, e185_68, e185_69, e185_70, e185_72, e185_74, e185_77, e185_79, e185_80, e185_82, e185_84, e185_87, e185_89, e185_91, e185_94, e185_96, e185_97, e185_98, e185_100, e185_101, e185_105, e185_107, e185_110, e185_111, e185_113, e185_114, e185_118, e185_120, e185_123, e185_125, e185_127, e185_130, e185_132, e185_134, e185_137, e185_140, e185_142, e185_144, e185_147, e185_149, e185_151, e185_154, e185_156, e185_158, e185_159, e185_161, e185_163, e185_164, e185_167, e185_168, e185_171, e185_172, e185_173, e185_175, e185_178, e185_183, e185_186, e185_187, e185_188, e185_189, e185_191, e185_193, e185_196, e185_197, e185_198, e185_201, e185_202, e185_205, e185_206, e185_208, e185_210, e185_213, e185_215, e185_216, e185_219, e185_221, e185_222, e185_225, e185_227, e185_230, e185_232, e185_234, e185_237, e185_240, e185_242, cn, am_bv_s, am_bw_s, eq_self, true_or, or_true, am_b0, am_b1, am_em, if_true, if_false, true_and, and_true, false_and, and_false, not_true_eq_false, not_false_eq_true, false_or, or_false, Bool.false_eq_true]
                have pre : ∀ z, am_e X 185 103 [none, none, none, some (.int (nI xn)), some (.int e), some (.int (nI n)), some (.int (nI y)), some (.int (nI size)), some (.int (-1)), some (.int 0), none, none, none] [] kS M1 = z → am_e X 185 0 [some (.ref (59 : Nat)), some (.int (nI tn)), some (.int (nI bn)), some (.int (nI xn)), some (.int e), none, none, none, none, none, none, none, none] [] kS M = z := fun z hz => by
                  rw [← hz]
                  simp only [e185_0, e185_1, e185_4, e185_7, e185_8, e185_9, e185_12, e185_15, e185_16, e185_17, e185_18, e185_21, e185_24, e185_27, e185_29, e185_32, e185_35, e185_37, e185_38, e185_39, e185_40, e185_43, e185_46, e185_47, e185_48, e185_49, e185_50, e185_53, e185_55, e185_56, e185_57, e185_58, e185_59, e185_62, e185_64, e185_65, e185_68, e185_69, e185_70, e185_72, e185_74, e185_77, e185_79, e185_80, e185_82, e185_84, e185_87, e185_89, e185_91, e185_94, e185_96, e185_97, e185_98, e185_100, e185_101, e185_105, e185_107, e185_110, e185_111, e185_113, e185_114, e185_118, e185_120, e185_123, e185_125, e185_127, e185_130, e185_132, e185_134, e185_137, e185_140, e185_142, e185_144, e185_147, e185_149, e185_151, e185_154, e185_156, e185_158, e185_159, e185_161, e185_163, e185_164, e185_167, e185_168, e185_171, e185_172, e185_173, e185_175, e185_178, e185_183, e185_186, e185_187, e185_188, e185_189, e185_191, e185_193, e185_196, e185_197, e185_198, e185_201, e185_202, e185_205, e185_206, e185_208, e185_210, e185_213, e185_215, e185_216, e185_219, e185_221, e185_222, e185_225, e185_227, e185_230, e185_232, e185_234, e185_237, e185_240, e185_242, s59, s59_0, s59_1, s59_2, s59_3, s59_4, s59_5, s59_6, s59_7, s59_8, s59_9, s59_10, s59_11, s59_12, s59_13, s59_14, s59_15, s59_16, s59_17, s59_18, s59_19, s59_20, s59_21, s59_22, s59_23, s59_24, s59_25, s59_26, s59_27, s59_28, s59_29, s59_30, s59_31, r59_0, r59_1, r59_2, r59_3, r59_6, r59_8, r59_9, r59_13, r59_15, r59_16, r59_17, r59_19, r59_22, r59_23, r59_26, r59_30, r59_31, s60, s61, s62, s63, s64, s65, s66, s67, s68, s69, s70, s71, s72, s73, s74, s75, s76, i1, i2, i3, i4, z10, z01, z1m, zm1, z0m, zm0, y52, r1, qa, qy, cb, sz, c0, h5, c8, h6, cz, h7, a64 (show bn < 6 by omega), am_bv_s, am_bw_s, eq_self, true_or, or_true, am_b0, am_b1, am_em, if_true, if_false, true_and, and_true, false_and, and_false, not_true_eq_false, not_false_eq_true, false_or, or_false, Bool.false_eq_true]
                apply pre
                rcases hw with rfl | rfl
                · rw [if_pos rfl]
                  have fb : ∀ k j, fnd (mP size n y xn 0) k = some j → j < k := by
                    intro k
                    induction k with
                    | zero => intro j h; cases h
                    | succ k ih =>
                      intro j h
                      cases hq : fnd (mP size n y xn 0) k with
                      | some j' =>
                        rw [fnd, hq] at h
                        cases h
                        have := ih _ hq
                        omega
                      | none =>
                        by_cases hp : mP size n y xn 0 k = true
                        · rw [fnd_t hq hp] at h
                          cases h
                          omega
                        · rw [fnd_f hq hp] at h
                          cases h
                  obtain ⟨M', e1, rfl⟩ := am_lp (X := X) (S := kS) (mi := 185) (pc := 103) (size + 1) (fun i => [none, none, none, some (.int (nI xn)), some (.int 0), some (.int (nI n)), some (.int (nI y)), some (.int (nI size)), some (.int (oI (fnd (mP size n y xn 0) i))), some (.int (nI i)), none, none, none])
                    (fun i M' => M' = M1) (M := M1) rfl (by
                      intro j M2 hj hI
                      subst hI
                      refine ⟨M2, ?_, rfl⟩
                      rw [st j _ hj (fun q hq => by have := fb _ _ hq; omega)]
                      have ef : oI (fnd (mP size n y xn 0) (j + 1)) = if mP size n y xn 0 j = true ∧ ((0 : Int32) = 1 ∨ fnd (mP size n y xn 0) j = none) then nI j else oI (fnd (mP size n y xn 0) j) := by
                        cases hq : fnd (mP size n y xn 0) j with
                        | some j' =>
                          rw [fnd_st hq 1, if_neg (fun q => q.2.elim (by decide) (fun z => by cases z))]
                        | none =>
                          by_cases hp : mP size n y xn 0 j = true
                          · rw [fnd_t hq hp, if_pos ⟨hp, Or.inr rfl⟩]
                            rfl
                          · rw [fnd_f hq hp, if_neg (fun q => hp q.1)]
                      rw [ef])
                  rw [fin, nI_0] at e1
                  exact e1
                · rw [if_neg (by decide)]
                  have fb : ∀ k j, lst (mP size n y xn 1) k = some j → j < k := by
                    intro k
                    induction k with
                    | zero => intro j h; cases h
                    | succ k ih =>
                      intro j h
                      rw [lst] at h
                      by_cases hp : mP size n y xn 1 k = true
                      · rw [if_pos hp] at h
                        cases h
                        omega
                      · rw [if_neg hp] at h
                        have := ih j h
                        omega
                  obtain ⟨M', e1, rfl⟩ := am_lp (X := X) (S := kS) (mi := 185) (pc := 103) (size + 1) (fun i => [none, none, none, some (.int (nI xn)), some (.int 1), some (.int (nI n)), some (.int (nI y)), some (.int (nI size)), some (.int (oI (lst (mP size n y xn 1) i))), some (.int (nI i)), none, none, none])
                    (fun i M' => M' = M1) (M := M1) rfl (by
                      intro j M2 hj hI
                      subst hI
                      refine ⟨M2, ?_, rfl⟩
                      rw [st j _ hj (fun q hq => by have := fb _ _ hq; omega)]
                      have ef : oI (lst (mP size n y xn 1) (j + 1)) = if mP size n y xn 1 j = true ∧ ((1 : Int32) = 1 ∨ lst (mP size n y xn 1) j = none) then nI j else oI (lst (mP size n y xn 1) j) := by
                        by_cases hp : mP size n y xn 1 j = true
                        · rw [lst, if_pos hp, if_pos ⟨hp, Or.inl rfl⟩]
                          rfl
                        · rw [lst, if_neg hp, if_neg (fun q => hp q.1)]
                      rw [ef])
                  rw [fin, nI_0] at e1
                  exact e1
        · rw [am_bf h4] at i4
          rw [if_neg (fun q => h4 q.2.2)]
          refine ⟨M, ?_, hx, am_of.rf⟩
          simp only [e185_0, e185_1, e185_4, e185_7, e185_8, e185_9, e185_12, e185_15, e185_16, e185_17, e185_18, e185_21, e185_24, e185_27, e185_29, e185_32, e185_35, e185_37, e185_38, e185_39, e185_40, e185_43, e185_46, e185_47, e185_48, e185_49, e185_50, e185_53, e185_55, e185_56, e185_57, e185_58, e185_59, e185_62, e185_64, e185_65, e185_68, e185_69, e185_70, e185_72, e185_74, e185_77, e185_79, e185_80, e185_82, e185_84, e185_87, e185_89, e185_91, e185_94, e185_96, e185_97, e185_98, e185_100, e185_101, e185_105, e185_107, e185_110, e185_111, e185_113, e185_114, e185_118, e185_120, e185_123, e185_125, e185_127, e185_130, e185_132, e185_134, e185_137, e185_140, e185_142, e185_144, e185_147, e185_149, e185_151, e185_154, e185_156, e185_158, e185_159, e185_161, e185_163, e185_164, e185_167, e185_168, e185_171, e185_172, e185_173, e185_175, e185_178, e185_183, e185_186, e185_187, e185_188, e185_189, e185_191, e185_193, e185_196, e185_197, e185_198, e185_201, e185_202, e185_205, e185_206, e185_208, e185_210, e185_213, e185_215, e185_216, e185_219, e185_221, e185_222, e185_225, e185_227, e185_230, e185_232, e185_234, e185_237, e185_240, e185_242, s59, s59_0, s59_1, s59_2, s59_3, s59_4, s59_5, s59_6, s59_7, s59_8, s59_9, s59_10, s59_11, s59_12, s59_13, s59_14, s59_15, s59_16, s59_17, s59_18, s59_19, s59_20, s59_21, s59_22, s59_23, s59_24, s59_25, s59_26, s59_27, s59_28, s59_29, s59_30, s59_31, r59_0, r59_1, r59_2, r59_3, r59_6, r59_8, r59_9, r59_13, r59_15, r59_16, r59_17, r59_19, r59_22, r59_23, r59_26, r59_30, r59_31, s60, s61, s62, s63, s64, s65, s66, s67, s68, s69, s70, s71, s72, s73, s74, s75, s76, i1, i2, i3, i4, z10, z01, z1m, zm1, z0m, zm0, am_bv_s, am_bw_s, eq_self, true_or, or_true, am_b0, am_b1, am_em, if_true, if_false, true_and, and_true, false_and, and_false, not_true_eq_false, not_false_eq_true, false_or, or_false, Bool.false_eq_true]
      · rw [am_bf h3] at i3
        rw [if_neg (fun q => h3 q.2.1)]
        refine ⟨M, ?_, hx, am_of.rf⟩
        simp only [e185_0, e185_1, e185_4, e185_7, e185_8, e185_9, e185_12, e185_15, e185_16, e185_17, e185_18, e185_21, e185_24, e185_27, e185_29, e185_32, e185_35, e185_37, e185_38, e185_39, e185_40, e185_43, e185_46, e185_47, e185_48, e185_49, e185_50, e185_53, e185_55, e185_56, e185_57, e185_58, e185_59, e185_62, e185_64, e185_65, e185_68, e185_69, e185_70, e185_72, e185_74, e185_77, e185_79, e185_80, e185_82, e185_84, e185_87, e185_89, e185_91, e185_94, e185_96, e185_97, e185_98, e185_100, e185_101, e185_105, e185_107, e185_110, e185_111, e185_113, e185_114, e185_118, e185_120, e185_123, e185_125, e185_127, e185_130, e185_132, e185_134, e185_137, e185_140, e185_142, e185_144, e185_147, e185_149, e185_151, e185_154, e185_156, e185_158, e185_159, e185_161, e185_163, e185_164, e185_167, e185_168, e185_171, e185_172, e185_173, e185_175, e185_178, e185_183, e185_186, e185_187, e185_188, e185_189, e185_191, e185_193, e185_196, e185_197, e185_198, e185_201, e185_202, e185_205, e185_206, e185_208, e185_210, e185_213, e185_215, e185_216, e185_219, e185_221, e185_222, e185_225, e185_227, e185_230, e185_232, e185_234, e185_237, e185_240, e185_242, s59, s59_0, s59_1, s59_2, s59_3, s59_4, s59_5, s59_6, s59_7, s59_8, s59_9, s59_10, s59_11, s59_12, s59_13, s59_14, s59_15, s59_16, s59_17, s59_18, s59_19, s59_20, s59_21, s59_22, s59_23, s59_24, s59_25, s59_26, s59_27, s59_28, s59_29, s59_30, s59_31, r59_0, r59_1, r59_2, r59_3, r59_6, r59_8, r59_9, r59_13, r59_15, r59_16, r59_17, r59_19, r59_22, r59_23, r59_26, r59_30, r59_31, s60, s61, s62, s63, s64, s65, s66, s67, s68, s69, s70, s71, s72, s73, s74, s75, s76, i1, i2, i3, z10, z01, z1m, zm1, z0m, zm0, am_bv_s, am_bw_s, eq_self, true_or, or_true, am_b0, am_b1, am_em, if_true, if_false, true_and, and_true, false_and, and_false, not_true_eq_false, not_false_eq_true, false_or, or_false, Bool.false_eq_true]
    · rw [am_bf h2] at i2
      rw [if_neg (fun q => h2 q.1.2)]
      refine ⟨M, ?_, hx, am_of.rf⟩
      simp only [e185_0, e185_1, e185_4, e185_7, e185_8, e185_9, e185_12, e185_15, e185_16, e185_17, e185_18, e185_21, e185_24, e185_27, e185_29, e185_32, e185_35, e185_37, e185_38, e185_39, e185_40, e185_43, e185_46, e185_47, e185_48, e185_49, e185_50, e185_53, e185_55, e185_56, e185_57, e185_58, e185_59, e185_62, e185_64, e185_65, e185_68, e185_69, e185_70, e185_72, e185_74, e185_77, e185_79, e185_80, e185_82, e185_84, e185_87, e185_89, e185_91, e185_94, e185_96, e185_97, e185_98, e185_100, e185_101, e185_105, e185_107, e185_110, e185_111, e185_113, e185_114, e185_118, e185_120, e185_123, e185_125, e185_127, e185_130, e185_132, e185_134, e185_137, e185_140, e185_142, e185_144, e185_147, e185_149, e185_151, e185_154, e185_156, e185_158, e185_159, e185_161, e185_163, e185_164, e185_167, e185_168, e185_171, e185_172, e185_173, e185_175, e185_178, e185_183, e185_186, e185_187, e185_188, e185_189, e185_191, e185_193, e185_196, e185_197, e185_198, e185_201, e185_202, e185_205, e185_206, e185_208, e185_210, e185_213, e185_215, e185_216, e185_219, e185_221, e185_222, e185_225, e185_227, e185_230, e185_232, e185_234, e185_237, e185_240, e185_242, s59, s59_0, s59_1, s59_2, s59_3, s59_4, s59_5, s59_6, s59_7, s59_8, s59_9, s59_10, s59_11, s59_12, s59_13, s59_14, s59_15, s59_16, s59_17, s59_18, s59_19, s59_20, s59_21, s59_22, s59_23, s59_24, s59_25, s59_26, s59_27, s59_28, s59_29, s59_30, s59_31, r59_0, r59_1, r59_2, r59_3, r59_6, r59_8, r59_9, r59_13, r59_15, r59_16, r59_17, r59_19, r59_22, r59_23, r59_26, r59_30, r59_31, s60, s61, s62, s63, s64, s65, s66, s67, s68, s69, s70, s71, s72, s73, s74, s75, s76, i1, i2, z10, z01, z1m, zm1, z0m, zm0, am_bv_s, am_bw_s, eq_self, true_or, or_true, am_b0, am_b1, am_em, if_true, if_false, true_and, and_true, false_and, and_false, not_true_eq_false, not_false_eq_true, false_or, or_false, Bool.false_eq_true]
  · rw [am_bf h1] at i1
    rw [if_neg (fun q => h1 q.1.1)]
    refine ⟨M, ?_, hx, am_of.rf⟩
    simp only [e185_0, e185_1, e185_4, e185_7, e185_8, e185_9, e185_12, e185_15, e185_16, e185_17, e185_18, e185_21, e185_24, e185_27, e185_29, e185_32, e185_35, e185_37, e185_38, e185_39, e185_40, e185_43, e185_46, e185_47, e185_48, e185_49, e185_50, e185_53, e185_55, e185_56, e185_57, e185_58, e185_59, e185_62, e185_64, e185_65, e185_68, e185_69, e185_70, e185_72, e185_74, e185_77, e185_79, e185_80, e185_82, e185_84, e185_87, e185_89, e185_91, e185_94, e185_96, e185_97, e185_98, e185_100, e185_101, e185_105, e185_107, e185_110, e185_111, e185_113, e185_114, e185_118, e185_120, e185_123, e185_125, e185_127, e185_130, e185_132, e185_134, e185_137, e185_140, e185_142, e185_144, e185_147, e185_149, e185_151, e185_154, e185_156, e185_158, e185_159, e185_161, e185_163, e185_164, e185_167, e185_168, e185_171, e185_172, e185_173, e185_175, e185_178, e185_183, e185_186, e185_187, e185_188, e185_189, e185_191, e185_193, e185_196, e185_197, e185_198, e185_201, e185_202, e185_205, e185_206, e185_208, e185_210, e185_213, e185_215, e185_216, e185_219, e185_221, e185_222, e185_225, e185_227, e185_230, e185_232, e185_234, e185_237, e185_240, e185_242, s59, s59_0, s59_1, s59_2, s59_3, s59_4, s59_5, s59_6, s59_7, s59_8, s59_9, s59_10, s59_11, s59_12, s59_13, s59_14, s59_15, s59_16, s59_17, s59_18, s59_19, s59_20, s59_21, s59_22, s59_23, s59_24, s59_25, s59_26, s59_27, s59_28, s59_29, s59_30, s59_31, r59_0, r59_1, r59_2, r59_3, r59_6, r59_8, r59_9, r59_13, r59_15, r59_16, r59_17, r59_19, r59_22, r59_23, r59_26, r59_30, r59_31, s60, s61, s62, s63, s64, s65, s66, s67, s68, s69, s70, s71, s72, s73, s74, s75, s76, i1, z10, z01, z1m, zm1, z0m, zm0, am_bv_s, am_bw_s, eq_self, true_or, or_true, am_b0, am_b1, am_em, if_true, if_false, true_and, and_true, false_and, and_false, not_true_eq_false, not_false_eq_true, false_or, or_false, Bool.false_eq_true]
end
