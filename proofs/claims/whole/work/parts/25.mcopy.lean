/-! the reference's copy -/
section
variable {X : am_X} {S : am_Sh} {M : am_Me} {h : sgH}
theorem am_setA_id {a : Nat} {f : Nat → Int32} (hf : ∀ j, f j = M.1 a j) : am_setA M a f = M := by
  refine Prod.ext (funext fun b => funext fun j => ?_) rfl
  rw [gA]
  by_cases hb : b = a
  · rw [if_pos hb, hf j, hb]
  · rw [if_neg hb]
theorem am_setA_c {a : Nat} {f g : Nat → Int32} (hf : ∀ j, f j = g j) : am_setA M a f = am_setA M a g := by rw [show f = g from funext hf]
theorem am_setAI {a k : Nat} {v : Int32} {f : Nat → Int32} : am_setA (am_setI M a k v) a f = am_setA M a f := by
  refine Prod.ext (funext fun b => funext fun j => ?_) rfl
  rw [gA, gA]
  by_cases hb : b = a
  · rw [if_pos hb, if_pos hb]
  · rw [if_neg hb, if_neg hb, gI, if_neg (fun q => hb q.1)]
theorem m_copy1 {s i t j n : Nat} (hs : s < 4) (hi : i + n ≤ 60) : ∀ (k q : Nat) (vq : Int32) (M : am_Me), q + k = n → vq = nI q → am_e X 150 120 [some (.ref (59 : Nat)), some (.int (nI s)), some (.int (nI i)), some (.int (nI t)), some (.int (nI j)), some (.int (nI n)), some (.int vq)] [] kS M = am_e X 150 154 [some (.ref (59 : Nat)), some (.int (nI s)), some (.int (nI i)), some (.int (nI t)), some (.int (nI j)), some (.int (nI n)), some (.int (nI n))] [] kS (am_setA M 63 (fun p => if q ≤ p ∧ p < n then M.1 62 (60 * s + i + p) else M.1 63 p)) := by
  intro k
  induction k with
  | zero =>
    intro q vq M hk hv
    subst hv
    obtain rfl : q = n := by omega
    have hc : (nI q < nI q) = False := eq_false (nI_nlt (by omega) (by omega))
    rw [e150_120]
    simp only [e150_0, e150_1, e150_4, e150_7, e150_8, e150_11, e150_14, e150_16, e150_17, e150_18, e150_21, e150_22, e150_23, e150_26, e150_27, e150_30, e150_31, e150_32, e150_35, e150_36, e150_37, e150_40, e150_41, e150_42, e150_45, e150_46, e150_47, e150_48, e150_51, e150_52, e150_53, e150_56, e150_57, e150_58, e150_61, e150_62, e150_63, e150_66, e150_68, e150_71, e150_73, e150_76, e150_77, e150_78, e150_80, e150_81, e150_82, e150_83, e150_86, e150_87, e150_88, e150_89, e150_90, e150_93, e150_95, e150_96, e150_98, e150_99, e150_100, e150_101, e150_104, e150_105, e150_106, e150_107, e150_108, e150_111, e150_112, e150_113, e150_116, e150_117, e150_118, e150_122, e150_124, e150_127, e150_128, e150_131, e150_133, e150_134, e150_137, e150_139, e150_140, e150_141, e150_142, e150_143, e150_145, e150_146, e150_147, e150_148, e150_151, e150_155, e150_157, e150_159, e150_161, e150_164, e150_165, e150_168, e150_170, e150_171, e150_172, e150_174, e150_175, e150_177, e150_178, e150_179, e150_182, e150_184, e150_185, e150_186, e150_189, e150_192, e150_193, hc, am_bv_s, am_bw_s, eq_self, true_or, or_true, am_b0, am_b1, am_em, if_true, if_false, true_and, and_true, false_and, and_false, not_true_eq_false, not_false_eq_true, false_or, or_false, Bool.false_eq_true]
    rw [am_setA_id (fun p => by rw [if_neg (by omega)])]
  | succ k ih =>
    intro q vq M hk hv
    subst hv
    have hc : (nI q < nI n) = True := eq_true (nI_lt (by omega) (by omega))
    have hcl : (nI (60 * s + i + q)).toNatClampNeg = 60 * s + i + q := nI_clamp (by omega)
    have hcl2 : (nI q).toNatClampNeg = q := nI_clamp (by omega)
    rw [e150_120]
    simp only [e150_0, e150_1, e150_4, e150_7, e150_8, e150_11, e150_14, e150_16, e150_17, e150_18, e150_21, e150_22, e150_23, e150_26, e150_27, e150_30, e150_31, e150_32, e150_35, e150_36, e150_37, e150_40, e150_41, e150_42, e150_45, e150_46, e150_47, e150_48, e150_51, e150_52, e150_53, e150_56, e150_57, e150_58, e150_61, e150_62, e150_63, e150_66, e150_68, e150_71, e150_73, e150_76, e150_77, e150_78, e150_80, e150_81, e150_82, e150_83, e150_86, e150_87, e150_88, e150_89, e150_90, e150_93, e150_95, e150_96, e150_98, e150_99, e150_100, e150_101, e150_104, e150_105, e150_106, e150_107, e150_108, e150_111, e150_112, e150_113, e150_116, e150_117, e150_118, e150_122, e150_124, e150_127, e150_128, e150_131, e150_133, e150_134, e150_137, e150_139, e150_140, e150_141, e150_142, e150_143, e150_145, e150_146, e150_147, e150_148, e150_151, e150_155, e150_157, e150_159, e150_161, e150_164, e150_165, e150_168, e150_170, e150_171, e150_172, e150_174, e150_175, e150_177, e150_178, e150_179, e150_182, e150_184, e150_185, e150_186, e150_189, e150_192, e150_193, s59, s59_0, s59_1, s59_2, s59_3, s59_4, s59_5, s59_6, s59_7, s59_8, s59_9, s59_10, s59_11, s59_12, s59_13, s59_14, s59_15, s59_16, s59_17, s59_18, s59_19, s59_20, s59_21, s59_22, s59_23, s59_24, s59_25, s59_26, s59_27, s59_28, s59_29, s59_30, s59_31, r59_0, r59_1, r59_2, r59_3, r59_6, r59_8, r59_9, r59_13, r59_15, r59_16, r59_17, r59_19, r59_22, r59_23, r59_26, r59_30, r59_31, s60, s61, s62, s63, s64, s65, s66, s67, s68, s69, s70, s71, s72, s73, s74, s75, s76, hc, c60, nI_add, nI_1, hcl, hcl2, a62 (show 60 * s + i + q < 240 by omega), a63 (show q < 60 by omega), am_bv_s, am_bw_s, eq_self, true_or, or_true, am_b0, am_b1, am_em, if_true, if_false, true_and, and_true, false_and, and_false, not_true_eq_false, not_false_eq_true, false_or, or_false, Bool.false_eq_true]
    rw [ih (q + 1) _ _ (by omega) rfl, am_setAI]
    refine congrArg (fun z => am_e X 150 154 _ [] kS z) (am_setA_c fun p => ?_)
    by_cases h1 : q + 1 ≤ p ∧ p < n
    · rw [if_pos h1, if_pos (by omega), gI, if_neg (by omega)]
    · rw [if_neg h1, gI]
      by_cases h2 : p = q
      · rw [if_pos ⟨rfl, h2⟩, if_pos (by omega), h2]
      · rw [if_neg (fun z => h2 z.2), if_neg (by omega)]
theorem m_copy2 {t j n : Nat} (ht : t < 4) (hj : j + n ≤ 60) : ∀ (k q : Nat) (vq : Int32) (M : am_Me), q + k = n → vq = nI q → am_e X 150 157 [some (.ref (59 : Nat)), none, none, some (.int (nI t)), some (.int (nI j)), some (.int (nI n)), some (.int vq)] [] kS M = some (some (.int 1), kS, am_setA M 62 (fun p => if 60 * t + j + q ≤ p ∧ p < 60 * t + j + n then M.1 63 (p - (60 * t + j)) else M.1 62 p)) := by
  intro k
  induction k with
  | zero =>
    intro q vq M hk hv
    subst hv
    obtain rfl : q = n := by omega
    have hc : (nI q < nI q) = False := eq_false (nI_nlt (by omega) (by omega))
    rw [e150_157]
    simp only [e150_0, e150_1, e150_4, e150_7, e150_8, e150_11, e150_14, e150_16, e150_17, e150_18, e150_21, e150_22, e150_23, e150_26, e150_27, e150_30, e150_31, e150_32, e150_35, e150_36, e150_37, e150_40, e150_41, e150_42, e150_45, e150_46, e150_47, e150_48, e150_51, e150_52, e150_53, e150_56, e150_57, e150_58, e150_61, e150_62, e150_63, e150_66, e150_68, e150_71, e150_73, e150_76, e150_77, e150_78, e150_80, e150_81, e150_82, e150_83, e150_86, e150_87, e150_88, e150_89, e150_90, e150_93, e150_95, e150_96, e150_98, e150_99, e150_100, e150_101, e150_104, e150_105, e150_106, e150_107, e150_108, e150_111, e150_112, e150_113, e150_116, e150_117, e150_118, e150_120, e150_122, e150_124, e150_127, e150_128, e150_131, e150_133, e150_134, e150_137, e150_139, e150_140, e150_141, e150_142, e150_143, e150_145, e150_146, e150_147, e150_148, e150_151, e150_154, e150_155, e150_159, e150_161, e150_164, e150_165, e150_168, e150_170, e150_171, e150_172, e150_174, e150_175, e150_177, e150_178, e150_179, e150_182, e150_184, e150_185, e150_186, e150_189, e150_192, e150_193, hc, am_bv_s, am_bw_s, eq_self, true_or, or_true, am_b0, am_b1, am_em, if_true, if_false, true_and, and_true, false_and, and_false, not_true_eq_false, not_false_eq_true, false_or, or_false, Bool.false_eq_true]
    rw [am_setA_id (fun p => by rw [if_neg (by omega)])]
  | succ k ih =>
    intro q vq M hk hv
    subst hv
    have hc : (nI q < nI n) = True := eq_true (nI_lt (by omega) (by omega))
    have hcl : (nI (60 * t + j + q)).toNatClampNeg = 60 * t + j + q := nI_clamp (by omega)
    have hcl2 : (nI q).toNatClampNeg = q := nI_clamp (by omega)
    rw [e150_157]
    simp only [e150_0, e150_1, e150_4, e150_7, e150_8, e150_11, e150_14, e150_16, e150_17, e150_18, e150_21, e150_22, e150_23, e150_26, e150_27, e150_30, e150_31, e150_32, e150_35, e150_36, e150_37, e150_40, e150_41, e150_42, e150_45, e150_46, e150_47, e150_48, e150_51, e150_52, e150_53, e150_56, e150_57, e150_58, e150_61, e150_62, e150_63, e150_66, e150_68, e150_71, e150_73, e150_76, e150_77, e150_78, e150_80, e150_81, e150_82, e150_83, e150_86, e150_87, e150_88, e150_89, e150_90, e150_93, e150_95, e150_96, e150_98, e150_99, e150_100, e150_101, e150_104, e150_105, e150_106, e150_107, e150_108, e150_111, e150_112, e150_113, e150_116, e150_117, e150_118, e150_120, e150_122, e150_124, e150_127, e150_128, e150_131, e150_133, e150_134, e150_137, e150_139, e150_140, e150_141, e150_142, e150_143, e150_145, e150_146, e150_147, e150_148, e150_151, e150_154, e150_155, e150_159, e150_161, e150_164, e150_165, e150_168, e150_170, e150_171, e150_172, e150_174, e150_175, e150_177, e150_178, e150_179, e150_182, e150_184, e150_185, e150_186, e150_189, e150_192, e150_193, s59, s59_0, s59_1, s59_2, s59_3, s59_4, s59_5, s59_6, s59_7, s59_8, s59_9, s59_10, s59_11, s59_12, s59_13, s59_14, s59_15, s59_16, s59_17, s59_18, s59_19, s59_20, s59_21, s59_22, s59_23, s59_24, s59_25, s59_26, s59_27, s59_28, s59_29, s59_30, s59_31, r59_0, r59_1, r59_2, r59_3, r59_6, r59_8, r59_9, r59_13, r59_15, r59_16, r59_17, r59_19, r59_22, r59_23, r59_26, r59_30, r59_31, s60, s61, s62, s63, s64, s65, s66, s67, s68, s69, s70, s71, s72, s73, s74, s75, s76, hc, c60, nI_add, nI_1, hcl, hcl2, a62 (show 60 * t + j + q < 240 by omega), a63 (show q < 60 by omega), am_bv_s, am_bw_s, eq_self, true_or, or_true, am_b0, am_b1, am_em, if_true, if_false, true_and, and_true, false_and, and_false, not_true_eq_false, not_false_eq_true, false_or, or_false, Bool.false_eq_true]
    rw [ih (q + 1) _ _ (by omega) rfl, am_setAI]
    refine congrArg (fun z => some (some (Value.int 1), kS, z)) (am_setA_c fun p => ?_)
    by_cases h1 : 60 * t + j + (q + 1) ≤ p ∧ p < 60 * t + j + n
    · rw [if_pos h1, if_pos (by omega), gI, if_neg (by omega)]
    · rw [if_neg h1, gI]
      by_cases h2 : p = 60 * t + j + q
      · rw [if_pos ⟨rfl, h2⟩, if_pos (by omega), h2, show 60 * t + j + q - (60 * t + j) = q by omega]
      · rw [if_neg (fun z => h2 z.2), if_neg (by omega)]
theorem mH.cpy {s t i j n : Nat} (hx : mH h M) (hs : s < 4) (ht : t < 4) (ho : okH h) (hl1 : h.1 s = false) (hi : i + n ≤ h.2.2.1 s) (hj : j + n ≤ h.2.2.1 t) {M' : am_Me} (hM : ∀ a k, a ≠ 62 → a ≠ 63 → M'.1 a k = M.1 a k) (hI : ∀ p, M'.1 62 p = if 60 * t + j ≤ p ∧ p < 60 * t + j + n then M.1 62 (60 * s + i + (p - (60 * t + j))) else M.1 62 p) : mH (hCpy h s t i j n) M' := by
  refine ⟨by rw [hM _ _ (by omega) (by omega)]; exact hx.1, fun u hu => ?_⟩
  obtain ⟨h1, h2⟩ := hx.2 u hu
  refine ⟨by rw [hM _ _ (by omega) (by omega)]; exact h1, fun hl => ⟨by rw [hM _ _ (by omega) (by omega)]; exact (h2 hl).1, fun q hq => ?_⟩⟩
  have hq' : q < h.2.2.1 u := hq
  have hz := (ho.2 u hu).2
  have hz2 := (ho.2 t ht).2
  rw [hI]
  by_cases e : u = t ∧ j ≤ q ∧ q < j + n
  · rw [if_pos (by omega), show 60 * s + i + (60 * u + q - (60 * t + j)) = 60 * s + (i + (q - j)) by omega, ((hx.2 s hs).2 hl1).2 _ (by omega)]
    simp [hCpy, e]
  · rw [if_neg (by omega), (h2 hl).2 q hq']
    simp [hCpy, e]
theorem wd_sum (x i n : Int32) : (x.toInt64 < i.toInt64 + n.toInt64) = (x.toInt < i.toInt + n.toInt) := propext (by
  have h1 := Int32.toInt_lt i
  have h2 := Int32.le_toInt i
  have h3 := Int32.toInt_lt n
  have h4 := Int32.le_toInt n
  rw [Int64.lt_iff_toInt_lt, Jvm.Kit.i64_add (by rw [Int32.toInt_toInt64, Int32.toInt_toInt64]; omega) (by rw [Int32.toInt_toInt64, Int32.toInt_toInt64]; omega), Int32.toInt_toInt64, Int32.toInt_toInt64, Int32.toInt_toInt64])
theorem m_copy (hx : mH h M) (ho : okH h) (s i t j n : Int32) : ∃ M', am_e X 150 0 [some (.ref (59 : Nat)), some (.int s), some (.int i), some (.int t), some (.int j), some (.int n), none] [] kS M = some (some (.int (sp_copy h s i t j n).1), kS, M') ∧ mH (sp_copy h s i t j n).2 M' ∧ am_of pmH M M' := by
  unfold sp_copy
  by_cases h1 : 0 ≤ s ∧ s ≤ 3
  · by_cases h2 : 0 ≤ t ∧ t ≤ 3
    · rw [if_pos ⟨h1, h2⟩]
      obtain ⟨t', ht, rfl⟩ := in_nat (n := 3) h1.1 h1.2 (by decide)
      obtain ⟨u, hu, rfl⟩ := in_nat (n := 3) h2.1 h2.2 (by decide)
      have hc := nI_clamp (n := t') (by omega)
      have hc2 := nI_clamp (n := u) (by omega)
      rw [hc, hc2]
      have ht4 : t' < 4 := by omega
      have hu4 : u < 4 := by omega
      obtain ⟨g1, g2⟩ := hx.2 t' ht4
      obtain ⟨g3, g4⟩ := hx.2 u hu4
      have hz1 := ho.2 t' ht4
      have hz2 := ho.2 u hu4
      have cm : ((-1 : Int32) < 0) = True := eq_true (by decide)
      have c1 : (nI (h.2.1 t') < 0) = False := eq_false (nI_pos (by omega))
      have c2 : (nI (h.2.1 u) < 0) = False := eq_false (nI_pos (by omega))
      by_cases h0 : sp_cf h t' u i j n = 0
      · rw [if_pos h0]
        obtain ⟨k1, k2, k3, a, b, c, rfl, rfl, rfl, k4, k5⟩ := sp_cf_0 ho ht4 hu4 h0
        rw [nI_clamp (n := a) (by omega), nI_clamp (n := b) (by omega), nI_clamp (n := c) (by omega)]
        have l1 : ¬ h.1 t' = true := by rw [k1]; simp
        have l2 : ¬ h.1 u = true := by rw [k2]; simp
        rw [if_neg l1] at g1
        rw [if_neg l2] at g3
        have z1 : (nI a < 0) = False := eq_false (nI_pos (by omega))
        have z2 : (nI b < 0) = False := eq_false (nI_pos (by omega))
        have z3 : (nI c < 0) = False := eq_false (nI_pos (by omega))
        have w1 : ((nI (h.2.2.1 t')).toInt64 < (nI a).toInt64 + (nI c).toInt64) = False := eq_false (by
          rw [wd_sum, nI_toInt (by omega), nI_toInt (by omega), nI_toInt (by omega)]
          omega)
        have w2 : ((nI (h.2.2.1 u)).toInt64 < (nI b).toInt64 + (nI c).toInt64) = False := eq_false (by
          rw [wd_sum, nI_toInt (by omega), nI_toInt (by omega), nI_toInt (by omega)]
          omega)
        have run : am_e X 150 0 [some (.ref (59 : Nat)), some (.int (nI t')), some (.int (nI a)), some (.int (nI u)), some (.int (nI b)), some (.int (nI c)), none] [] kS M = am_e X 150 120 [some (.ref (59 : Nat)), some (.int (nI t')), some (.int (nI a)), some (.int (nI u)), some (.int (nI b)), some (.int (nI c)), some (.int 0)] [] kS M := by
          simp only [e150_0, e150_1, e150_4, e150_7, e150_8, e150_11, e150_14, e150_16, e150_17, e150_18, e150_21, e150_22, e150_23, e150_26, e150_27, e150_30, e150_31, e150_32, e150_35, e150_36, e150_37, e150_40, e150_41, e150_42, e150_45, e150_46, e150_47, e150_48, e150_51, e150_52, e150_53, e150_56, e150_57, e150_58, e150_61, e150_62, e150_63, e150_66, e150_68, e150_71, e150_73, e150_76, e150_77, e150_78, e150_80, e150_81, e150_82, e150_83, e150_86, e150_87, e150_88, e150_89, e150_90, e150_93, e150_95, e150_96, e150_98, e150_99, e150_100, e150_101, e150_104, e150_105, e150_106, e150_107, e150_108, e150_111, e150_112, e150_113, e150_116, e150_117, e150_118, e150_122, e150_124, e150_127, e150_128, e150_131, e150_133, e150_134, e150_137, e150_139, e150_140, e150_141, e150_142, e150_143, e150_145, e150_146, e150_147, e150_148, e150_151, e150_154, e150_155, e150_157, e150_159, e150_161, e150_164, e150_165, e150_168, e150_170, e150_171, e150_172, e150_174, e150_175, e150_177, e150_178, e150_179, e150_182, e150_184, e150_185, e150_186, e150_189, e150_192, e150_193, s59, s59_0, s59_1, s59_2, s59_3, s59_4, s59_5, s59_6, s59_7, s59_8, s59_9, s59_10, s59_11, s59_12, s59_13, s59_14, s59_15, s59_16, s59_17, s59_18, s59_19, s59_20, s59_21, s59_22, s59_23, s59_24, s59_25, s59_26, s59_27, s59_28, s59_29, s59_30, s59_31, r59_0, r59_1, r59_2, r59_3, r59_6, r59_8, r59_9, r59_13, r59_15, r59_16, r59_17, r59_19, r59_22, r59_23, r59_26, r59_30, r59_31, s60, s61, s62, s63, s64, s65, s66, s67, s68, s69, s70, s71, s72, s73, s74, s75, s76, m_isSheet, a60 ht4, a60 hu4, a61 ht4, a61 hu4, hc, hc2, g1, g3, k3, c1, c2, (g2 k1).1, (g4 k2).1, z1, z2, z3, w1, w2, lc_gt, h1, h2, am_bv_s, am_bw_s, eq_self, true_or, or_true, am_b0, am_b1, am_em, if_true, if_false, true_and, and_true, false_and, and_false, not_true_eq_false, not_false_eq_true, false_or, or_false, Bool.false_eq_true]
        rw [run, m_copy1 ht4 (by omega) c 0 0 M (by omega) nI_0.symm]
        simp only [e150_154, e150_155]
        rw [m_copy2 hu4 (by omega) c 0 0 _ (by omega) nI_0.symm]
        refine ⟨_, rfl, hx.cpy ht4 hu4 ho k1 k4 k5 (fun a' k' n1 n2 => ?_) (fun p => ?_), (am_of.rf.sA (fun _ => Or.inl (Or.inr (by omega)))).sA (fun _ => Or.inl (Or.inr (by omega)))⟩
        · rw [gA, if_neg n1, gA, if_neg n2]
        · rw [gA, if_pos rfl]
          by_cases e : 60 * u + b ≤ p ∧ p < 60 * u + b + c
          · rw [if_pos (by omega), if_pos e, gA, if_pos rfl, if_pos (by omega)]
          · rw [if_neg (by omega), if_neg e, gA, if_neg (by omega)]
      · rw [if_neg h0]
        refine ⟨am_setI M 59 4 (nI (sp_cf h t' u i j n)), ?_, hx.fd, am_of.rf.sI (Or.inl ⟨rfl, rfl⟩)⟩
        unfold sp_cf at h0 ⊢
        by_cases l1 : h.1 t' = true
        · rw [if_pos l1] at g1
          rw [if_pos (Or.inl l1)]
          simp only [e150_0, e150_1, e150_4, e150_7, e150_8, e150_11, e150_14, e150_16, e150_17, e150_18, e150_21, e150_22, e150_23, e150_26, e150_27, e150_30, e150_31, e150_32, e150_35, e150_36, e150_37, e150_40, e150_41, e150_42, e150_45, e150_46, e150_47, e150_48, e150_51, e150_52, e150_53, e150_56, e150_57, e150_58, e150_61, e150_62, e150_63, e150_66, e150_68, e150_71, e150_73, e150_76, e150_77, e150_78, e150_80, e150_81, e150_82, e150_83, e150_86, e150_87, e150_88, e150_89, e150_90, e150_93, e150_95, e150_96, e150_98, e150_99, e150_100, e150_101, e150_104, e150_105, e150_106, e150_107, e150_108, e150_111, e150_112, e150_113, e150_116, e150_117, e150_118, e150_122, e150_124, e150_127, e150_128, e150_131, e150_133, e150_134, e150_137, e150_139, e150_140, e150_141, e150_142, e150_143, e150_145, e150_146, e150_147, e150_148, e150_151, e150_154, e150_155, e150_157, e150_159, e150_161, e150_164, e150_165, e150_168, e150_170, e150_171, e150_172, e150_174, e150_175, e150_177, e150_178, e150_179, e150_182, e150_184, e150_185, e150_186, e150_189, e150_192, e150_193, s59, s59_0, s59_1, s59_2, s59_3, s59_4, s59_5, s59_6, s59_7, s59_8, s59_9, s59_10, s59_11, s59_12, s59_13, s59_14, s59_15, s59_16, s59_17, s59_18, s59_19, s59_20, s59_21, s59_22, s59_23, s59_24, s59_25, s59_26, s59_27, s59_28, s59_29, s59_30, s59_31, r59_0, r59_1, r59_2, r59_3, r59_6, r59_8, r59_9, r59_13, r59_15, r59_16, r59_17, r59_19, r59_22, r59_23, r59_26, r59_30, r59_31, s60, s61, s62, s63, s64, s65, s66, s67, s68, s69, s70, s71, s72, s73, s74, s75, s76, m_isSheet, m_met, a60 ht4, a60 hu4, hc, hc2, g1, cm, h1, h2, am_bv_s, am_bw_s, eq_self, true_or, or_true, am_b0, am_b1, am_em, if_true, if_false, true_and, and_true, false_and, and_false, not_true_eq_false, not_false_eq_true, false_or, or_false, Bool.false_eq_true]
          rfl
        · rw [if_neg l1] at g1
          by_cases l2 : h.1 u = true
          · rw [if_pos l2] at g3
            rw [if_pos (Or.inr l2)]
            simp only [e150_0, e150_1, e150_4, e150_7, e150_8, e150_11, e150_14, e150_16, e150_17, e150_18, e150_21, e150_22, e150_23, e150_26, e150_27, e150_30, e150_31, e150_32, e150_35, e150_36, e150_37, e150_40, e150_41, e150_42, e150_45, e150_46, e150_47, e150_48, e150_51, e150_52, e150_53, e150_56, e150_57, e150_58, e150_61, e150_62, e150_63, e150_66, e150_68, e150_71, e150_73, e150_76, e150_77, e150_78, e150_80, e150_81, e150_82, e150_83, e150_86, e150_87, e150_88, e150_89, e150_90, e150_93, e150_95, e150_96, e150_98, e150_99, e150_100, e150_101, e150_104, e150_105, e150_106, e150_107, e150_108, e150_111, e150_112, e150_113, e150_116, e150_117, e150_118, e150_122, e150_124, e150_127, e150_128, e150_131, e150_133, e150_134, e150_137, e150_139, e150_140, e150_141, e150_142, e150_143, e150_145, e150_146, e150_147, e150_148, e150_151, e150_154, e150_155, e150_157, e150_159, e150_161, e150_164, e150_165, e150_168, e150_170, e150_171, e150_172, e150_174, e150_175, e150_177, e150_178, e150_179, e150_182, e150_184, e150_185, e150_186, e150_189, e150_192, e150_193, s59, s59_0, s59_1, s59_2, s59_3, s59_4, s59_5, s59_6, s59_7, s59_8, s59_9, s59_10, s59_11, s59_12, s59_13, s59_14, s59_15, s59_16, s59_17, s59_18, s59_19, s59_20, s59_21, s59_22, s59_23, s59_24, s59_25, s59_26, s59_27, s59_28, s59_29, s59_30, s59_31, r59_0, r59_1, r59_2, r59_3, r59_6, r59_8, r59_9, r59_13, r59_15, r59_16, r59_17, r59_19, r59_22, r59_23, r59_26, r59_30, r59_31, s60, s61, s62, s63, s64, s65, s66, s67, s68, s69, s70, s71, s72, s73, s74, s75, s76, m_isSheet, m_met, a60 ht4, a60 hu4, hc, hc2, g1, g3, c1, cm, h1, h2, am_bv_s, am_bw_s, eq_self, true_or, or_true, am_b0, am_b1, am_em, if_true, if_false, true_and, and_true, false_and, and_false, not_true_eq_false, not_false_eq_true, false_or, or_false, Bool.false_eq_true]
            rfl
          · rw [if_neg l2] at g3
            have k1 : h.1 t' = false := by simpa using l1
            have k2 : h.1 u = false := by simpa using l2
            have d2 : ¬ (h.1 t' = true ∨ h.1 u = true) := fun q => q.elim l1 l2
            rw [if_neg d2] at h0 ⊢
            by_cases l3 : h.2.1 t' = h.2.1 u
            · rw [if_pos l3] at h0 ⊢
              by_cases l4 : (0 ≤ i ∧ 0 ≤ j ∧ 0 ≤ n) ∧ i.toInt + n.toInt ≤ h.2.2.1 t' ∧ j.toInt + n.toInt ≤ h.2.2.1 u
              · rw [if_pos l4] at h0
                exact absurd rfl h0
              · rw [if_neg l4]
                by_cases y1 : i < 0
                · simp only [e150_0, e150_1, e150_4, e150_7, e150_8, e150_11, e150_14, e150_16, e150_17, e150_18, e150_21, e150_22, e150_23, e150_26, e150_27, e150_30, e150_31, e150_32, e150_35, e150_36, e150_37, e150_40, e150_41, e150_42, e150_45, e150_46, e150_47, e150_48, e150_51, e150_52, e150_53, e150_56, e150_57, e150_58, e150_61, e150_62, e150_63, e150_66, e150_68, e150_71, e150_73, e150_76, e150_77, e150_78, e150_80, e150_81, e150_82, e150_83, e150_86, e150_87, e150_88, e150_89, e150_90, e150_93, e150_95, e150_96, e150_98, e150_99, e150_100, e150_101, e150_104, e150_105, e150_106, e150_107, e150_108, e150_111, e150_112, e150_113, e150_116, e150_117, e150_118, e150_122, e150_124, e150_127, e150_128, e150_131, e150_133, e150_134, e150_137, e150_139, e150_140, e150_141, e150_142, e150_143, e150_145, e150_146, e150_147, e150_148, e150_151, e150_154, e150_155, e150_157, e150_159, e150_161, e150_164, e150_165, e150_168, e150_170, e150_171, e150_172, e150_174, e150_175, e150_177, e150_178, e150_179, e150_182, e150_184, e150_185, e150_186, e150_189, e150_192, e150_193, s59, s59_0, s59_1, s59_2, s59_3, s59_4, s59_5, s59_6, s59_7, s59_8, s59_9, s59_10, s59_11, s59_12, s59_13, s59_14, s59_15, s59_16, s59_17, s59_18, s59_19, s59_20, s59_21, s59_22, s59_23, s59_24, s59_25, s59_26, s59_27, s59_28, s59_29, s59_30, s59_31, r59_0, r59_1, r59_2, r59_3, r59_6, r59_8, r59_9, r59_13, r59_15, r59_16, r59_17, r59_19, r59_22, r59_23, r59_26, r59_30, r59_31, s60, s61, s62, s63, s64, s65, s66, s67, s68, s69, s70, s71, s72, s73, s74, s75, s76, m_isSheet, m_met, a60 ht4, a60 hu4, hc, hc2, g1, g3, l3, c1, c2, y1, h1, h2, am_bv_s, am_bw_s, eq_self, true_or, or_true, am_b0, am_b1, am_em, if_true, if_false, true_and, and_true, false_and, and_false, not_true_eq_false, not_false_eq_true, false_or, or_false, Bool.false_eq_true]
                  rfl
                · by_cases y2 : j < 0
                  · simp only [e150_0, e150_1, e150_4, e150_7, e150_8, e150_11, e150_14, e150_16, e150_17, e150_18, e150_21, e150_22, e150_23, e150_26, e150_27, e150_30, e150_31, e150_32, e150_35, e150_36, e150_37, e150_40, e150_41, e150_42, e150_45, e150_46, e150_47, e150_48, e150_51, e150_52, e150_53, e150_56, e150_57, e150_58, e150_61, e150_62, e150_63, e150_66, e150_68, e150_71, e150_73, e150_76, e150_77, e150_78, e150_80, e150_81, e150_82, e150_83, e150_86, e150_87, e150_88, e150_89, e150_90, e150_93, e150_95, e150_96, e150_98, e150_99, e150_100, e150_101, e150_104, e150_105, e150_106, e150_107, e150_108, e150_111, e150_112, e150_113, e150_116, e150_117, e150_118, e150_122, e150_124, e150_127, e150_128, e150_131, e150_133, e150_134, e150_137, e150_139, e150_140, e150_141, e150_142, e150_143, e150_145, e150_146, e150_147, e150_148, e150_151, e150_154, e150_155, e150_157, e150_159, e150_161, e150_164, e150_165, e150_168, e150_170, e150_171, e150_172, e150_174, e150_175, e150_177, e150_178, e150_179, e150_182, e150_184, e150_185, e150_186, e150_189, e150_192, e150_193, s59, s59_0, s59_1, s59_2, s59_3, s59_4, s59_5, s59_6, s59_7, s59_8, s59_9, s59_10, s59_11, s59_12, s59_13, s59_14, s59_15, s59_16, s59_17, s59_18, s59_19, s59_20, s59_21, s59_22, s59_23, s59_24, s59_25, s59_26, s59_27, s59_28, s59_29, s59_30, s59_31, r59_0, r59_1, r59_2, r59_3, r59_6, r59_8, r59_9, r59_13, r59_15, r59_16, r59_17, r59_19, r59_22, r59_23, r59_26, r59_30, r59_31, s60, s61, s62, s63, s64, s65, s66, s67, s68, s69, s70, s71, s72, s73, s74, s75, s76, m_isSheet, m_met, a60 ht4, a60 hu4, hc, hc2, g1, g3, l3, c1, c2, y1, y2, h1, h2, am_bv_s, am_bw_s, eq_self, true_or, or_true, am_b0, am_b1, am_em, if_true, if_false, true_and, and_true, false_and, and_false, not_true_eq_false, not_false_eq_true, false_or, or_false, Bool.false_eq_true]
                    rfl
                  · by_cases y3 : n < 0
                    · simp only [e150_0, e150_1, e150_4, e150_7, e150_8, e150_11, e150_14, e150_16, e150_17, e150_18, e150_21, e150_22, e150_23, e150_26, e150_27, e150_30, e150_31, e150_32, e150_35, e150_36, e150_37, e150_40, e150_41, e150_42, e150_45, e150_46, e150_47, e150_48, e150_51, e150_52, e150_53, e150_56, e150_57, e150_58, e150_61, e150_62, e150_63, e150_66, e150_68, e150_71, e150_73, e150_76, e150_77, e150_78, e150_80, e150_81, e150_82, e150_83, e150_86, e150_87, e150_88, e150_89, e150_90, e150_93, e150_95, e150_96, e150_98, e150_99, e150_100, e150_101, e150_104, e150_105, e150_106, e150_107, e150_108, e150_111, e150_112, e150_113, e150_116, e150_117, e150_118, e150_122, e150_124, e150_127, e150_128, e150_131, e150_133, e150_134, e150_137, e150_139, e150_140, e150_141, e150_142, e150_143, e150_145, e150_146, e150_147, e150_148, e150_151, e150_154, e150_155, e150_157, e150_159, e150_161, e150_164, e150_165, e150_168, e150_170, e150_171, e150_172, e150_174, e150_175, e150_177, e150_178, e150_179, e150_182, e150_184, e150_185, e150_186, e150_189, e150_192, e150_193, s59, s59_0, s59_1, s59_2, s59_3, s59_4, s59_5, s59_6, s59_7, s59_8, s59_9, s59_10, s59_11, s59_12, s59_13, s59_14, s59_15, s59_16, s59_17, s59_18, s59_19, s59_20, s59_21, s59_22, s59_23, s59_24, s59_25, s59_26, s59_27, s59_28, s59_29, s59_30, s59_31, r59_0, r59_1, r59_2, r59_3, r59_6, r59_8, r59_9, r59_13, r59_15, r59_16, r59_17, r59_19, r59_22, r59_23, r59_26, r59_30, r59_31, s60, s61, s62, s63, s64, s65, s66, s67, s68, s69, s70, s71, s72, s73, s74, s75, s76, m_isSheet, m_met, a60 ht4, a60 hu4, hc, hc2, g1, g3, l3, c1, c2, y1, y2, y3, h1, h2, am_bv_s, am_bw_s, eq_self, true_or, or_true, am_b0, am_b1, am_em, if_true, if_false, true_and, and_true, false_and, and_false, not_true_eq_false, not_false_eq_true, false_or, or_false, Bool.false_eq_true]
                      rfl
                    · have q1 := nI_toInt (n := h.2.2.1 t') (by omega)
                      have q2 := nI_toInt (n := h.2.2.1 u) (by omega)
                      by_cases y4 : (h.2.2.1 t' : Int) < i.toInt + n.toInt
                      · have w1 : ((nI (h.2.2.1 t')).toInt64 < i.toInt64 + n.toInt64) = True := eq_true (by rw [wd_sum, q1]; exact y4)
                        simp only [e150_0, e150_1, e150_4, e150_7, e150_8, e150_11, e150_14, e150_16, e150_17, e150_18, e150_21, e150_22, e150_23, e150_26, e150_27, e150_30, e150_31, e150_32, e150_35, e150_36, e150_37, e150_40, e150_41, e150_42, e150_45, e150_46, e150_47, e150_48, e150_51, e150_52, e150_53, e150_56, e150_57, e150_58, e150_61, e150_62, e150_63, e150_66, e150_68, e150_71, e150_73, e150_76, e150_77, e150_78, e150_80, e150_81, e150_82, e150_83, e150_86, e150_87, e150_88, e150_89, e150_90, e150_93, e150_95, e150_96, e150_98, e150_99, e150_100, e150_101, e150_104, e150_105, e150_106, e150_107, e150_108, e150_111, e150_112, e150_113, e150_116, e150_117, e150_118, e150_122, e150_124, e150_127, e150_128, e150_131, e150_133, e150_134, e150_137, e150_139, e150_140, e150_141, e150_142, e150_143, e150_145, e150_146, e150_147, e150_148, e150_151, e150_154, e150_155, e150_157, e150_159, e150_161, e150_164, e150_165, e150_168, e150_170, e150_171, e150_172, e150_174, e150_175, e150_177, e150_178, e150_179, e150_182, e150_184, e150_185, e150_186, e150_189, e150_192, e150_193, s59, s59_0, s59_1, s59_2, s59_3, s59_4, s59_5, s59_6, s59_7, s59_8, s59_9, s59_10, s59_11, s59_12, s59_13, s59_14, s59_15, s59_16, s59_17, s59_18, s59_19, s59_20, s59_21, s59_22, s59_23, s59_24, s59_25, s59_26, s59_27, s59_28, s59_29, s59_30, s59_31, r59_0, r59_1, r59_2, r59_3, r59_6, r59_8, r59_9, r59_13, r59_15, r59_16, r59_17, r59_19, r59_22, r59_23, r59_26, r59_30, r59_31, s60, s61, s62, s63, s64, s65, s66, s67, s68, s69, s70, s71, s72, s73, s74, s75, s76, m_isSheet, m_met, a60 ht4, a60 hu4, a61 ht4, a61 hu4, hc, hc2, g1, g3, l3, c1, c2, y1, y2, y3, (g2 k1).1, (g4 k2).1, w1, lc_gt, h1, h2, am_bv_s, am_bw_s, eq_self, true_or, or_true, am_b0, am_b1, am_em, if_true, if_false, true_and, and_true, false_and, and_false, not_true_eq_false, not_false_eq_true, false_or, or_false, Bool.false_eq_true]
                        rfl
                      · have y5 : (h.2.2.1 u : Int) < j.toInt + n.toInt := by
                          rcases Int.lt_or_le (h.2.2.1 u : Int) (j.toInt + n.toInt) with z | z
                          · exact z
                          · exact absurd ⟨⟨Int32.not_lt.mp y1, Int32.not_lt.mp y2, Int32.not_lt.mp y3⟩, by omega, z⟩ l4
                        have w1 : ((nI (h.2.2.1 t')).toInt64 < i.toInt64 + n.toInt64) = False := eq_false (by rw [wd_sum, q1]; exact y4)
                        have w2 : ((nI (h.2.2.1 u)).toInt64 < j.toInt64 + n.toInt64) = True := eq_true (by rw [wd_sum, q2]; exact y5)
                        simp only [e150_0, e150_1, e150_4, e150_7, e150_8, e150_11, e150_14, e150_16, e150_17, e150_18, e150_21, e150_22, e150_23, e150_26, e150_27, e150_30, e150_31, e150_32, e150_35, e150_36, e150_37, e150_40, e150_41, e150_42, e150_45, e150_46, e150_47, e150_48, e150_51, e150_52, e150_53, e150_56, e150_57, e150_58, e150_61, e150_62, e150_63, e150_66, e150_68, e150_71, e150_73, e150_76, e150_77, e150_78, e150_80, e150_81, e150_82, e150_83, e150_86, e150_87, e150_88, e150_89, e150_90, e150_93, e150_95, e150_96, e150_98, e150_99, e150_100, e150_101, e150_104, e150_105, e150_106, e150_107, e150_108, e150_111, e150_112, e150_113, e150_116, e150_117, e150_118, e150_122, e150_124, e150_127, e150_128, e150_131, e150_133, e150_134, e150_137, e150_139, e150_140, e150_141, e150_142, e150_143, e150_145, e150_146, e150_147, e150_148, e150_151, e150_154, e150_155, e150_157, e150_159, e150_161, e150_164, e150_165, e150_168, e150_170, e150_171, e150_172, e150_174, e150_175, e150_177, e150_178, e150_179, e150_182, e150_184, e150_185, e150_186, e150_189, e150_192, e150_193, s59, s59_0, s59_1, s59_2, s59_3, s59_4, s59_5, s59_6, s59_7, s59_8, s59_9, s59_10, s59_11, s59_12, s59_13, s59_14, s59_15, s59_16, s59_17, s59_18, s59_19, s59_20, s59_21, s59_22, s59_23, s59_24, s59_25, s59_26, s59_27, s59_28, s59_29, s59_30, s59_31, r59_0, r59_1, r59_2, r59_3, r59_6, r59_8, r59_9, r59_13, r59_15, r59_16, r59_17, r59_19, r59_22, r59_23, r59_26, r59_30, r59_31, s60, s61, s62, s63, s64, s65, s66, s67, s68, s69, s70, s71, s72, s73, s74, s75, s76, m_isSheet, m_met, a60 ht4, a60 hu4, a61 ht4, a61 hu4, hc, hc2, g1, g3, l3, c1, c2, y1, y2, y3, (g2 k1).1, (g4 k2).1, w1, w2, lc_gt, h1, h2, am_bv_s, am_bw_s, eq_self, true_or, or_true, am_b0, am_b1, am_em, if_true, if_false, true_and, and_true, false_and, and_false, not_true_eq_false, not_false_eq_true, false_or, or_false, Bool.false_eq_true]
                        rfl
            · rw [if_neg l3]
              have d3 : (nI (h.2.1 t') = nI (h.2.1 u)) = False := eq_false (by rw [nI_eq (by omega) (by omega)]; exact l3)
              simp only [e150_0, e150_1, e150_4, e150_7, e150_8, e150_11, e150_14, e150_16, e150_17, e150_18, e150_21, e150_22, e150_23, e150_26, e150_27, e150_30, e150_31, e150_32, e150_35, e150_36, e150_37, e150_40, e150_41, e150_42, e150_45, e150_46, e150_47, e150_48, e150_51, e150_52, e150_53, e150_56, e150_57, e150_58, e150_61, e150_62, e150_63, e150_66, e150_68, e150_71, e150_73, e150_76, e150_77, e150_78, e150_80, e150_81, e150_82, e150_83, e150_86, e150_87, e150_88, e150_89, e150_90, e150_93, e150_95, e150_96, e150_98, e150_99, e150_100, e150_101, e150_104, e150_105, e150_106, e150_107, e150_108, e150_111, e150_112, e150_113, e150_116, e150_117, e150_118, e150_122, e150_124, e150_127, e150_128, e150_131, e150_133, e150_134, e150_137, e150_139, e150_140, e150_141, e150_142, e150_143, e150_145, e150_146, e150_147, e150_148, e150_151, e150_154, e150_155, e150_157, e150_159, e150_161, e150_164, e150_165, e150_168, e150_170, e150_171, e150_172, e150_174, e150_175, e150_177, e150_178, e150_179, e150_182, e150_184, e150_185, e150_186, e150_189, e150_192, e150_193, s59, s59_0, s59_1, s59_2, s59_3, s59_4, s59_5, s59_6, s59_7, s59_8, s59_9, s59_10, s59_11, s59_12, s59_13, s59_14, s59_15, s59_16, s59_17, s59_18, s59_19, s59_20, s59_21, s59_22, s59_23, s59_24, s59_25, s59_26, s59_27, s59_28, s59_29, s59_30, s59_31, r59_0, r59_1, r59_2, r59_3, r59_6, r59_8, r59_9, r59_13, r59_15, r59_16, r59_17, r59_19, r59_22, r59_23, r59_26, r59_30, r59_31, s60, s61, s62, s63, s64, s65, s66, s67, s68, s69, s70, s71, s72, s73, s74, s75, s76, m_isSheet, m_met, a60 ht4, a60 hu4, hc, hc2, g1, g3, c1, c2, d3, h1, h2, am_bv_s, am_bw_s, eq_self, true_or, or_true, am_b0, am_b1, am_em, if_true, if_false, true_and, and_true, false_and, and_false, not_true_eq_false, not_false_eq_true, false_or, or_false, Bool.false_eq_true]
              rfl
    · rw [if_neg (fun q => h2 q.2)]
      exact ⟨M, by simp only [e150_0, e150_1, e150_4, e150_7, e150_8, e150_11, e150_14, e150_16, e150_17, e150_18, e150_21, e150_22, e150_23, e150_26, e150_27, e150_30, e150_31, e150_32, e150_35, e150_36, e150_37, e150_40, e150_41, e150_42, e150_45, e150_46, e150_47, e150_48, e150_51, e150_52, e150_53, e150_56, e150_57, e150_58, e150_61, e150_62, e150_63, e150_66, e150_68, e150_71, e150_73, e150_76, e150_77, e150_78, e150_80, e150_81, e150_82, e150_83, e150_86, e150_87, e150_88, e150_89, e150_90, e150_93, e150_95, e150_96, e150_98, e150_99, e150_100, e150_101, e150_104, e150_105, e150_106, e150_107, e150_108, e150_111, e150_112, e150_113, e150_116, e150_117, e150_118, e150_122, e150_124, e150_127, e150_128, e150_131, e150_133, e150_134, e150_137, e150_139, e150_140, e150_141, e150_142, e150_143, e150_145, e150_146, e150_147, e150_148, e150_151, e150_154, e150_155, e150_157, e150_159, e150_161, e150_164, e150_165, e150_168, e150_170, e150_171, e150_172, e150_174, e150_175, e150_177, e150_178, e150_179, e150_182, e150_184, e150_185, e150_186, e150_189, e150_192, e150_193, m_isSheet, h1, h2, am_bv_s, am_bw_s, eq_self, true_or, or_true, am_b0, am_b1, am_em, if_true, if_false, true_and, and_true, false_and, and_false, not_true_eq_false, not_false_eq_true, false_or, or_false, Bool.false_eq_true], hx, am_of.rf⟩
  · rw [if_neg (fun q => h1 q.1)]
    exact ⟨M, by simp only [e150_0, e150_1, e150_4, e150_7, e150_8, e150_11, e150_14, e150_16, e150_17, e150_18, e150_21, e150_22, e150_23, e150_26, e150_27, e150_30, e150_31, e150_32, e150_35, e150_36, e150_37, e150_40, e150_41, e150_42, e150_45, e150_46, e150_47, e150_48, e150_51, e150_52, e150_53, e150_56, e150_57, e150_58, e150_61, e150_62, e150_63, e150_66, e150_68, e150_71, e150_73, e150_76, e150_77, e150_78, e150_80, e150_81, e150_82, e150_83, e150_86, e150_87, e150_88, e150_89, e150_90, e150_93, e150_95, e150_96, e150_98, e150_99, e150_100, e150_101, e150_104, e150_105, e150_106, e150_107, e150_108, e150_111, e150_112, e150_113, e150_116, e150_117, e150_118, e150_122, e150_124, e150_127, e150_128, e150_131, e150_133, e150_134, e150_137, e150_139, e150_140, e150_141, e150_142, e150_143, e150_145, e150_146, e150_147, e150_148, e150_151, e150_154, e150_155, e150_157, e150_159, e150_161, e150_164, e150_165, e150_168, e150_170, e150_171, e150_172, e150_174, e150_175, e150_177, e150_178, e150_179, e150_182, e150_184, e150_185, e150_186, e150_189, e150_192, e150_193, m_isSheet, h1, am_bv_s, am_bw_s, eq_self, true_or, or_true, am_b0, am_b1, am_em, if_true, if_false, true_and, and_true, false_and, and_false, not_true_eq_false, not_false_eq_true, false_or, or_false, Bool.false_eq_true], hx, am_of.rf⟩
end
