/-! the reference: learnt, count -/
theorem z40 : ((40 : Int32) = 0) = False := eq_false (by decide)
theorem nI_mod {k : Nat} (hk : k < 2 ^ 31) : nI k - nI k / 40 * 40 = nI (k % 40) := by
  have t1 := nI_toInt hk
  have t40 : (40 : Int32).toInt = 40 := by decide
  have d : nI k / 40 = nI (k / 40) := by
    apply Int32.toInt_inj.mp
    rw [Jvm.Kit.i32_div (by rw [t40]; omega), t1, t40, nI_toInt (by omega)]
    exact (Int.tdiv_eq_ediv_of_nonneg (by omega))
  rw [d, show nI (k / 40) * 40 = nI (k / 40 * 40) from pk_mul (k / 40) 40, pk_sub (by omega)]
  congr 1
  omega
theorem cnt_bl (p : Nat → Prop) [∀ i, Decidable (p i)] (b : Nat) : ∀ n, cnt p (b + n) = cnt p b + cnt (fun i => p (b + i)) n
  | 0 => by rw [Nat.add_zero]; rfl
  | n + 1 => by
    rw [show b + (n + 1) = (b + n) + 1 from rfl, cnt, cnt, cnt_bl p b n, Nat.add_assoc]
theorem cnt_gr (p : Nat → Prop) [∀ i, Decidable (p i)] (b : Nat) : ∀ n, cnt p (b * n) = sm (fun t => cnt (fun i => p (b * t + i)) b) n
  | 0 => rfl
  | n + 1 => by
    rw [Nat.mul_succ, cnt_bl, cnt_gr p b n, sm]
theorem cnt_lt (q : Nat → Prop) [∀ i, Decidable (q i)] (m : Nat) : ∀ n, m ≤ n → cnt (fun w => w < m ∧ q w) n = cnt q m := by
  intro n hn
  induction n with
  | zero =>
    obtain rfl : m = 0 := by omega
    rfl
  | succ n ih =>
    by_cases e : m = n + 1
    · subst e
      exact cnt_c _ (fun i hi => ⟨fun h => h.2, fun h => ⟨hi, h⟩⟩)
    · rw [cnt_s0 (fun h => by omega)]
      exact ih (by omega)
theorem sm_1 {j : Nat} {f : Nat → Nat} (hf : ∀ k, f k = if j = k then 1 else 0) : ∀ n, sm f n = if j < n then 1 else 0
  | 0 => by rw [if_neg (by omega)]; rfl
  | n + 1 => by
    rw [sm, sm_1 hf n, hf n]
    by_cases h1 : j < n
    · rw [if_pos h1, if_neg (by omega), if_pos (by omega)]
    · by_cases h2 : j = n
      · rw [if_neg h1, if_pos h2, if_pos (by omega)]
      · rw [if_neg h1, if_neg h2, if_neg (by omega)]
theorem sm_add {f g : Nat → Nat} : ∀ n, sm (fun k => f k + g k) n = sm f n + sm g n
  | 0 => rfl
  | n + 1 => by
    rw [sm, sm, sm, sm_add n]
    omega
theorem cnt_ks {kd : Nat → Nat} {q : Nat → Prop} [∀ i, Decidable (q i)] : ∀ n, (∀ i, i < n → kd i ≤ 6) → sm (fun k => cnt (fun w => kd w = k ∧ q w) n) 7 = cnt q n
  | 0, _ => rfl
  | n + 1, h => by
    have ih := cnt_ks (kd := kd) (q := q) n (fun i hi => h i (by omega))
    have e : sm (fun k => cnt (fun w => kd w = k ∧ q w) (n + 1)) 7 = sm (fun k => cnt (fun w => kd w = k ∧ q w) n + (if kd n = k ∧ q n then 1 else 0)) 7 := rfl
    rw [e, sm_add, ih, cnt]
    congr 1
    by_cases hq : q n
    · rw [if_pos hq, sm_1 (j := kd n) (fun k => by
        by_cases e2 : kd n = k
        · rw [if_pos ⟨e2, hq⟩, if_pos e2]
        · rw [if_neg (fun z => e2 z.1), if_neg e2]), if_pos (by have := h n (by omega); omega)]
    · rw [if_neg hq, sm_c (g := fun _ => 0) 7 (fun k _ => if_neg (fun z => hq z.2))]
      rfl
theorem sAll_cnt {nb : Nat} (hb : nb ≤ 6) {l : sgL} {A : sgA} : cnt (fun k => k % 40 < (ps nb l).2.1 ∧ sd A A.2.2.2.2.2 (k / 40) (k % 40) ≠ -1) 160 = sAll nb l A := by
  have h40 := ps_le (l := l) hb
  rw [show 160 = 40 * 4 from rfl, cnt_gr, sAll]
  refine sm_c 4 (fun t ht => ?_)
  rw [show sm (fun k => sAs nb l A t k) 7 = sm (fun k => cnt (fun w => (ps nb l).2.2 w = k ∧ sd A A.2.2.2.2.2 t w ≠ -1) (ps nb l).2.1) 7 from rfl, cnt_ks _ h40.2, ← cnt_lt _ _ 40 h40.1]
  refine cnt_c _ (fun i hi => ?_)
  rw [show (40 * t + i) % 40 = i by omega, show (40 * t + i) / 40 = t by omega]
section
variable {X : am_X} {S : am_Sh} {M M' : am_Me} {P : Nat → Nat → Prop} {s : sgm}
theorem m_learnt (hx : JM s M) (ho : okm s) (t f g w : Int32) : ∃ M', am_e X 211 0 [some (.ref (59 : Nat)), some (.int t), some (.int f), some (.int g), some (.int w), none, none, none] [] kS M = some (some (.int (sp_ln s t f g w)), kS, M') ∧ JM s M' ∧ am_of pM M M' := by
  have i1 := m_isTaker (X := X) (S := kS) (M := M) t
  have i2 := q_in (X := X) (S := kS) (M := M) f 0 g (by decide : (0 : Int32).toInt64 = 0) rfl
  have i3 := m_isTime (X := X) (S := kS) (M := M) g
  have i4 := q_in (X := X) (S := kS) (M := M) w 0 2 (by decide : (0 : Int32).toInt64 = 0) (by decide : (2 : Int32).toInt64 = 2)
  unfold sp_ln
  by_cases h1 : 0 ≤ t ∧ t ≤ 3
  · rw [am_bt h1] at i1
    by_cases h3 : 0 ≤ g ∧ g ≤ 999
    · rw [am_bt h3] at i3
      by_cases h2 : 0 ≤ f ∧ f ≤ g
      · rw [am_bt h2] at i2
        by_cases h4 : 0 ≤ w ∧ w ≤ 2
        · rw [am_bt h4] at i4
          rw [if_pos ⟨h1, ⟨h2.1, Int32.le_trans h2.2 h3.2⟩, h3, Int32.not_lt.mpr h2.2, h4⟩]
          obtain ⟨c, hc, rfl⟩ := in_n (n := 999) h3 (by decide)
          obtain ⟨a, ha, rfl⟩ := in_n (n := 3) h1 (by decide)
          obtain ⟨b, hb, rfl⟩ := in_n h2 (by omega)
          obtain ⟨d, hd, rfl⟩ := in_n (n := 2) h4 (by decide)
          rw [nI_clamp (n := a) (by omega), nI_clamp (n := b) (by omega), nI_clamp (n := c) (by omega), nI_clamp (n := d) (by omega)]
          obtain ⟨M1, r1, j1, w1, s1, of1⟩ := m_findSaid (X := X) hx ho (tm := b) (by omega)
          obtain ⟨M2, e2, g2, of2⟩ := am_lp (X := X) (S := kS) (mi := 211) (pc := 49) 160 (fun i => [some (.ref (59 : Nat)), some (.int (nI a)), none, some (.int (nI c)), some (.int (nI d)), some (.int (nI i)), none, none])
            (fun i M' => (∀ q, q < i → M'.1 76 q = M1.1 71 q) ∧ am_of (fun a _ => a = 76) M1 M') (M := M1) ⟨fun q hq => absurd hq (Nat.not_lt_zero _), am_of.rf⟩ (by
              intro j M2 hj hI
              obtain ⟨i1, i2⟩ := hI
              have c1 : (nI j < 160) = True := eq_true (nI_lt (b := 160) hj (by decide))
              have cj : (nI j).toNatClampNeg = j := nI_clamp (by omega)
              refine ⟨am_setI M2 76 j (M2.1 71 j), ?_, fun q hq => ?_, i2.sI rfl⟩
              · rw [e211_49]
                simp only [e211_0, e211_1, e211_4, e211_7, e211_8, e211_11, e211_14, e211_15, e211_16, e211_17, e211_18, e211_19, e211_22, e211_25, e211_27, e211_28, e211_29, e211_32, e211_35, e211_38, e211_40, e211_41, e211_42, e211_43, e211_46, e211_47, e211_51, e211_54, e211_57, e211_58, e211_61, e211_63, e211_64, e211_67, e211_69, e211_70, e211_71, e211_74, e211_77, e211_78, e211_79, e211_82, e211_83, e211_85, e211_86, e211_90, e211_91, e211_94, e211_97, e211_98, e211_101, e211_103, e211_104, e211_105, e211_107, e211_108, e211_109, e211_111, e211_114, e211_115, e211_118, e211_119, e211_122, e211_123, e211_126, e211_128, e211_129, e211_130, e211_132, e211_133, e211_134, e211_136, e211_137, e211_140, e211_141, e211_144, e211_145, e211_148, e211_149, e211_152, e211_153, e211_155, e211_157, e211_159, e211_162, e211_163, e211_166, e211_168, e211_169, e211_171, e211_174, e211_175, e211_178, e211_179, e211_180, e211_182, e211_185, e211_188, e211_190, s59, s59_0, s59_1, s59_2, s59_3, s59_4, s59_5, s59_6, s59_7, s59_8, s59_9, s59_10, s59_11, s59_12, s59_13, s59_14, s59_15, s59_16, s59_17, s59_18, s59_19, s59_20, s59_21, s59_22, s59_23, s59_24, s59_25, s59_26, s59_27, s59_28, s59_29, s59_30, s59_31, r59_0, r59_1, r59_2, r59_3, r59_6, r59_8, r59_9, r59_13, r59_15, r59_16, r59_17, r59_19, r59_22, r59_23, r59_26, r59_30, r59_31, s60, s61, s62, s63, s64, s65, s66, s67, s68, s69, s70, s71, s72, s73, s74, s75, s76, c1, cj, a71 hj, a76 hj, nI_1, am_bv_s, am_bw_s, eq_self, true_or, or_true, am_b0, am_b1, am_em, if_true, if_false, true_and, and_true, false_and, and_false, not_true_eq_false, not_false_eq_true, false_or, or_false, Bool.false_eq_true]
              · rw [gI]
                by_cases e : q = j
                · rw [if_pos ⟨rfl, e⟩, e]; exact (i2 _ _ (by omega)).1
                · rw [if_neg (fun z => e z.2)]; exact i1 q (by omega))
          have j2 : JM s M2 := j1.of of2 (fun a k q => by unfold pR; omega)
          obtain ⟨M3, r3, j3, w3, s3, of3⟩ := m_findSaid (X := X) j2 ho (tm := c) (by omega)
          have bv : ∀ j, j < 40 → M3.1 76 (40 * a + j) = sd s.2.2.2.2 b a j := fun j hj => ((of3 _ _ (by unfold pmS pmW; omega)).1).trans ((g2 _ (by omega)).trans (s1 a (by omega) j hj))
          have h40 := ps_le (l := s.2.2.2.1) ho.2.1.1
          have hd3 : ∃ u v : Int32, ((d = 0 ∧ u = 0 ∧ v = 1) ∨ (d = 1 ∧ u = 1 ∧ v = 0) ∨ (d = 2 ∧ u = 1 ∧ v = 1)) ∧ u = (if d = 0 then 0 else 1) ∧ v = (if d = 1 then 0 else 1) := by
            have d3 : d = 0 ∨ d = 1 ∨ d = 2 := by omega
            rcases d3 with rfl | rfl | rfl
            · exact ⟨0, 1, Or.inl ⟨rfl, rfl, rfl⟩, rfl, rfl⟩
            · exact ⟨1, 0, Or.inr (Or.inl ⟨rfl, rfl, rfl⟩), rfl, rfl⟩
            · exact ⟨1, 1, Or.inr (Or.inr ⟨rfl, rfl, rfl⟩), rfl, rfl⟩
          obtain ⟨u, v, hd3, hu, hv⟩ := hd3
          unfold sLn
          rw [← hu, ← hv]
          have a4 : a < 4 := by omega
          obtain ⟨M4, e4, g4⟩ := am_lp (X := X) (S := kS) (mi := 211) (pc := 88) (ps s.2.1.1 s.2.2.2.1).2.1 (fun i => [some (.ref (59 : Nat)), some (.int (nI a)), none, none, some (.int (nI d)), some (.int (nI (cnt (fun w => (ps s.2.1.1 s.2.2.2.1).2.2 w ≠ 6 ∧ sd s.2.2.2.2 b a w = u ∧ sd s.2.2.2.2 c a w = v) i))), some (.int (nI i)), none])
            (fun i M' => M' = M3) (M := M3) rfl (by
              intro j M4 hj hI
              subst hI
              refine ⟨M4, ?_, rfl⟩
              have c1 : (nI j < nI (ps s.2.1.1 s.2.2.2.1).2.1) = True := eq_true (nI_lt hj (by omega))
              have cj : (nI j).toNatClampNeg = j := nI_clamp (by omega)
              have k6 := h40.2 j hj
              have j40 : j < 40 := by omega
              have e4 : (40 : Int32) * nI a + nI j = nI (40 * a + j) := by rw [show (40 : Int32) * nI a = nI (40 * a) from pk_mul 40 a, nI_add]
              have ce : (nI (40 * a + j)).toNatClampNeg = 40 * a + j := nI_clamp (by omega)
              have ck : (nI ((ps s.2.1.1 s.2.2.2.1).2.2 j) = 6) = ((ps s.2.1.1 s.2.2.2.1).2.2 j = 6) := propext (nI_eq (b := 6) (by omega) (by decide))
              have sv := bv j j40
              have sw := s3 a a4 j j40
              have n00 : (nI 0 = 0) = True := eq_true rfl
              have n01 : (nI 0 = 1) = False := eq_false (by decide)
              have n10 : (nI 1 = 0) = False := eq_false (by decide)
              have n11 : (nI 1 = 1) = True := eq_true rfl
              have n20 : (nI 2 = 0) = False := eq_false (by decide)
              have n21 : (nI 2 = 1) = False := eq_false (by decide)
              by_cases h1 : sd s.2.2.2.2 b a j = u
              · by_cases h2 : sd s.2.2.2.2 c a j = v
                · by_cases h3 : (ps s.2.1.1 s.2.2.2.1).2.2 j = 6
                  · rw [cnt_s0 (fun q => q.1 h3), e211_88]
                    have n6 : (nI 6 = 6) = True := eq_true rfl
                    rcases hd3 with ⟨rfl, rfl, rfl⟩ | ⟨rfl, rfl, rfl⟩ | ⟨rfl, rfl, rfl⟩ <;>
                      simp only [e211_0, e211_1, e211_4, e211_7, e211_8, e211_11, e211_14, e211_15, e211_16, e211_17, e211_18, e211_19, e211_22, e211_25, e211_27, e211_28, e211_29, e211_32, e211_35, e211_38, e211_40, e211_41, e211_42, e211_43, e211_46, e211_47, e211_51, e211_54, e211_57, e211_58, e211_61, e211_63, e211_64, e211_67, e211_69, e211_70, e211_71, e211_74, e211_77, e211_78, e211_79, e211_82, e211_83, e211_85, e211_86, e211_90, e211_91, e211_94, e211_97, e211_98, e211_101, e211_103, e211_104, e211_105, e211_107, e211_108, e211_109, e211_111, e211_114, e211_115, e211_118, e211_119, e211_122, e211_123, e211_126, e211_128, e211_129, e211_130, e211_132, e211_133, e211_134, e211_136, e211_137, e211_140, e211_141, e211_144, e211_145, e211_148, e211_149, e211_152, e211_153, e211_155, e211_157, e211_159, e211_162, e211_163, e211_166, e211_168, e211_169, e211_171, e211_174, e211_175, e211_178, e211_179, e211_180, e211_182, e211_185, e211_188, e211_190, s59, s59_0, s59_1, s59_2, s59_3, s59_4, s59_5, s59_6, s59_7, s59_8, s59_9, s59_10, s59_11, s59_12, s59_13, s59_14, s59_15, s59_16, s59_17, s59_18, s59_19, s59_20, s59_21, s59_22, s59_23, s59_24, s59_25, s59_26, s59_27, s59_28, s59_29, s59_30, s59_31, r59_0, r59_1, r59_2, r59_3, r59_6, r59_8, r59_9, r59_13, r59_15, r59_16, r59_17, r59_19, r59_22, r59_23, r59_26, r59_30, r59_31, s60, s61, s62, s63, s64, s65, s66, s67, s68, s69, s70, s71, s72, s73, s74, s75, s76, w3.1, w3.2 j hj, c1, cj, e4, ce, sv, sw, h1, h2, h3, n6, n00, n01, n10, n11, n20, n21, a67 (show j < 50 by omega), a71 (show 40 * a + j < 160 by omega), a76 (show 40 * a + j < 160 by omega), nI_1, Int32.add_zero, z10, z01, z1m, zm1, z0m, zm0, am_bv_s, am_bw_s, eq_self, true_or, or_true, am_b0, am_b1, am_em, if_true, if_false, true_and, and_true, false_and, and_false, not_true_eq_false, not_false_eq_true, false_or, or_false, Bool.false_eq_true]
                  · rw [cnt_s1 ⟨h3, h1, h2⟩, e211_88]
                    rcases hd3 with ⟨rfl, rfl, rfl⟩ | ⟨rfl, rfl, rfl⟩ | ⟨rfl, rfl, rfl⟩ <;>
                      simp only [e211_0, e211_1, e211_4, e211_7, e211_8, e211_11, e211_14, e211_15, e211_16, e211_17, e211_18, e211_19, e211_22, e211_25, e211_27, e211_28, e211_29, e211_32, e211_35, e211_38, e211_40, e211_41, e211_42, e211_43, e211_46, e211_47, e211_51, e211_54, e211_57, e211_58, e211_61, e211_63, e211_64, e211_67, e211_69, e211_70, e211_71, e211_74, e211_77, e211_78, e211_79, e211_82, e211_83, e211_85, e211_86, e211_90, e211_91, e211_94, e211_97, e211_98, e211_101, e211_103, e211_104, e211_105, e211_107, e211_108, e211_109, e211_111, e211_114, e211_115, e211_118, e211_119, e211_122, e211_123, e211_126, e211_128, e211_129, e211_130, e211_132, e211_133, e211_134, e211_136, e211_137, e211_140, e211_141, e211_144, e211_145, e211_148, e211_149, e211_152, e211_153, e211_155, e211_157, e211_159, e211_162, e211_163, e211_166, e211_168, e211_169, e211_171, e211_174, e211_175, e211_178, e211_179, e211_180, e211_182, e211_185, e211_188, e211_190, s59, s59_0, s59_1, s59_2, s59_3, s59_4, s59_5, s59_6, s59_7, s59_8, s59_9, s59_10, s59_11, s59_12, s59_13, s59_14, s59_15, s59_16, s59_17, s59_18, s59_19, s59_20, s59_21, s59_22, s59_23, s59_24, s59_25, s59_26, s59_27, s59_28, s59_29, s59_30, s59_31, r59_0, r59_1, r59_2, r59_3, r59_6, r59_8, r59_9, r59_13, r59_15, r59_16, r59_17, r59_19, r59_22, r59_23, r59_26, r59_30, r59_31, s60, s61, s62, s63, s64, s65, s66, s67, s68, s69, s70, s71, s72, s73, s74, s75, s76, w3.1, w3.2 j hj, c1, cj, e4, ce, sv, sw, h1, h2, h3, ck, n00, n01, n10, n11, n20, n21, a67 (show j < 50 by omega), a71 (show 40 * a + j < 160 by omega), a76 (show 40 * a + j < 160 by omega), nI_1, Int32.add_zero, z10, z01, z1m, zm1, z0m, zm0, am_bv_s, am_bw_s, eq_self, true_or, or_true, am_b0, am_b1, am_em, if_true, if_false, true_and, and_true, false_and, and_false, not_true_eq_false, not_false_eq_true, false_or, or_false, Bool.false_eq_true]
                · rw [cnt_s0 (fun q => h2 q.2.2), e211_88]
                  rcases hd3 with ⟨rfl, rfl, rfl⟩ | ⟨rfl, rfl, rfl⟩ | ⟨rfl, rfl, rfl⟩ <;>
                    simp only [e211_0, e211_1, e211_4, e211_7, e211_8, e211_11, e211_14, e211_15, e211_16, e211_17, e211_18, e211_19, e211_22, e211_25, e211_27, e211_28, e211_29, e211_32, e211_35, e211_38, e211_40, e211_41, e211_42, e211_43, e211_46, e211_47, e211_51, e211_54, e211_57, e211_58, e211_61, e211_63, e211_64, e211_67, e211_69, e211_70, e211_71, e211_74, e211_77, e211_78, e211_79, e211_82, e211_83, e211_85, e211_86, e211_90, e211_91, e211_94, e211_97, e211_98, e211_101, e211_103, e211_104, e211_105, e211_107, e211_108, e211_109, e211_111, e211_114, e211_115, e211_118, e211_119, e211_122, e211_123, e211_126, e211_128, e211_129, e211_130, e211_132, e211_133, e211_134, e211_136, e211_137, e211_140, e211_141, e211_144, e211_145, e211_148, e211_149, e211_152, e211_153, e211_155, e211_157, e211_159, e211_162, e211_163, e211_166, e211_168, e211_169, e211_171, e211_174, e211_175, e211_178, e211_179, e211_180, e211_182, e211_185, e211_188, e211_190, s59, s59_0, s59_1, s59_2, s59_3, s59_4, s59_5, s59_6, s59_7, s59_8, s59_9, s59_10, s59_11, s59_12, s59_13, s59_14, s59_15, s59_16, s59_17, s59_18, s59_19, s59_20, s59_21, s59_22, s59_23, s59_24, s59_25, s59_26, s59_27, s59_28, s59_29, s59_30, s59_31, r59_0, r59_1, r59_2, r59_3, r59_6, r59_8, r59_9, r59_13, r59_15, r59_16, r59_17, r59_19, r59_22, r59_23, r59_26, r59_30, r59_31, s60, s61, s62, s63, s64, s65, s66, s67, s68, s69, s70, s71, s72, s73, s74, s75, s76, w3.1, c1, cj, e4, ce, sv, sw, h1, h2, n00, n01, n10, n11, n20, n21, a71 (show 40 * a + j < 160 by omega), a76 (show 40 * a + j < 160 by omega), nI_1, Int32.add_zero, z10, z01, z1m, zm1, z0m, zm0, am_bv_s, am_bw_s, eq_self, true_or, or_true, am_b0, am_b1, am_em, if_true, if_false, true_and, and_true, false_and, and_false, not_true_eq_false, not_false_eq_true, false_or, or_false, Bool.false_eq_true]
              · rw [cnt_s0 (fun q => h1 q.2.1), e211_88]
                rcases hd3 with ⟨rfl, rfl, rfl⟩ | ⟨rfl, rfl, rfl⟩ | ⟨rfl, rfl, rfl⟩ <;>
                  simp only [e211_0, e211_1, e211_4, e211_7, e211_8, e211_11, e211_14, e211_15, e211_16, e211_17, e211_18, e211_19, e211_22, e211_25, e211_27, e211_28, e211_29, e211_32, e211_35, e211_38, e211_40, e211_41, e211_42, e211_43, e211_46, e211_47, e211_51, e211_54, e211_57, e211_58, e211_61, e211_63, e211_64, e211_67, e211_69, e211_70, e211_71, e211_74, e211_77, e211_78, e211_79, e211_82, e211_83, e211_85, e211_86, e211_90, e211_91, e211_94, e211_97, e211_98, e211_101, e211_103, e211_104, e211_105, e211_107, e211_108, e211_109, e211_111, e211_114, e211_115, e211_118, e211_119, e211_122, e211_123, e211_126, e211_128, e211_129, e211_130, e211_132, e211_133, e211_134, e211_136, e211_137, e211_140, e211_141, e211_144, e211_145, e211_148, e211_149, e211_152, e211_153, e211_155, e211_157, e211_159, e211_162, e211_163, e211_166, e211_168, e211_169, e211_171, e211_174, e211_175, e211_178, e211_179, e211_180, e211_182, e211_185, e211_188, e211_190, s59, s59_0, s59_1, s59_2, s59_3, s59_4, s59_5, s59_6, s59_7, s59_8, s59_9, s59_10, s59_11, s59_12, s59_13, s59_14, s59_15, s59_16, s59_17, s59_18, s59_19, s59_20, s59_21, s59_22, s59_23, s59_24, s59_25, s59_26, s59_27, s59_28, s59_29, s59_30, s59_31, r59_0, r59_1, r59_2, r59_3, r59_6, r59_8, r59_9, r59_13, r59_15, r59_16, r59_17, r59_19, r59_22, r59_23, r59_26, r59_30, r59_31, s60, s61, s62, s63, s64, s65, s66, s67, s68, s69, s70, s71, s72, s73, s74, s75, s76, w3.1, c1, cj, e4, ce, sv, h1, n00, n01, n10, n11, n20, n21, a71 (show 40 * a + j < 160 by omega), a76 (show 40 * a + j < 160 by omega), nI_1, Int32.add_zero, z10, z01, z1m, zm1, z0m, zm0, am_bv_s, am_bw_s, eq_self, true_or, or_true, am_b0, am_b1, am_em, if_true, if_false, true_and, and_true, false_and, and_false, not_true_eq_false, not_false_eq_true, false_or, or_false, Bool.false_eq_true])
          subst g4
          refine ⟨M4, ?_, j3, ((of1.mo fun a k q => pmS_M q).tr (of2.mo fun a k q => by unfold pM; omega)).tr (of3.mo fun a k q => pmS_M q)⟩
          have c2 : (nI (ps s.2.1.1 s.2.2.2.1).2.1 < nI (ps s.2.1.1 s.2.2.2.1).2.1) = False := eq_false (nI_nlt (Nat.le_refl _) (by omega))
          have c3 : (nI 160 < 160) = False := eq_false (by decide)
          have f4 : am_e X 211 88 [some (.ref (59 : Nat)), some (.int (nI a)), none, none, some (.int (nI d)), some (.int (nI 0)), some (.int (nI 0)), none] [] kS M4 = some (some (.int (nI (bth s.2.1.1 s.2.2.2.1 (sd s.2.2.2.2 b a) (sd s.2.2.2.2 c a) u v))), kS, M4) := by
            refine Eq.trans e4 ?_
            rw [e211_88]
            simp only [e211_0, e211_1, e211_4, e211_7, e211_8, e211_11, e211_14, e211_15, e211_16, e211_17, e211_18, e211_19, e211_22, e211_25, e211_27, e211_28, e211_29, e211_32, e211_35, e211_38, e211_40, e211_41, e211_42, e211_43, e211_46, e211_47, e211_51, e211_54, e211_57, e211_58, e211_61, e211_63, e211_64, e211_67, e211_69, e211_70, e211_71, e211_74, e211_77, e211_78, e211_79, e211_82, e211_83, e211_85, e211_86, e211_90, e211_91, e211_94, e211_97, e211_98, e211_101, e211_103, e211_104, e211_105, e211_107, e211_108, e211_109, e211_111, e211_114, e211_115, e211_118, e211_119, e211_122, e211_123, e211_126, e211_128, e211_129, e211_130, e211_132, e211_133, e211_134, e211_136, e211_137, e211_140, e211_141, e211_144, e211_145, e211_148, e211_149, e211_152, e211_153, e211_155, e211_157, e211_159, e211_162, e211_163, e211_166, e211_168, e211_169, e211_171, e211_174, e211_175, e211_178, e211_179, e211_180, e211_182, e211_185, e211_188, e211_190, s59, s59_0, s59_1, s59_2, s59_3, s59_4, s59_5, s59_6, s59_7, s59_8, s59_9, s59_10, s59_11, s59_12, s59_13, s59_14, s59_15, s59_16, s59_17, s59_18, s59_19, s59_20, s59_21, s59_22, s59_23, s59_24, s59_25, s59_26, s59_27, s59_28, s59_29, s59_30, s59_31, r59_0, r59_1, r59_2, r59_3, r59_6, r59_8, r59_9, r59_13, r59_15, r59_16, r59_17, r59_19, r59_22, r59_23, r59_26, r59_30, r59_31, s60, s61, s62, s63, s64, s65, s66, s67, s68, s69, s70, s71, s72, s73, s74, s75, s76, w3.1, c2, bth, am_bv_s, am_bw_s, eq_self, true_or, or_true, am_b0, am_b1, am_em, if_true, if_false, true_and, and_true, false_and, and_false, not_true_eq_false, not_false_eq_true, false_or, or_false, Bool.false_eq_true]
          rw [← f4]
          have f2 : am_e X 211 49 [some (.ref (59 : Nat)), some (.int (nI a)), none, some (.int (nI c)), some (.int (nI d)), some (.int (nI 0)), none, none] [] kS M1 = am_e X 211 88 [some (.ref (59 : Nat)), some (.int (nI a)), none, none, some (.int (nI d)), some (.int (nI 0)), some (.int (nI 0)), none] [] kS M4 := by
            refine Eq.trans e2 ?_
            rw [e211_49]
            simp only [e211_0, e211_1, e211_4, e211_7, e211_8, e211_11, e211_14, e211_15, e211_16, e211_17, e211_18, e211_19, e211_22, e211_25, e211_27, e211_28, e211_29, e211_32, e211_35, e211_38, e211_40, e211_41, e211_42, e211_43, e211_46, e211_47, e211_51, e211_54, e211_57, e211_58, e211_61, e211_63, e211_64, e211_67, e211_69, e211_70, e211_71, e211_74, e211_77, e211_78, e211_79, e211_82, e211_83, e211_85, e211_86, e211_90, e211_91, e211_94, e211_97, e211_98, e211_101, e211_103, e211_104, e211_105, e211_107, e211_108, e211_109, e211_111, e211_114, e211_115, e211_118, e211_119, e211_122, e211_123, e211_126, e211_128, e211_129, e211_130, e211_132, e211_133, e211_134, e211_136, e211_137, e211_140, e211_141, e211_144, e211_145, e211_148, e211_149, e211_152, e211_153, e211_155, e211_157, e211_159, e211_162, e211_163, e211_166, e211_168, e211_169, e211_171, e211_174, e211_175, e211_178, e211_179, e211_180, e211_182, e211_185, e211_188, e211_190, s59, s59_0, s59_1, s59_2, s59_3, s59_4, s59_5, s59_6, s59_7, s59_8, s59_9, s59_10, s59_11, s59_12, s59_13, s59_14, s59_15, s59_16, s59_17, s59_18, s59_19, s59_20, s59_21, s59_22, s59_23, s59_24, s59_25, s59_26, s59_27, s59_28, s59_29, s59_30, s59_31, r59_0, r59_1, r59_2, r59_3, r59_6, r59_8, r59_9, r59_13, r59_15, r59_16, r59_17, r59_19, r59_22, r59_23, r59_26, r59_30, r59_31, s60, s61, s62, s63, s64, s65, s66, s67, s68, s69, s70, s71, s72, s73, s74, s75, s76, c3, r3, nI_0, am_bv_s, am_bw_s, eq_self, true_or, or_true, am_b0, am_b1, am_em, if_true, if_false, true_and, and_true, false_and, and_false, not_true_eq_false, not_false_eq_true, false_or, or_false, Bool.false_eq_true]
          rw [← f2]
          simp only [e211_0, e211_1, e211_4, e211_7, e211_8, e211_11, e211_14, e211_15, e211_16, e211_17, e211_18, e211_19, e211_22, e211_25, e211_27, e211_28, e211_29, e211_32, e211_35, e211_38, e211_40, e211_41, e211_42, e211_43, e211_46, e211_47, e211_51, e211_54, e211_57, e211_58, e211_61, e211_63, e211_64, e211_67, e211_69, e211_70, e211_71, e211_74, e211_77, e211_78, e211_79, e211_82, e211_83, e211_85, e211_86, e211_90, e211_91, e211_94, e211_97, e211_98, e211_101, e211_103, e211_104, e211_105, e211_107, e211_108, e211_109, e211_111, e211_114, e211_115, e211_118, e211_119, e211_122, e211_123, e211_126, e211_128, e211_129, e211_130, e211_132, e211_133, e211_134, e211_136, e211_137, e211_140, e211_141, e211_144, e211_145, e211_148, e211_149, e211_152, e211_153, e211_155, e211_157, e211_159, e211_162, e211_163, e211_166, e211_168, e211_169, e211_171, e211_174, e211_175, e211_178, e211_179, e211_180, e211_182, e211_185, e211_188, e211_190, s59, s59_0, s59_1, s59_2, s59_3, s59_4, s59_5, s59_6, s59_7, s59_8, s59_9, s59_10, s59_11, s59_12, s59_13, s59_14, s59_15, s59_16, s59_17, s59_18, s59_19, s59_20, s59_21, s59_22, s59_23, s59_24, s59_25, s59_26, s59_27, s59_28, s59_29, s59_30, s59_31, r59_0, r59_1, r59_2, r59_3, r59_6, r59_8, r59_9, r59_13, r59_15, r59_16, r59_17, r59_19, r59_22, r59_23, r59_26, r59_30, r59_31, s60, s61, s62, s63, s64, s65, s66, s67, s68, s69, s70, s71, s72, s73, s74, s75, s76, i1, i2, i3, i4, z10, z01, z1m, zm1, z0m, zm0, r1, nI_0, am_bv_s, am_bw_s, eq_self, true_or, or_true, am_b0, am_b1, am_em, if_true, if_false, true_and, and_true, false_and, and_false, not_true_eq_false, not_false_eq_true, false_or, or_false, Bool.false_eq_true]
        · rw [am_bf h4] at i4
          rw [if_neg (fun q => h4 q.2.2.2.2)]
          refine ⟨M, ?_, hx, am_of.rf⟩
          simp only [e211_0, e211_1, e211_4, e211_7, e211_8, e211_11, e211_14, e211_15, e211_16, e211_17, e211_18, e211_19, e211_22, e211_25, e211_27, e211_28, e211_29, e211_32, e211_35, e211_38, e211_40, e211_41, e211_42, e211_43, e211_46, e211_47, e211_49, e211_51, e211_54, e211_57, e211_58, e211_61, e211_63, e211_64, e211_67, e211_69, e211_70, e211_71, e211_74, e211_77, e211_78, e211_79, e211_82, e211_83, e211_85, e211_86, e211_88, e211_90, e211_91, e211_94, e211_97, e211_98, e211_101, e211_103, e211_104, e211_105, e211_107, e211_108, e211_109, e211_111, e211_114, e211_115, e211_118, e211_119, e211_122, e211_123, e211_126, e211_128, e211_129, e211_130, e211_132, e211_133, e211_134, e211_136, e211_137, e211_140, e211_141, e211_144, e211_145, e211_148, e211_149, e211_152, e211_153, e211_155, e211_157, e211_159, e211_162, e211_163, e211_166, e211_168, e211_169, e211_171, e211_174, e211_175, e211_178, e211_179, e211_180, e211_182, e211_185, e211_188, e211_190, i1, i2, i3, i4, z10, z01, z1m, zm1, z0m, zm0, am_bv_s, am_bw_s, eq_self, true_or, or_true, am_b0, am_b1, am_em, if_true, if_false, true_and, and_true, false_and, and_false, not_true_eq_false, not_false_eq_true, false_or, or_false, Bool.false_eq_true]
      · rw [am_bf h2] at i2
        rw [if_neg (fun q => h2 ⟨q.2.1.1, Int32.not_lt.mp q.2.2.2.1⟩)]
        refine ⟨M, ?_, hx, am_of.rf⟩
        simp only [e211_0, e211_1, e211_4, e211_7, e211_8, e211_11, e211_14, e211_15, e211_16, e211_17, e211_18, e211_19, e211_22, e211_25, e211_27, e211_28, e211_29, e211_32, e211_35, e211_38, e211_40, e211_41, e211_42, e211_43, e211_46, e211_47, e211_49, e211_51, e211_54, e211_57, e211_58, e211_61, e211_63, e211_64, e211_67, e211_69, e211_70, e211_71, e211_74, e211_77, e211_78, e211_79, e211_82, e211_83, e211_85, e211_86, e211_88, e211_90, e211_91, e211_94, e211_97, e211_98, e211_101, e211_103, e211_104, e211_105, e211_107, e211_108, e211_109, e211_111, e211_114, e211_115, e211_118, e211_119, e211_122, e211_123, e211_126, e211_128, e211_129, e211_130, e211_132, e211_133, e211_134, e211_136, e211_137, e211_140, e211_141, e211_144, e211_145, e211_148, e211_149, e211_152, e211_153, e211_155, e211_157, e211_159, e211_162, e211_163, e211_166, e211_168, e211_169, e211_171, e211_174, e211_175, e211_178, e211_179, e211_180, e211_182, e211_185, e211_188, e211_190, i1, i2, i3, z10, z01, z1m, zm1, z0m, zm0, am_bv_s, am_bw_s, eq_self, true_or, or_true, am_b0, am_b1, am_em, if_true, if_false, true_and, and_true, false_and, and_false, not_true_eq_false, not_false_eq_true, false_or, or_false, Bool.false_eq_true]
    · rw [am_bf h3] at i3
      rw [if_neg (fun q => h3 q.2.2.1)]
      refine ⟨M, ?_, hx, am_of.rf⟩
      simp only [e211_0, e211_1, e211_4, e211_7, e211_8, e211_11, e211_14, e211_15, e211_16, e211_17, e211_18, e211_19, e211_22, e211_25, e211_27, e211_28, e211_29, e211_32, e211_35, e211_38, e211_40, e211_41, e211_42, e211_43, e211_46, e211_47, e211_49, e211_51, e211_54, e211_57, e211_58, e211_61, e211_63, e211_64, e211_67, e211_69, e211_70, e211_71, e211_74, e211_77, e211_78, e211_79, e211_82, e211_83, e211_85, e211_86, e211_88, e211_90, e211_91, e211_94, e211_97, e211_98, e211_101, e211_103, e211_104, e211_105, e211_107, e211_108, e211_109, e211_111, e211_114, e211_115, e211_118, e211_119, e211_122, e211_123, e211_126, e211_128, e211_129, e211_130, e211_132, e211_133, e211_134, e211_136, e211_137, e211_140, e211_141, e211_144, e211_145, e211_148, e211_149, e211_152, e211_153, e211_155, e211_157, e211_159, e211_162, e211_163, e211_166, e211_168, e211_169, e211_171, e211_174, e211_175, e211_178, e211_179, e211_180, e211_182, e211_185, e211_188, e211_190, i1, i3, z10, z01, z1m, zm1, z0m, zm0, am_bv_s, am_bw_s, eq_self, true_or, or_true, am_b0, am_b1, am_em, if_true, if_false, true_and, and_true, false_and, and_false, not_true_eq_false, not_false_eq_true, false_or, or_false, Bool.false_eq_true]
  · rw [am_bf h1] at i1
    rw [if_neg (fun q => h1 q.1)]
    refine ⟨M, ?_, hx, am_of.rf⟩
    simp only [e211_0, e211_1, e211_4, e211_7, e211_8, e211_11, e211_14, e211_15, e211_16, e211_17, e211_18, e211_19, e211_22, e211_25, e211_27, e211_28, e211_29, e211_32, e211_35, e211_38, e211_40, e211_41, e211_42, e211_43, e211_46, e211_47, e211_49, e211_51, e211_54, e211_57, e211_58, e211_61, e211_63, e211_64, e211_67, e211_69, e211_70, e211_71, e211_74, e211_77, e211_78, e211_79, e211_82, e211_83, e211_85, e211_86, e211_88, e211_90, e211_91, e211_94, e211_97, e211_98, e211_101, e211_103, e211_104, e211_105, e211_107, e211_108, e211_109, e211_111, e211_114, e211_115, e211_118, e211_119, e211_122, e211_123, e211_126, e211_128, e211_129, e211_130, e211_132, e211_133, e211_134, e211_136, e211_137, e211_140, e211_141, e211_144, e211_145, e211_148, e211_149, e211_152, e211_153, e211_155, e211_157, e211_159, e211_162, e211_163, e211_166, e211_168, e211_169, e211_171, e211_174, e211_175, e211_178, e211_179, e211_180, e211_182, e211_185, e211_188, e211_190, i1, am_bv_s, am_bw_s, eq_self, true_or, or_true, am_b0, am_b1, am_em, if_true, if_false, true_and, and_true, false_and, and_false, not_true_eq_false, not_false_eq_true, false_or, or_false, Bool.false_eq_true]
end
