/-! THE LIST read by the class -/
section
variable {X : am_X} {S : am_Sh} {M : am_Me} {l : sgL}
def pxW (a k : Nat) : Prop := a = 23 ∨ (a = 21 ∧ k = 3)
theorem xL.of {M M' : am_Me} {P : Nat → Nat → Prop} (hx : xL l M) (ho : am_of P M M') (hP : ∀ a k, P a k → ¬ ((a = 21 ∧ k = 2) ∨ a = 22)) : xL l M' :=
  ⟨((ho _ _ (fun z => hP _ _ z (Or.inl ⟨rfl, rfl⟩))).1).trans hx.1, fun i hi => ((ho _ _ (fun z => hP _ _ z (Or.inr rfl))).1).trans (hx.2 i hi)⟩
theorem q_kob {nb c : Nat} (hb : nb ≤ 6) (hc : c ≤ 255) : am_e X 85 0 [some (.int (nI c)), some (.int (nI nb)), none] [] S M = some (some (.int (ps_v (ps_kd nb c))), S, M) := by
  have e1 : (nI c = 102) = (c = 102) := propext (nI_eq (b := 102) (by omega) (by omega))
  have t1 := nI_toInt (n := c) (by omega)
  have t2 := nI_toInt (n := nb) (by omega)
  have t3 : (nI c - 48).toInt = (c : Int) - 48 := by
    rw [Jvm.Kit.i32_sub (by rw [t1]; have : (48 : Int32).toInt = 48 := by decide
                            omega) (by rw [t1]; have : (48 : Int32).toInt = 48 := by decide
                                       omega), t1]
    rfl
  have e2 : (nI c - 48 < 0) = (c < 48) := propext (by rw [Int32.lt_iff_toInt_lt, t3, show (0 : Int32).toInt = 0 from rfl]; omega)
  have e3 : (nI c - 48 < nI nb) = (c < 48 + nb) := propext (by rw [Int32.lt_iff_toInt_lt, t3, t2]; omega)
  simp only [e85_0, e85_1, e85_3, e85_6, e85_8, e85_9, e85_10, e85_12, e85_13, e85_14, e85_15, e85_18, e85_19, e85_20, e85_23, e85_24, e85_27, e85_28, e1, e2, e3, am_bv_s, am_bw_s, eq_self, true_or, or_true, am_b0, am_b1, am_em, if_true, if_false, true_and, and_true, false_and, and_false, not_true_eq_false, not_false_eq_true, false_or, or_false, Bool.false_eq_true]
  unfold ps_kd
  by_cases h1 : c = 102
  · rw [if_pos h1, if_pos h1]; rfl
  · rw [if_neg h1, if_neg h1]
    by_cases h2 : c < 48
    · rw [if_pos h2, if_neg (by omega)]; rfl
    · rw [if_neg h2]
      by_cases h3 : c < 48 + nb
      · have h4 : 48 ≤ c ∧ c < 48 + nb := ⟨by omega, h3⟩
        rw [if_pos h3, if_pos h4]
        have : nI c - 48 = nI (c - 48) := pk_sub (b := 48) (by omega)
        rw [this]; rfl
      · have h4 : ¬ (48 ≤ c ∧ c < 48 + nb) := fun q => h3 q.2
        rw [if_neg h3, if_neg h4]; rfl
theorem q_addLoop {w t : Nat} {kv : Int32} (hw : w + t ≤ 40) : ∀ (k i : Nat) (vi : Int32) (M : am_Me), i + k = t → vi = nI i → M.1 21 3 = nI w → am_e X 86 2 [some (.ref (21 : Nat)), some (.int kv), some (.int (nI t)), some (.int vi)] [] kS M = some (none, kS, am_setI (am_setA M 23 (fun q => if w + i ≤ q ∧ q < w + t then kv else M.1 23 q)) 21 3 (nI (w + t))) := by
  intro k
  induction k with
  | zero =>
    intro i vi M hk hv hM
    subst hv
    obtain rfl : i = t := by omega
    have hc : (nI i < nI i) = False := eq_false (nI_nlt (by omega) (by omega))
    rw [e86_2]
    simp only [e86_0, e86_1, e86_3, e86_4, e86_7, e86_8, e86_11, e86_12, e86_15, e86_16, e86_17, e86_18, e86_19, e86_22, e86_25, e86_26, e86_27, e86_30, e86_31, e86_32, e86_35, s21, s21_0, s21_1, s21_2, s21_3, s21_4, r21_0, r21_1, s22, s23, hc, hM, nI_add, am_bv_s, am_bw_s, eq_self, true_or, or_true, am_b0, am_b1, am_em, if_true, if_false, true_and, and_true, false_and, and_false, not_true_eq_false, not_false_eq_true, false_or, or_false, Bool.false_eq_true]
    rw [am_setA_id (fun p => by rw [if_neg (by omega)])]
  | succ k ih =>
    intro i vi M hk hv hM
    subst hv
    have hc : (nI i < nI t) = True := eq_true (nI_lt (by omega) (by omega))
    have hcl : (nI (w + i)).toNatClampNeg = w + i := nI_clamp (by omega)
    rw [e86_2]
    simp only [e86_0, e86_1, e86_3, e86_4, e86_7, e86_8, e86_11, e86_12, e86_15, e86_16, e86_17, e86_18, e86_19, e86_22, e86_25, e86_26, e86_27, e86_30, e86_31, e86_32, e86_35, s21, s21_0, s21_1, s21_2, s21_3, s21_4, r21_0, r21_1, s22, s23, hc, hM, hcl, nI_add, nI_1, a23 (show w + i < 40 by omega), am_bv_s, am_bw_s, eq_self, true_or, or_true, am_b0, am_b1, am_em, if_true, if_false, true_and, and_true, false_and, and_false, not_true_eq_false, not_false_eq_true, false_or, or_false, Bool.false_eq_true]
    rw [ih (i + 1) _ _ (by omega) rfl (by rw [gI, if_neg (by omega)]; exact hM), am_setAI]
    refine congrArg (fun z => some (none, kS, am_setI z 21 3 (nI (w + t)))) (am_setA_c fun p => ?_)
    by_cases h1 : w + (i + 1) ≤ p ∧ p < w + t
    · rw [if_pos h1, if_pos (by omega)]
    · rw [if_neg h1, gI]
      by_cases h2 : p = w + i
      · rw [if_pos ⟨rfl, h2⟩, if_pos (by omega)]
      · rw [if_neg (fun z => h2 z.2), if_neg (by omega)]
theorem q_addWords {w t : Nat} {kv : Int32} (hw : w + t ≤ 40) (hM : M.1 21 3 = nI w) : am_e X 86 0 [some (.ref (21 : Nat)), some (.int kv), some (.int (nI t)), none] [] kS M = some (none, kS, am_setI (am_setA M 23 (fun q => if w ≤ q ∧ q < w + t then kv else M.1 23 q)) 21 3 (nI (w + t))) := by
  simp only [e86_0, e86_1]
  exact q_addLoop hw t 0 0 M (by omega) nI_0.symm hM
theorem x_ff {nb : Nat} (hb : nb ≤ 6) (ho : okL l) : ∀ (f p a w : Nat) (vp va' : Int32) (kd : Nat → Nat) (M : am_Me), xL l M → M.1 21 3 = nI w → (∀ q, q < w → M.1 23 q = nI (kd q)) → w ≤ 40 → a ≤ l.1 → p ≤ a → p + f = 81 → vp = nI p → va' = nI a →
    ∃ M', am_e X 84 13 [some (.ref (21 : Nat)), some (.int (nI nb)), some (.int va'), some (.int vp), none, none, none, none] [] kS M = some (some (.int (ps_v (ps_go nb l f a w kd).1)), kS, M') ∧ ((ps_go nb l f a w kd).1 = none → M'.1 21 3 = nI (ps_go nb l f a w kd).2.1 ∧ ∀ q, q < (ps_go nb l f a w kd).2.1 → M'.1 23 q = nI ((ps_go nb l f a w kd).2.2 q)) ∧ am_of pxW M M' := by
  intro f
  induction f with
  | zero =>
    intro p a w vp va' kd M hx hM hk hw ha hp hf
    have := ho.1
    omega
  | succ f ih =>
    intro p a w vp va' kd M hx hM hk hw ha hp hf hv1 hv2
    subst hv1 hv2
    obtain ⟨x1, x2⟩ := hx
    have hl80 := ho.1
    rw [ps_go]
    by_cases hp80 : p < 80
    · have c1 : (nI p < 80) = True := eq_true (nI_lt (b := 80) hp80 (by decide))
      by_cases hal : a < l.1
      · have c2 : (nI a < nI l.1) = True := eq_true (nI_lt hal (by omega))
        have cla : (nI a).toNatClampNeg = a := nI_clamp (by omega)
        have hta := ho.2 a hal
        have kob := q_kob (X := X) (S := kS) (M := M) hb hta
        unfold ps_part
        rw [if_pos hal]
        cases hkd : ps_kd nb (l.2 a) with
        | none =>
          rw [hkd] at kob
          refine ⟨M, ?_, fun h => by simp at h, am_of.rf⟩
          rw [e84_13]
          simp only [e84_0, e84_1, e84_4, e84_7, e84_8, e84_9, e84_10, e84_11, e84_12, e84_14, e84_16, e84_19, e84_20, e84_21, e84_24, e84_27, e84_28, e84_31, e84_32, e84_33, e84_34, e84_37, e84_39, e84_41, e84_42, e84_45, e84_46, e84_47, e84_48, e84_49, e84_50, e84_52, e84_53, e84_55, e84_57, e84_58, e84_61, e84_64, e84_65, e84_68, e84_70, e84_71, e84_73, e84_76, e84_78, e84_79, e84_80, e84_82, e84_84, e84_85, e84_88, e84_91, e84_92, e84_95, e84_97, e84_98, e84_100, e84_103, e84_104, e84_107, e84_109, e84_110, e84_112, e84_115, e84_117, e84_118, e84_119, e84_122, e84_124, e84_125, e84_127, e84_128, e84_130, e84_132, e84_133, e84_134, e84_136, e84_137, e84_140, e84_142, e84_143, e84_145, e84_148, e84_149, e84_150, e84_151, e84_153, e84_155, e84_158, e84_160, e84_161, e84_164, e84_167, e84_168, e84_169, e84_170, e84_173, e84_175, e84_176, e84_178, e84_181, e84_183, e84_184, e84_186, e84_187, e84_188, e84_189, e84_192, e84_195, e84_196, e84_199, s21, s21_0, s21_1, s21_2, s21_3, s21_4, r21_0, r21_1, s22, s23, x1, x2 a hal, c1, c2, cla, a22 (show a < 80 by omega), kob, ps_v, am_bv_s, am_bw_s, eq_self, true_or, or_true, am_b0, am_b1, am_em, if_true, if_false, true_and, and_true, false_and, and_false, not_true_eq_false, not_false_eq_true, false_or, or_false, Bool.false_eq_true]
        | some k =>
          rw [hkd] at kob
          have hk6 := ps_kd_le hb hkd
          have ck : (nI k = -1) = False := nI_n1 (by omega)
          dsimp only
          have run1 : am_e X 84 13 [some (.ref (21 : Nat)), some (.int (nI nb)), some (.int (nI a)), some (.int (nI p)), none, none, none, none] [] kS M = am_e X 84 55 [some (.ref (21 : Nat)), some (.int (nI nb)), some (.int (nI a)), some (.int (nI p)), some (.int (nI k)), some (.int (nI (a + 1))), some (.int 1), none] [] kS M := by
            rw [e84_13]
            simp only [e84_0, e84_1, e84_4, e84_7, e84_8, e84_9, e84_10, e84_11, e84_12, e84_14, e84_16, e84_19, e84_20, e84_21, e84_24, e84_27, e84_28, e84_31, e84_32, e84_33, e84_34, e84_37, e84_39, e84_41, e84_42, e84_45, e84_46, e84_47, e84_48, e84_49, e84_50, e84_52, e84_53, e84_57, e84_58, e84_61, e84_64, e84_65, e84_68, e84_70, e84_71, e84_73, e84_76, e84_78, e84_79, e84_80, e84_82, e84_84, e84_85, e84_88, e84_91, e84_92, e84_95, e84_97, e84_98, e84_100, e84_103, e84_104, e84_107, e84_109, e84_110, e84_112, e84_115, e84_117, e84_118, e84_119, e84_122, e84_124, e84_125, e84_127, e84_128, e84_130, e84_132, e84_133, e84_134, e84_136, e84_137, e84_140, e84_142, e84_143, e84_145, e84_148, e84_149, e84_150, e84_151, e84_153, e84_155, e84_158, e84_160, e84_161, e84_164, e84_167, e84_168, e84_169, e84_170, e84_173, e84_175, e84_176, e84_178, e84_181, e84_183, e84_184, e84_186, e84_187, e84_188, e84_189, e84_192, e84_195, e84_196, e84_199, s21, s21_0, s21_1, s21_2, s21_3, s21_4, r21_0, r21_1, s22, s23, x1, x2 a hal, c1, c2, ck, cla, nI_1, a22 (show a < 80 by omega), kob, ps_v, am_bv_s, am_bw_s, eq_self, true_or, or_true, am_b0, am_b1, am_em, if_true, if_false, true_and, and_true, false_and, and_false, not_true_eq_false, not_false_eq_true, false_or, or_false, Bool.false_eq_true]
          rw [run1]
          -- what follows a part
          have tail : ∀ (b t : Nat) (vt : Int32) (o7 : Option Value), vt = nI t → a < b → b ≤ l.1 → w + t ≤ 40 → ∃ M', am_e X 84 150 [some (.ref (21 : Nat)), some (.int (nI nb)), some (.int (nI a)), some (.int (nI p)), some (.int (nI k)), some (.int (nI b)), some (.int vt), o7] [] kS M =
              some (some (.int (ps_v (if b < l.1 then (if l.2 b = 59 then ps_go nb l f (b + 1) (w + t) (ps_ext kd w t k) else (some b, 0, kd)) else (none, w + t, ps_ext kd w t k)).1)), kS, M') ∧
              ((if b < l.1 then (if l.2 b = 59 then ps_go nb l f (b + 1) (w + t) (ps_ext kd w t k) else (some b, 0, kd)) else (none, w + t, ps_ext kd w t k)).1 = none → M'.1 21 3 = nI (if b < l.1 then (if l.2 b = 59 then ps_go nb l f (b + 1) (w + t) (ps_ext kd w t k) else (some b, 0, kd)) else (none, w + t, ps_ext kd w t k)).2.1 ∧ ∀ q, q < (if b < l.1 then (if l.2 b = 59 then ps_go nb l f (b + 1) (w + t) (ps_ext kd w t k) else (some b, 0, kd)) else (none, w + t, ps_ext kd w t k)).2.1 → M'.1 23 q = nI ((if b < l.1 then (if l.2 b = 59 then ps_go nb l f (b + 1) (w + t) (ps_ext kd w t k) else (some b, 0, kd)) else (none, w + t, ps_ext kd w t k)).2.2 q)) ∧ am_of pxW M M' := by
            intro b t vt o7 hvt hab hbl hwt
            subst hvt
            have adw := q_addWords (X := X) (kv := nI k) hwt hM
            generalize hM2 : am_setI (am_setA M 23 (fun q => if w ≤ q ∧ q < w + t then nI k else M.1 23 q)) 21 3 (nI (w + t)) = M2 at adw
            have of2 : am_of pxW M M2 := by
              rw [← hM2]
              exact (am_of.rf.sA (fun _ => Or.inl (Or.inl rfl))).sI (Or.inr ⟨rfl, rfl⟩)
            have x12 : xL l M2 := (show xL l M from ⟨x1, x2⟩).of of2 (fun a' k' q => by unfold pxW at q; omega)
            have w2 : M2.1 21 3 = nI (w + t) := by rw [← hM2, gI, if_pos ⟨rfl, rfl⟩]
            have k2 : ∀ q, q < w + t → M2.1 23 q = nI (ps_ext kd w t k q) := by
              intro q hq
              rw [← hM2, gI, if_neg (by omega), gA, if_pos rfl]
              unfold ps_ext
              by_cases e : w ≤ q ∧ q < w + t
              · rw [if_pos e, if_pos e]
              · rw [if_neg e, if_neg e]; exact hk q (by omega)
            obtain ⟨y1, y2⟩ := x12
            by_cases hb1 : b < l.1
            · rw [if_pos hb1]
              have d1 : (nI b = nI l.1) = False := eq_false (by rw [nI_eq (by omega) (by omega)]; omega)
              have clb : (nI b).toNatClampNeg = b := nI_clamp (by omega)
              have htb := ho.2 b hb1
              by_cases hs : l.2 b = 59
              · rw [if_pos hs]
                have d2 : (nI 59 = 59) = True := eq_true rfl
                obtain ⟨M', r1, r2, r3⟩ := ih (p + 1) (b + 1) (w + t) (nI (p + 1)) (nI (b + 1)) (ps_ext kd w t k) M2 ⟨y1, y2⟩ w2 k2 hwt (by omega) (by omega) (by omega) rfl rfl
                refine ⟨M', ?_, r2, of2.tr r3⟩
                rw [← r1]
                simp only [e84_0, e84_1, e84_4, e84_7, e84_8, e84_9, e84_10, e84_11, e84_12, e84_14, e84_16, e84_19, e84_20, e84_21, e84_24, e84_27, e84_28, e84_31, e84_32, e84_33, e84_34, e84_37, e84_39, e84_41, e84_42, e84_45, e84_46, e84_47, e84_48, e84_49, e84_50, e84_52, e84_53, e84_55, e84_57, e84_58, e84_61, e84_64, e84_65, e84_68, e84_70, e84_71, e84_73, e84_76, e84_78, e84_79, e84_80, e84_82, e84_84, e84_85, e84_88, e84_91, e84_92, e84_95, e84_97, e84_98, e84_100, e84_103, e84_104, e84_107, e84_109, e84_110, e84_112, e84_115, e84_117, e84_118, e84_119, e84_122, e84_124, e84_125, e84_127, e84_128, e84_130, e84_132, e84_133, e84_134, e84_136, e84_137, e84_140, e84_142, e84_143, e84_145, e84_148, e84_149, e84_150, e84_151, e84_153, e84_155, e84_158, e84_160, e84_161, e84_164, e84_167, e84_168, e84_169, e84_170, e84_173, e84_175, e84_176, e84_178, e84_181, e84_183, e84_184, e84_186, e84_187, e84_188, e84_189, e84_192, e84_195, e84_196, e84_199, s21, s21_0, s21_1, s21_2, s21_3, s21_4, r21_0, r21_1, s22, s23, adw, y1, y2 b hb1, hs, d1, d2, clb, nI_1, a22 (show b < 80 by omega), am_bv_s, am_bw_s, eq_self, true_or, or_true, am_b0, am_b1, am_em, if_true, if_false, true_and, and_true, false_and, and_false, not_true_eq_false, not_false_eq_true, false_or, or_false, Bool.false_eq_true]
              · rw [if_neg hs]
                have d2 : (nI (l.2 b) = 59) = False := eq_false (fun q => hs ((nI_eq (b := 59) (by omega) (by omega)).mp q))
                refine ⟨M2, ?_, fun h => by simp at h, of2⟩
                simp only [e84_0, e84_1, e84_4, e84_7, e84_8, e84_9, e84_10, e84_11, e84_12, e84_14, e84_16, e84_19, e84_20, e84_21, e84_24, e84_27, e84_28, e84_31, e84_32, e84_33, e84_34, e84_37, e84_39, e84_41, e84_42, e84_45, e84_46, e84_47, e84_48, e84_49, e84_50, e84_52, e84_53, e84_55, e84_57, e84_58, e84_61, e84_64, e84_65, e84_68, e84_70, e84_71, e84_73, e84_76, e84_78, e84_79, e84_80, e84_82, e84_84, e84_85, e84_88, e84_91, e84_92, e84_95, e84_97, e84_98, e84_100, e84_103, e84_104, e84_107, e84_109, e84_110, e84_112, e84_115, e84_117, e84_118, e84_119, e84_122, e84_124, e84_125, e84_127, e84_128, e84_130, e84_132, e84_133, e84_134, e84_136, e84_137, e84_140, e84_142, e84_143, e84_145, e84_148, e84_149, e84_150, e84_151, e84_153, e84_155, e84_158, e84_160, e84_161, e84_164, e84_167, e84_168, e84_169, e84_170, e84_173, e84_175, e84_176, e84_178, e84_181, e84_183, e84_184, e84_186, e84_187, e84_188, e84_189, e84_192, e84_195, e84_196, e84_199, s21, s21_0, s21_1, s21_2, s21_3, s21_4, r21_0, r21_1, s22, s23, adw, y1, y2 b hb1, d1, d2, clb, nI_1, a22 (show b < 80 by omega), ps_v, am_bv_s, am_bw_s, eq_self, true_or, or_true, am_b0, am_b1, am_em, if_true, if_false, true_and, and_true, false_and, and_false, not_true_eq_false, not_false_eq_true, false_or, or_false, Bool.false_eq_true]
            · rw [if_neg hb1]
              obtain rfl : b = l.1 := by omega
              refine ⟨M2, ?_, fun _ => ⟨w2, k2⟩, of2⟩
              simp only [e84_0, e84_1, e84_4, e84_7, e84_8, e84_9, e84_10, e84_11, e84_12, e84_14, e84_16, e84_19, e84_20, e84_21, e84_24, e84_27, e84_28, e84_31, e84_32, e84_33, e84_34, e84_37, e84_39, e84_41, e84_42, e84_45, e84_46, e84_47, e84_48, e84_49, e84_50, e84_52, e84_53, e84_55, e84_57, e84_58, e84_61, e84_64, e84_65, e84_68, e84_70, e84_71, e84_73, e84_76, e84_78, e84_79, e84_80, e84_82, e84_84, e84_85, e84_88, e84_91, e84_92, e84_95, e84_97, e84_98, e84_100, e84_103, e84_104, e84_107, e84_109, e84_110, e84_112, e84_115, e84_117, e84_118, e84_119, e84_122, e84_124, e84_125, e84_127, e84_128, e84_130, e84_132, e84_133, e84_134, e84_136, e84_137, e84_140, e84_142, e84_143, e84_145, e84_148, e84_149, e84_150, e84_151, e84_153, e84_155, e84_158, e84_160, e84_161, e84_164, e84_167, e84_168, e84_169, e84_170, e84_173, e84_175, e84_176, e84_178, e84_181, e84_183, e84_184, e84_186, e84_187, e84_188, e84_189, e84_192, e84_195, e84_196, e84_199, s21, s21_0, s21_1, s21_2, s21_3, s21_4, r21_0, r21_1, s22, s23, adw, y1, ps_v, am_bv_s, am_bw_s, eq_self, true_or, or_true, am_b0, am_b1, am_em, if_true, if_false, true_and, and_true, false_and, and_false, not_true_eq_false, not_false_eq_true, false_or, or_false, Bool.false_eq_true]
          by_cases h1 : a + 1 < l.1
          · have c3 : (nI (a + 1) < nI l.1) = True := eq_true (nI_lt h1 (by omega))
            have cl1 : (nI (a + 1)).toNatClampNeg = a + 1 := nI_clamp (by omega)
            have ht1 := ho.2 (a + 1) h1
            by_cases h2 : l.2 (a + 1) = 42
            · rw [if_pos ⟨h1, h2⟩]
              have d1 : (nI 42 = 42) = True := eq_true rfl
              by_cases h3 : a + 2 < l.1
              · have c4 : (nI (a + 1 + 1) < nI l.1) = True := eq_true (nI_lt h3 (by omega))
                have cl2 : (nI (a + 1 + 1)).toNatClampNeg = a + 1 + 1 := nI_clamp (by omega)
                have ht2 := ho.2 (a + 2) h3
                have x22 : M.1 22 (a + 1 + 1) = nI (l.2 (a + 2)) := x2 (a + 2) h3
                have c5 : (nI (l.2 (a + 2)) < 50) = (l.2 (a + 2) < 50) := propext (nI_ltI (b := 50) (by omega) (by decide))
                have c6 : ((57 : Int32) < nI (l.2 (a + 2))) = (57 < l.2 (a + 2)) := propext (nI_ltI (a := 57) (by decide) (by omega))
                by_cases h4 : 50 ≤ l.2 (a + 2) ∧ l.2 (a + 2) ≤ 57
                · rw [if_pos ⟨h3, h4⟩]
                  have c5' : (l.2 (a + 2) < 50) = False := eq_false (by omega)
                  have c6' : (57 < l.2 (a + 2)) = False := eq_false (by omega)
                  have e1 : nI (l.2 (a + 2)) - 48 = nI (l.2 (a + 2) - 48) := pk_sub (b := 48) (by omega)
                  have c7 : ((40 : Int32) < nI (w + (l.2 (a + 2) - 48))) = (40 < w + (l.2 (a + 2) - 48)) := propext (nI_ltI (a := 40) (by decide) (by omega))
                  by_cases h5 : 40 < w + (l.2 (a + 2) - 48)
                  · rw [if_pos h5]
                    refine ⟨M, ?_, fun h => by simp at h, am_of.rf⟩
                    rw [e84_55]
                    simp only [e84_0, e84_1, e84_4, e84_7, e84_8, e84_9, e84_10, e84_11, e84_12, e84_14, e84_16, e84_19, e84_20, e84_21, e84_24, e84_27, e84_28, e84_31, e84_32, e84_33, e84_34, e84_37, e84_39, e84_41, e84_42, e84_45, e84_46, e84_47, e84_48, e84_49, e84_50, e84_52, e84_53, e84_57, e84_58, e84_61, e84_64, e84_65, e84_68, e84_70, e84_71, e84_73, e84_76, e84_78, e84_79, e84_80, e84_82, e84_84, e84_85, e84_88, e84_91, e84_92, e84_95, e84_97, e84_98, e84_100, e84_103, e84_104, e84_107, e84_109, e84_110, e84_112, e84_115, e84_117, e84_118, e84_119, e84_122, e84_124, e84_125, e84_127, e84_128, e84_130, e84_132, e84_133, e84_134, e84_136, e84_137, e84_140, e84_142, e84_143, e84_145, e84_148, e84_149, e84_150, e84_151, e84_153, e84_155, e84_158, e84_160, e84_161, e84_164, e84_167, e84_168, e84_169, e84_170, e84_173, e84_175, e84_176, e84_178, e84_181, e84_183, e84_184, e84_186, e84_187, e84_188, e84_189, e84_192, e84_195, e84_196, e84_199, s21, s21_0, s21_1, s21_2, s21_3, s21_4, r21_0, r21_1, s22, s23, x1, x2 (a + 1) h1, x22, h2, d1, c3, c4, c5, c5', c6, c6', c7, h5, e1, hM, cl1, cl2, nI_1, nI_add, a22 (show a + 1 < 80 by omega), a22 (show a + 1 + 1 < 80 by omega), ps_v, am_bv_s, am_bw_s, eq_self, true_or, or_true, am_b0, am_b1, am_em, if_true, if_false, true_and, and_true, false_and, and_false, not_true_eq_false, not_false_eq_true, false_or, or_false, Bool.false_eq_true]
                  · rw [if_neg h5]
                    obtain ⟨M', r1, r2, r3⟩ := tail (a + 3) (l.2 (a + 2) - 48) _ none rfl (by omega) (by omega) (by omega)
                    refine ⟨M', ?_, r2, r3⟩
                    rw [← r1, e84_55]
                    simp only [e84_0, e84_1, e84_4, e84_7, e84_8, e84_9, e84_10, e84_11, e84_12, e84_14, e84_16, e84_19, e84_20, e84_21, e84_24, e84_27, e84_28, e84_31, e84_32, e84_33, e84_34, e84_37, e84_39, e84_41, e84_42, e84_45, e84_46, e84_47, e84_48, e84_49, e84_50, e84_52, e84_53, e84_57, e84_58, e84_61, e84_64, e84_65, e84_68, e84_70, e84_71, e84_73, e84_76, e84_78, e84_79, e84_80, e84_82, e84_84, e84_85, e84_88, e84_91, e84_92, e84_95, e84_97, e84_98, e84_100, e84_103, e84_104, e84_107, e84_109, e84_110, e84_112, e84_115, e84_117, e84_118, e84_119, e84_122, e84_124, e84_125, e84_127, e84_128, e84_130, e84_132, e84_133, e84_134, e84_136, e84_137, e84_140, e84_142, e84_143, e84_145, e84_148, e84_149, e84_151, e84_153, e84_155, e84_158, e84_160, e84_161, e84_164, e84_167, e84_168, e84_169, e84_170, e84_173, e84_175, e84_176, e84_178, e84_181, e84_183, e84_184, e84_186, e84_187, e84_188, e84_189, e84_192, e84_195, e84_196, e84_199, s21, s21_0, s21_1, s21_2, s21_3, s21_4, r21_0, r21_1, s22, s23, x1, x2 (a + 1) h1, x22, h2, d1, c3, c4, c5, c5', c6, c6', c7, h5, e1, hM, cl1, cl2, nI_1, nI_add, a22 (show a + 1 < 80 by omega), a22 (show a + 1 + 1 < 80 by omega), am_bv_s, am_bw_s, eq_self, true_or, or_true, am_b0, am_b1, am_em, if_true, if_false, true_and, and_true, false_and, and_false, not_true_eq_false, not_false_eq_true, false_or, or_false, Bool.false_eq_true]
                · rw [if_neg (fun q => h4 q.2)]
                  refine ⟨M, ?_, fun h => by simp at h, am_of.rf⟩
                  rw [e84_55]
                  by_cases h6 : l.2 (a + 2) < 50
                  · simp only [e84_0, e84_1, e84_4, e84_7, e84_8, e84_9, e84_10, e84_11, e84_12, e84_14, e84_16, e84_19, e84_20, e84_21, e84_24, e84_27, e84_28, e84_31, e84_32, e84_33, e84_34, e84_37, e84_39, e84_41, e84_42, e84_45, e84_46, e84_47, e84_48, e84_49, e84_50, e84_52, e84_53, e84_57, e84_58, e84_61, e84_64, e84_65, e84_68, e84_70, e84_71, e84_73, e84_76, e84_78, e84_79, e84_80, e84_82, e84_84, e84_85, e84_88, e84_91, e84_92, e84_95, e84_97, e84_98, e84_100, e84_103, e84_104, e84_107, e84_109, e84_110, e84_112, e84_115, e84_117, e84_118, e84_119, e84_122, e84_124, e84_125, e84_127, e84_128, e84_130, e84_132, e84_133, e84_134, e84_136, e84_137, e84_140, e84_142, e84_143, e84_145, e84_148, e84_149, e84_150, e84_151, e84_153, e84_155, e84_158, e84_160, e84_161, e84_164, e84_167, e84_168, e84_169, e84_170, e84_173, e84_175, e84_176, e84_178, e84_181, e84_183, e84_184, e84_186, e84_187, e84_188, e84_189, e84_192, e84_195, e84_196, e84_199, s21, s21_0, s21_1, s21_2, s21_3, s21_4, r21_0, r21_1, s22, s23, x1, x2 (a + 1) h1, x22, h2, d1, c3, c4, c5, h6, cl1, cl2, nI_1, a22 (show a + 1 < 80 by omega), a22 (show a + 1 + 1 < 80 by omega), ps_v, am_bv_s, am_bw_s, eq_self, true_or, or_true, am_b0, am_b1, am_em, if_true, if_false, true_and, and_true, false_and, and_false, not_true_eq_false, not_false_eq_true, false_or, or_false, Bool.false_eq_true]
                  · have h7 : 57 < l.2 (a + 2) := by omega
                    simp only [e84_0, e84_1, e84_4, e84_7, e84_8, e84_9, e84_10, e84_11, e84_12, e84_14, e84_16, e84_19, e84_20, e84_21, e84_24, e84_27, e84_28, e84_31, e84_32, e84_33, e84_34, e84_37, e84_39, e84_41, e84_42, e84_45, e84_46, e84_47, e84_48, e84_49, e84_50, e84_52, e84_53, e84_57, e84_58, e84_61, e84_64, e84_65, e84_68, e84_70, e84_71, e84_73, e84_76, e84_78, e84_79, e84_80, e84_82, e84_84, e84_85, e84_88, e84_91, e84_92, e84_95, e84_97, e84_98, e84_100, e84_103, e84_104, e84_107, e84_109, e84_110, e84_112, e84_115, e84_117, e84_118, e84_119, e84_122, e84_124, e84_125, e84_127, e84_128, e84_130, e84_132, e84_133, e84_134, e84_136, e84_137, e84_140, e84_142, e84_143, e84_145, e84_148, e84_149, e84_150, e84_151, e84_153, e84_155, e84_158, e84_160, e84_161, e84_164, e84_167, e84_168, e84_169, e84_170, e84_173, e84_175, e84_176, e84_178, e84_181, e84_183, e84_184, e84_186, e84_187, e84_188, e84_189, e84_192, e84_195, e84_196, e84_199, s21, s21_0, s21_1, s21_2, s21_3, s21_4, r21_0, r21_1, s22, s23, x1, x2 (a + 1) h1, x22, h2, d1, c3, c4, c5, c6, h6, h7, cl1, cl2, nI_1, a22 (show a + 1 < 80 by omega), a22 (show a + 1 + 1 < 80 by omega), ps_v, am_bv_s, am_bw_s, eq_self, true_or, or_true, am_b0, am_b1, am_em, if_true, if_false, true_and, and_true, false_and, and_false, not_true_eq_false, not_false_eq_true, false_or, or_false, Bool.false_eq_true]
              · rw [if_neg (fun q => h3 q.1)]
                have c4 : (nI (a + 1 + 1) < nI l.1) = False := eq_false (nI_nlt (by omega) (by omega))
                refine ⟨M, ?_, fun h => by simp at h, am_of.rf⟩
                rw [e84_55]
                simp only [e84_0, e84_1, e84_4, e84_7, e84_8, e84_9, e84_10, e84_11, e84_12, e84_14, e84_16, e84_19, e84_20, e84_21, e84_24, e84_27, e84_28, e84_31, e84_32, e84_33, e84_34, e84_37, e84_39, e84_41, e84_42, e84_45, e84_46, e84_47, e84_48, e84_49, e84_50, e84_52, e84_53, e84_57, e84_58, e84_61, e84_64, e84_65, e84_68, e84_70, e84_71, e84_73, e84_76, e84_78, e84_79, e84_80, e84_82, e84_84, e84_85, e84_88, e84_91, e84_92, e84_95, e84_97, e84_98, e84_100, e84_103, e84_104, e84_107, e84_109, e84_110, e84_112, e84_115, e84_117, e84_118, e84_119, e84_122, e84_124, e84_125, e84_127, e84_128, e84_130, e84_132, e84_133, e84_134, e84_136, e84_137, e84_140, e84_142, e84_143, e84_145, e84_148, e84_149, e84_150, e84_151, e84_153, e84_155, e84_158, e84_160, e84_161, e84_164, e84_167, e84_168, e84_169, e84_170, e84_173, e84_175, e84_176, e84_178, e84_181, e84_183, e84_184, e84_186, e84_187, e84_188, e84_189, e84_192, e84_195, e84_196, e84_199, s21, s21_0, s21_1, s21_2, s21_3, s21_4, r21_0, r21_1, s22, s23, x1, x2 (a + 1) h1, h2, d1, c3, c4, cl1, nI_1, a22 (show a + 1 < 80 by omega), ps_v, am_bv_s, am_bw_s, eq_self, true_or, or_true, am_b0, am_b1, am_em, if_true, if_false, true_and, and_true, false_and, and_false, not_true_eq_false, not_false_eq_true, false_or, or_false, Bool.false_eq_true]
            · rw [if_neg (fun q => h2 q.2)]
              have d1 : (nI (l.2 (a + 1)) = 42) = False := eq_false (fun q => h2 ((nI_eq (b := 42) (by omega) (by omega)).mp q))
              have c7 : ((40 : Int32) < nI w + 1) = (40 < w + 1) := propext (by rw [nI_1]; exact nI_ltI (a := 40) (by decide) (by omega))
              by_cases h5 : 40 < w + 1
              · rw [if_pos h5]
                refine ⟨M, ?_, fun h => by simp at h, am_of.rf⟩
                rw [e84_55]
                simp only [e84_0, e84_1, e84_4, e84_7, e84_8, e84_9, e84_10, e84_11, e84_12, e84_14, e84_16, e84_19, e84_20, e84_21, e84_24, e84_27, e84_28, e84_31, e84_32, e84_33, e84_34, e84_37, e84_39, e84_41, e84_42, e84_45, e84_46, e84_47, e84_48, e84_49, e84_50, e84_52, e84_53, e84_57, e84_58, e84_61, e84_64, e84_65, e84_68, e84_70, e84_71, e84_73, e84_76, e84_78, e84_79, e84_80, e84_82, e84_84, e84_85, e84_88, e84_91, e84_92, e84_95, e84_97, e84_98, e84_100, e84_103, e84_104, e84_107, e84_109, e84_110, e84_112, e84_115, e84_117, e84_118, e84_119, e84_122, e84_124, e84_125, e84_127, e84_128, e84_130, e84_132, e84_133, e84_134, e84_136, e84_137, e84_140, e84_142, e84_143, e84_145, e84_148, e84_149, e84_150, e84_151, e84_153, e84_155, e84_158, e84_160, e84_161, e84_164, e84_167, e84_168, e84_169, e84_170, e84_173, e84_175, e84_176, e84_178, e84_181, e84_183, e84_184, e84_186, e84_187, e84_188, e84_189, e84_192, e84_195, e84_196, e84_199, s21, s21_0, s21_1, s21_2, s21_3, s21_4, r21_0, r21_1, s22, s23, x1, x2 (a + 1) h1, d1, c3, c7, h5, hM, cl1, a22 (show a + 1 < 80 by omega), ps_v, am_bv_s, am_bw_s, eq_self, true_or, or_true, am_b0, am_b1, am_em, if_true, if_false, true_and, and_true, false_and, and_false, not_true_eq_false, not_false_eq_true, false_or, or_false, Bool.false_eq_true]
              · rw [if_neg h5]
                obtain ⟨M', r1, r2, r3⟩ := tail (a + 1) 1 1 none rfl (by omega) (by omega) (by omega)
                refine ⟨M', ?_, r2, r3⟩
                rw [← r1, e84_55]
                simp only [e84_0, e84_1, e84_4, e84_7, e84_8, e84_9, e84_10, e84_11, e84_12, e84_14, e84_16, e84_19, e84_20, e84_21, e84_24, e84_27, e84_28, e84_31, e84_32, e84_33, e84_34, e84_37, e84_39, e84_41, e84_42, e84_45, e84_46, e84_47, e84_48, e84_49, e84_50, e84_52, e84_53, e84_57, e84_58, e84_61, e84_64, e84_65, e84_68, e84_70, e84_71, e84_73, e84_76, e84_78, e84_79, e84_80, e84_82, e84_84, e84_85, e84_88, e84_91, e84_92, e84_95, e84_97, e84_98, e84_100, e84_103, e84_104, e84_107, e84_109, e84_110, e84_112, e84_115, e84_117, e84_118, e84_119, e84_122, e84_124, e84_125, e84_127, e84_128, e84_130, e84_132, e84_133, e84_134, e84_136, e84_137, e84_140, e84_142, e84_143, e84_145, e84_148, e84_149, e84_151, e84_153, e84_155, e84_158, e84_160, e84_161, e84_164, e84_167, e84_168, e84_169, e84_170, e84_173, e84_175, e84_176, e84_178, e84_181, e84_183, e84_184, e84_186, e84_187, e84_188, e84_189, e84_192, e84_195, e84_196, e84_199, s21, s21_0, s21_1, s21_2, s21_3, s21_4, r21_0, r21_1, s22, s23, x1, x2 (a + 1) h1, d1, c3, c7, h5, hM, cl1, a22 (show a + 1 < 80 by omega), am_bv_s, am_bw_s, eq_self, true_or, or_true, am_b0, am_b1, am_em, if_true, if_false, true_and, and_true, false_and, and_false, not_true_eq_false, not_false_eq_true, false_or, or_false, Bool.false_eq_true]
          · rw [if_neg (fun q => h1 q.1)]
            have c3 : (nI (a + 1) < nI l.1) = False := eq_false (nI_nlt (by omega) (by omega))
            have c7 : ((40 : Int32) < nI w + 1) = (40 < w + 1) := propext (by rw [nI_1]; exact nI_ltI (a := 40) (by decide) (by omega))
            by_cases h5 : 40 < w + 1
            · rw [if_pos h5]
              refine ⟨M, ?_, fun h => by simp at h, am_of.rf⟩
              rw [e84_55]
              simp only [e84_0, e84_1, e84_4, e84_7, e84_8, e84_9, e84_10, e84_11, e84_12, e84_14, e84_16, e84_19, e84_20, e84_21, e84_24, e84_27, e84_28, e84_31, e84_32, e84_33, e84_34, e84_37, e84_39, e84_41, e84_42, e84_45, e84_46, e84_47, e84_48, e84_49, e84_50, e84_52, e84_53, e84_57, e84_58, e84_61, e84_64, e84_65, e84_68, e84_70, e84_71, e84_73, e84_76, e84_78, e84_79, e84_80, e84_82, e84_84, e84_85, e84_88, e84_91, e84_92, e84_95, e84_97, e84_98, e84_100, e84_103, e84_104, e84_107, e84_109, e84_110, e84_112, e84_115, e84_117, e84_118, e84_119, e84_122, e84_124, e84_125, e84_127, e84_128, e84_130, e84_132, e84_133, e84_134, e84_136, e84_137, e84_140, e84_142, e84_143, e84_145, e84_148, e84_149, e84_150, e84_151, e84_153, e84_155, e84_158, e84_160, e84_161, e84_164, e84_167, e84_168, e84_169, e84_170, e84_173, e84_175, e84_176, e84_178, e84_181, e84_183, e84_184, e84_186, e84_187, e84_188, e84_189, e84_192, e84_195, e84_196, e84_199, s21, s21_0, s21_1, s21_2, s21_3, s21_4, r21_0, r21_1, s22, s23, x1, c3, c7, h5, hM, ps_v, am_bv_s, am_bw_s, eq_self, true_or, or_true, am_b0, am_b1, am_em, if_true, if_false, true_and, and_true, false_and, and_false, not_true_eq_false, not_false_eq_true, false_or, or_false, Bool.false_eq_true]
            · rw [if_neg h5]
              obtain ⟨M', r1, r2, r3⟩ := tail (a + 1) 1 1 none rfl (by omega) (by omega) (by omega)
              refine ⟨M', ?_, r2, r3⟩
              rw [← r1, e84_55]
              simp only [e84_0, e84_1, e84_4, e84_7, e84_8, e84_9, e84_10, e84_11, e84_12, e84_14, e84_16, e84_19, e84_20, e84_21, e84_24, e84_27, e84_28, e84_31, e84_32, e84_33, e84_34, e84_37, e84_39, e84_41, e84_42, e84_45, e84_46, e84_47, e84_48, e84_49, e84_50, e84_52, e84_53, e84_57, e84_58, e84_61, e84_64, e84_65, e84_68, e84_70, e84_71, e84_73, e84_76, e84_78, e84_79, e84_80, e84_82, e84_84, e84_85, e84_88, e84_91, e84_92, e84_95, e84_97, e84_98, e84_100, e84_103, e84_104, e84_107, e84_109, e84_110, e84_112, e84_115, e84_117, e84_118, e84_119, e84_122, e84_124, e84_125, e84_127, e84_128, e84_130, e84_132, e84_133, e84_134, e84_136, e84_137, e84_140, e84_142, e84_143, e84_145, e84_148, e84_149, e84_151, e84_153, e84_155, e84_158, e84_160, e84_161, e84_164, e84_167, e84_168, e84_169, e84_170, e84_173, e84_175, e84_176, e84_178, e84_181, e84_183, e84_184, e84_186, e84_187, e84_188, e84_189, e84_192, e84_195, e84_196, e84_199, s21, s21_0, s21_1, s21_2, s21_3, s21_4, r21_0, r21_1, s22, s23, x1, c3, c7, h5, hM, am_bv_s, am_bw_s, eq_self, true_or, or_true, am_b0, am_b1, am_em, if_true, if_false, true_and, and_true, false_and, and_false, not_true_eq_false, not_false_eq_true, false_or, or_false, Bool.false_eq_true]
      · have c2 : (nI a < nI l.1) = False := eq_false (nI_nlt (by omega) (by omega))
        unfold ps_part
        rw [if_neg hal]
        obtain rfl : a = l.1 := by omega
        refine ⟨M, ?_, fun h => by simp at h, am_of.rf⟩
        rw [e84_13]
        simp only [e84_0, e84_1, e84_4, e84_7, e84_8, e84_9, e84_10, e84_11, e84_12, e84_14, e84_16, e84_19, e84_20, e84_21, e84_24, e84_27, e84_28, e84_31, e84_32, e84_33, e84_34, e84_37, e84_39, e84_41, e84_42, e84_45, e84_46, e84_47, e84_48, e84_49, e84_50, e84_52, e84_53, e84_55, e84_57, e84_58, e84_61, e84_64, e84_65, e84_68, e84_70, e84_71, e84_73, e84_76, e84_78, e84_79, e84_80, e84_82, e84_84, e84_85, e84_88, e84_91, e84_92, e84_95, e84_97, e84_98, e84_100, e84_103, e84_104, e84_107, e84_109, e84_110, e84_112, e84_115, e84_117, e84_118, e84_119, e84_122, e84_124, e84_125, e84_127, e84_128, e84_130, e84_132, e84_133, e84_134, e84_136, e84_137, e84_140, e84_142, e84_143, e84_145, e84_148, e84_149, e84_150, e84_151, e84_153, e84_155, e84_158, e84_160, e84_161, e84_164, e84_167, e84_168, e84_169, e84_170, e84_173, e84_175, e84_176, e84_178, e84_181, e84_183, e84_184, e84_186, e84_187, e84_188, e84_189, e84_192, e84_195, e84_196, e84_199, s21, s21_0, s21_1, s21_2, s21_3, s21_4, r21_0, r21_1, s22, s23, x1, c1, c2, ps_v, am_bv_s, am_bw_s, eq_self, true_or, or_true, am_b0, am_b1, am_em, if_true, if_false, true_and, and_true, false_and, and_false, not_true_eq_false, not_false_eq_true, false_or, or_false, Bool.false_eq_true]
    · obtain rfl : p = 80 := by omega
      have hal : ¬ a < l.1 := by omega
      have c1 : (nI 80 < 80) = False := eq_false (nI_nlt (a := 80) (b := 80) (by decide) (by decide))
      unfold ps_part
      rw [if_neg hal]
      obtain rfl : a = l.1 := by omega
      refine ⟨M, ?_, fun h => by simp at h, am_of.rf⟩
      rw [e84_13]
      simp only [e84_0, e84_1, e84_4, e84_7, e84_8, e84_9, e84_10, e84_11, e84_12, e84_14, e84_16, e84_19, e84_20, e84_21, e84_24, e84_27, e84_28, e84_31, e84_32, e84_33, e84_34, e84_37, e84_39, e84_41, e84_42, e84_45, e84_46, e84_47, e84_48, e84_49, e84_50, e84_52, e84_53, e84_55, e84_57, e84_58, e84_61, e84_64, e84_65, e84_68, e84_70, e84_71, e84_73, e84_76, e84_78, e84_79, e84_80, e84_82, e84_84, e84_85, e84_88, e84_91, e84_92, e84_95, e84_97, e84_98, e84_100, e84_103, e84_104, e84_107, e84_109, e84_110, e84_112, e84_115, e84_117, e84_118, e84_119, e84_122, e84_124, e84_125, e84_127, e84_128, e84_130, e84_132, e84_133, e84_134, e84_136, e84_137, e84_140, e84_142, e84_143, e84_145, e84_148, e84_149, e84_150, e84_151, e84_153, e84_155, e84_158, e84_160, e84_161, e84_164, e84_167, e84_168, e84_169, e84_170, e84_173, e84_175, e84_176, e84_178, e84_181, e84_183, e84_184, e84_186, e84_187, e84_188, e84_189, e84_192, e84_195, e84_196, e84_199, s21, s21_0, s21_1, s21_2, s21_3, s21_4, r21_0, r21_1, s22, s23, x1, c1, ps_v, am_bv_s, am_bw_s, eq_self, true_or, or_true, am_b0, am_b1, am_em, if_true, if_false, true_and, and_true, false_and, and_false, not_true_eq_false, not_false_eq_true, false_or, or_false, Bool.false_eq_true]
/-- the words as the class keeps them -/
def xW (nb : Nat) (l : sgL) (M : am_Me) : Prop := M.1 21 3 = nI (ps nb l).2.1 ∧ (∀ q, q < (ps nb l).2.1 → M.1 23 q = nI ((ps nb l).2.2 q)) ∧ M.1 21 4 = ps_v (ps nb l).1
def pxW2 (a k : Nat) : Prop := a = 23 ∨ (a = 21 ∧ (k = 3 ∨ k = 4))
theorem x_readAnew {nb : Nat} (hb : nb ≤ 6) (ho : okL l) (hx : xL l M) : ∃ M', am_e X 83 0 [some (.ref (21 : Nat)), some (.int (nI nb))] [] kS M = some (none, kS, M') ∧ xW nb l M' ∧ am_of pxW2 M M' := by
  have hx0 : xL l (am_setI M 21 3 0) := hx.of (P := pxW) (am_of.rf.sI (Or.inr ⟨rfl, rfl⟩)) (fun a' k' q => by unfold pxW at q; omega)
  by_cases h0 : l.1 = 0
  · have c0 : (nI 0 = 0) = True := eq_true rfl
    have hr : am_e X 84 0 [some (.ref (21 : Nat)), some (.int (nI nb)), none, none, none, none, none, none] [] kS (am_setI M 21 3 0) = some (some (.int (-1)), kS, am_setI M 21 3 0) := by
      simp only [e84_0, e84_1, e84_4, e84_7, e84_8, e84_9, e84_10, e84_11, e84_12, e84_14, e84_16, e84_19, e84_20, e84_21, e84_24, e84_27, e84_28, e84_31, e84_32, e84_33, e84_34, e84_37, e84_39, e84_41, e84_42, e84_45, e84_46, e84_47, e84_48, e84_49, e84_50, e84_52, e84_53, e84_55, e84_57, e84_58, e84_61, e84_64, e84_65, e84_68, e84_70, e84_71, e84_73, e84_76, e84_78, e84_79, e84_80, e84_82, e84_84, e84_85, e84_88, e84_91, e84_92, e84_95, e84_97, e84_98, e84_100, e84_103, e84_104, e84_107, e84_109, e84_110, e84_112, e84_115, e84_117, e84_118, e84_119, e84_122, e84_124, e84_125, e84_127, e84_128, e84_130, e84_132, e84_133, e84_134, e84_136, e84_137, e84_140, e84_142, e84_143, e84_145, e84_148, e84_149, e84_150, e84_151, e84_153, e84_155, e84_158, e84_160, e84_161, e84_164, e84_167, e84_168, e84_169, e84_170, e84_173, e84_175, e84_176, e84_178, e84_181, e84_183, e84_184, e84_186, e84_187, e84_188, e84_189, e84_192, e84_195, e84_196, e84_199, s21, s21_0, s21_1, s21_2, s21_3, s21_4, r21_0, r21_1, s22, s23, hx0.1, h0, c0, am_bv_s, am_bw_s, eq_self, true_or, or_true, am_b0, am_b1, am_em, if_true, if_false, true_and, and_true, false_and, and_false, not_true_eq_false, not_false_eq_true, false_or, or_false, Bool.false_eq_true]
    have e1 : (am_setI (am_setI M 21 3 0) 21 4 (-1)).1 21 4 = -1 := by rw [gI, if_pos ⟨rfl, rfl⟩]
    have hps : ps nb l = (none, 0, fun _ => 0) := by unfold ps; rw [if_pos h0]
    refine ⟨am_setI (am_setI M 21 3 0) 21 4 (-1), by simp only [e83_0, e83_1, e83_2, e83_5, e83_6, e83_7, e83_8, e83_11, e83_14, e83_15, e83_18, e83_19, e83_22, e83_23, e83_24, e83_27, s21, s21_0, s21_1, s21_2, s21_3, s21_4, r21_0, r21_1, s22, s23, hr, e1, am_bv_s, am_bw_s, eq_self, true_or, or_true, am_b0, am_b1, am_em, if_true, if_false, true_and, and_true, false_and, and_false, not_true_eq_false, not_false_eq_true, false_or, or_false, Bool.false_eq_true], ⟨?_, ?_, ?_⟩, ?_⟩
    · rw [hps, gI, if_neg (by omega), gI, if_pos ⟨rfl, rfl⟩]; rfl
    · rw [hps]; exact fun q hq => absurd hq (Nat.not_lt_zero _)
    · rw [hps]; exact e1
    · exact (am_of.rf.sI (Or.inr ⟨rfl, Or.inl rfl⟩)).sI (Or.inr ⟨rfl, Or.inr rfl⟩)
  · have c0 : (nI l.1 = 0) = False := by rw [nI_0e (by have := ho.1; omega)]; exact eq_false h0
    obtain ⟨M1, r1, r2, r3⟩ := x_ff (X := X) hb ho 81 0 0 0 0 0 (fun _ => 0) (am_setI M 21 3 0) hx0 (by rw [gI, if_pos ⟨rfl, rfl⟩]; exact nI_0.symm) (fun q hq => absurd hq (Nat.not_lt_zero _)) (by omega) (by omega) (by omega) (by omega) nI_0.symm nI_0.symm
    have hr : am_e X 84 0 [some (.ref (21 : Nat)), some (.int (nI nb)), none, none, none, none, none, none] [] kS (am_setI M 21 3 0) = some (some (.int (ps_v (ps_go nb l 81 0 0 (fun _ => 0)).1)), kS, M1) := by
      rw [← r1]
      simp only [e84_0, e84_1, e84_4, e84_7, e84_8, e84_9, e84_10, e84_11, e84_12, e84_14, e84_16, e84_19, e84_20, e84_21, e84_24, e84_27, e84_28, e84_31, e84_32, e84_33, e84_34, e84_37, e84_39, e84_41, e84_42, e84_45, e84_46, e84_47, e84_48, e84_49, e84_50, e84_52, e84_53, e84_55, e84_57, e84_58, e84_61, e84_64, e84_65, e84_68, e84_70, e84_71, e84_73, e84_76, e84_78, e84_79, e84_80, e84_82, e84_84, e84_85, e84_88, e84_91, e84_92, e84_95, e84_97, e84_98, e84_100, e84_103, e84_104, e84_107, e84_109, e84_110, e84_112, e84_115, e84_117, e84_118, e84_119, e84_122, e84_124, e84_125, e84_127, e84_128, e84_130, e84_132, e84_133, e84_134, e84_136, e84_137, e84_140, e84_142, e84_143, e84_145, e84_148, e84_149, e84_150, e84_151, e84_153, e84_155, e84_158, e84_160, e84_161, e84_164, e84_167, e84_168, e84_169, e84_170, e84_173, e84_175, e84_176, e84_178, e84_181, e84_183, e84_184, e84_186, e84_187, e84_188, e84_189, e84_192, e84_195, e84_196, e84_199, s21, s21_0, s21_1, s21_2, s21_3, s21_4, r21_0, r21_1, s22, s23, hx0.1, c0, am_bv_s, am_bw_s, eq_self, true_or, or_true, am_b0, am_b1, am_em, if_true, if_false, true_and, and_true, false_and, and_false, not_true_eq_false, not_false_eq_true, false_or, or_false, Bool.false_eq_true]
    have hps : ps nb l = ps_go nb l 81 0 0 (fun _ => 0) := by unfold ps; rw [if_neg h0]
    rw [← hps] at hr r2
    have of1 : am_of pxW2 M M1 := (am_of.rf.sI (P := pxW2) (Or.inr ⟨rfl, Or.inl rfl⟩)).tr (r3.mo (fun a' k' q => by unfold pxW at q; unfold pxW2; omega))
    have e1 : ∀ v, (am_setI M1 21 4 v).1 21 4 = v := fun v => by rw [gI, if_pos ⟨rfl, rfl⟩]
    cases hf : (ps nb l).1 with
    | none =>
      rw [hf] at hr
      obtain ⟨y1, y2⟩ := r2 hf
      refine ⟨am_setI M1 21 4 (-1), ?_, ⟨?_, ?_, ?_⟩, of1.sI (Or.inr ⟨rfl, Or.inr rfl⟩)⟩
      · simp only [e83_0, e83_1, e83_2, e83_5, e83_6, e83_7, e83_8, e83_11, e83_14, e83_15, e83_18, e83_19, e83_22, e83_23, e83_24, e83_27, s21, s21_0, s21_1, s21_2, s21_3, s21_4, r21_0, r21_1, s22, s23, hr, ps_v, e1, am_bv_s, am_bw_s, eq_self, true_or, or_true, am_b0, am_b1, am_em, if_true, if_false, true_and, and_true, false_and, and_false, not_true_eq_false, not_false_eq_true, false_or, or_false, Bool.false_eq_true]
      · rw [gI, if_neg (by omega)]; exact y1
      · intro q hq
        rw [gI, if_neg (by omega)]; exact y2 q hq
      · rw [e1, hf]; rfl
    | some p =>
      rw [hf] at hr
      have hp := ps_p hb hf
      have hw := ps_f hf
      have c1 : (nI p = -1) = False := nI_n1 (by have := ho.1; omega)
      refine ⟨am_setI (am_setI M1 21 4 (nI p)) 21 3 0, ?_, ⟨?_, ?_, ?_⟩, (of1.sI (Or.inr ⟨rfl, Or.inr rfl⟩)).sI (Or.inr ⟨rfl, Or.inl rfl⟩)⟩
      · simp only [e83_0, e83_1, e83_2, e83_5, e83_6, e83_7, e83_8, e83_11, e83_14, e83_15, e83_18, e83_19, e83_22, e83_23, e83_24, e83_27, s21, s21_0, s21_1, s21_2, s21_3, s21_4, r21_0, r21_1, s22, s23, hr, ps_v, e1, c1, am_bv_s, am_bw_s, eq_self, true_or, or_true, am_b0, am_b1, am_em, if_true, if_false, true_and, and_true, false_and, and_false, not_true_eq_false, not_false_eq_true, false_or, or_false, Bool.false_eq_true]
      · rw [gI, if_pos ⟨rfl, rfl⟩, hw]; rfl
      · rw [hw]; exact fun q hq => absurd hq (Nat.not_lt_zero _)
      · rw [gI, if_neg (by omega), e1, hf]; rfl
end
