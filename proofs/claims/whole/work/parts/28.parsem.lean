/-! THE LIST read by the reference -/
section
variable {X : am_X} {S : am_Sh} {M : am_Me} {l : sgL}
def pmW (a k : Nat) : Prop := a = 67 ∨ (a = 59 ∧ (k = 11 ∨ k = 12))
theorem mL.of {M M' : am_Me} {P : Nat → Nat → Prop} (hx : mL l M) (ho : am_of P M M') (hP : ∀ a k, P a k → ¬ ((a = 59 ∧ k = 10) ∨ a = 66)) : mL l M' :=
  ⟨((ho _ _ (fun z => hP _ _ z (Or.inl ⟨rfl, rfl⟩))).1).trans hx.1, fun i hi => ((ho _ _ (fun z => hP _ _ z (Or.inr rfl))).1).trans (hx.2 i hi)⟩
theorem m_here {a : Nat} (ho : okL l) (hx : mL l M) (ha : M.1 59 11 = nI a) (hal : a ≤ l.1) : am_e X 163 0 [some (.ref (59 : Nat))] [] kS M = some (some (.int (if a < l.1 then nI (l.2 a) else -1)), kS, M) := by
  have h80 := ho.1
  by_cases h : a < l.1
  · have c1 : (nI a < nI l.1) = True := eq_true (nI_lt h (by omega))
    have cl : (nI a).toNatClampNeg = a := nI_clamp (by omega)
    rw [if_pos h]
    simp only [e163_0, e163_1, e163_4, e163_5, e163_8, e163_11, e163_12, e163_15, e163_16, e163_19, e163_20, e163_23, e163_24, s59, s59_0, s59_1, s59_2, s59_3, s59_4, s59_5, s59_6, s59_7, s59_8, s59_9, s59_10, s59_11, s59_12, s59_13, s59_14, s59_15, s59_16, s59_17, s59_18, s59_19, s59_20, s59_21, s59_22, s59_23, s59_24, s59_25, s59_26, s59_27, s59_28, s59_29, s59_30, s59_31, r59_0, r59_1, r59_2, r59_3, r59_6, r59_8, r59_9, r59_13, r59_15, r59_16, r59_17, r59_19, r59_22, r59_23, r59_26, r59_30, r59_31, s60, s61, s62, s63, s64, s65, s66, s67, s68, s69, s70, s71, s72, s73, s74, s75, s76, hx.1, hx.2 a h, ha, c1, cl, a66 (show a < 80 by omega), am_bv_s, am_bw_s, eq_self, true_or, or_true, am_b0, am_b1, am_em, if_true, if_false, true_and, and_true, false_and, and_false, not_true_eq_false, not_false_eq_true, false_or, or_false, Bool.false_eq_true]
  · have c1 : (nI a < nI l.1) = False := eq_false (nI_nlt (by omega) (by omega))
    rw [if_neg h]
    simp only [e163_0, e163_1, e163_4, e163_5, e163_8, e163_11, e163_12, e163_15, e163_16, e163_19, e163_20, e163_23, e163_24, s59, s59_0, s59_1, s59_2, s59_3, s59_4, s59_5, s59_6, s59_7, s59_8, s59_9, s59_10, s59_11, s59_12, s59_13, s59_14, s59_15, s59_16, s59_17, s59_18, s59_19, s59_20, s59_21, s59_22, s59_23, s59_24, s59_25, s59_26, s59_27, s59_28, s59_29, s59_30, s59_31, r59_0, r59_1, r59_2, r59_3, r59_6, r59_8, r59_9, r59_13, r59_15, r59_16, r59_17, r59_19, r59_22, r59_23, r59_26, r59_30, r59_31, s60, s61, s62, s63, s64, s65, s66, s67, s68, s69, s70, s71, s72, s73, s74, s75, s76, hx.1, ha, c1, am_bv_s, am_bw_s, eq_self, true_or, or_true, am_b0, am_b1, am_em, if_true, if_false, true_and, and_true, false_and, and_false, not_true_eq_false, not_false_eq_true, false_or, or_false, Bool.false_eq_true]
theorem m_isBand (v : Int32) : am_e X 155 0 [some (.ref (59 : Nat)), some (.int v)] [] kS M = some (some (.int (am_b (0 ≤ v ∧ v ≤ M.1 59 5 - 1))), kS, M) := by
  simp only [e155_0, e155_1, e155_2, e155_3, e155_4, e155_7, e155_8, e155_9, e155_10, e155_13, s59, s59_0, s59_1, s59_2, s59_3, s59_4, s59_5, s59_6, s59_7, s59_8, s59_9, s59_10, s59_11, s59_12, s59_13, s59_14, s59_15, s59_16, s59_17, s59_18, s59_19, s59_20, s59_21, s59_22, s59_23, s59_24, s59_25, s59_26, s59_27, s59_28, s59_29, s59_30, s59_31, r59_0, r59_1, r59_2, r59_3, r59_6, r59_8, r59_9, r59_13, r59_15, r59_16, r59_17, r59_19, r59_22, r59_23, r59_26, r59_30, r59_31, s60, s61, s62, s63, s64, s65, s66, s67, s68, s69, s70, s71, s72, s73, s74, s75, s76, q_in v 0 (M.1 59 5 - 1) (by decide : (0 : Int32).toInt64 = 0) rfl, am_bv_s, am_bw_s, eq_self, true_or, or_true, am_b0, am_b1, am_em, if_true, if_false, true_and, and_true, false_and, and_false, not_true_eq_false, not_false_eq_true, false_or, or_false, Bool.false_eq_true]
theorem pred_le {v : Int32} {n : Nat} (hn : n < 2 ^ 31) : (0 ≤ v ∧ v ≤ nI n - 1) ↔ ∃ k : Nat, k < n ∧ v = nI k := by
  have q1 := nI_toInt hn
  have q0 : (1 : Int32).toInt = 1 := by decide
  have q2 : (nI n - 1).toInt = (n : Int) - 1 := by
    rw [Jvm.Kit.i32_sub (by omega) (by omega), q1, q0]
  rw [Int32.le_iff_toInt_le, Int32.le_iff_toInt_le, q2, show (0 : Int32).toInt = 0 from rfl]
  constructor
  · rintro ⟨h1, h2⟩
    obtain ⟨k, hk, rfl⟩ := nI_of (x := v) (by rw [Int32.lt_iff_toInt_lt, show (0 : Int32).toInt = 0 from rfl]; omega)
    rw [nI_toInt hk] at h2
    exact ⟨k, by omega, rfl⟩
  · rintro ⟨k, hk, rfl⟩
    rw [nI_toInt (by omega)]
    omega
theorem m_addLoop {w t : Nat} {kv : Int32} (hw : w + t ≤ 40) : ∀ (k i : Nat) (vi : Int32) (M : am_Me), i + k = t → vi = nI i → M.1 59 12 = nI (w + i) → ∃ M', am_e X 164 138 [some (.ref (59 : Nat)), none, none, some (.int kv), some (.int (nI t)), some (.int vi)] [] kS M = some (some (.int 1), kS, M') ∧ M'.1 59 12 = nI (w + t) ∧ (∀ q, M'.1 67 q = if w + i ≤ q ∧ q < w + t then kv else M.1 67 q) ∧ am_of (fun a k => a = 67 ∨ (a = 59 ∧ k = 12)) M M' := by
  intro k
  induction k with
  | zero =>
    intro i vi M hk hv hM
    subst hv
    obtain rfl : i = t := by omega
    have hc : (nI i < nI i) = False := eq_false (nI_nlt (by omega) (by omega))
    refine ⟨M, ?_, hM, fun q => by rw [if_neg (by omega)], am_of.rf⟩
    rw [e164_138]
    simp only [e164_0, e164_1, e164_4, e164_5, e164_6, e164_9, e164_11, e164_12, e164_13, e164_14, e164_17, e164_19, e164_22, e164_24, e164_27, e164_28, e164_29, e164_32, e164_35, e164_36, e164_39, e164_40, e164_41, e164_42, e164_43, e164_46, e164_47, e164_48, e164_49, e164_50, e164_53, e164_54, e164_55, e164_58, e164_59, e164_61, e164_62, e164_65, e164_67, e164_70, e164_71, e164_72, e164_75, e164_76, e164_77, e164_80, e164_81, e164_84, e164_86, e164_87, e164_89, e164_91, e164_92, e164_95, e164_98, e164_101, e164_104, e164_105, e164_106, e164_107, e164_108, e164_111, e164_112, e164_113, e164_116, e164_117, e164_120, e164_122, e164_123, e164_125, e164_128, e164_129, e164_130, e164_133, e164_134, e164_135, e164_136, e164_140, e164_142, e164_145, e164_146, e164_149, e164_150, e164_153, e164_154, e164_155, e164_156, e164_157, e164_160, e164_161, e164_162, e164_165, e164_168, e164_171, e164_172, hc, am_bv_s, am_bw_s, eq_self, true_or, or_true, am_b0, am_b1, am_em, if_true, if_false, true_and, and_true, false_and, and_false, not_true_eq_false, not_false_eq_true, false_or, or_false, Bool.false_eq_true]
  | succ k ih =>
    intro i vi M hk hv hM
    subst hv
    have hc : (nI i < nI t) = True := eq_true (nI_lt (by omega) (by omega))
    have hcl : (nI (w + i)).toNatClampNeg = w + i := nI_clamp (by omega)
    have e1 : (am_setI M 67 (w + i) kv).1 59 12 = nI (w + i) := by rw [gI, if_neg (by omega)]; exact hM
    obtain ⟨M', r1, r2, r3, r4⟩ := ih (i + 1) (nI (i + 1)) (am_setI (am_setI M 67 (w + i) kv) 59 12 (nI (w + i + 1))) (by omega) rfl (by rw [gI, if_pos ⟨rfl, rfl⟩]; rfl)
    refine ⟨M', ?_, r2, fun q => ?_, ((am_of.rf.sI (Or.inl rfl)).sI (Or.inr ⟨rfl, rfl⟩)).tr r4⟩
    · rw [← r1, e164_138]
      simp only [e164_0, e164_1, e164_4, e164_5, e164_6, e164_9, e164_11, e164_12, e164_13, e164_14, e164_17, e164_19, e164_22, e164_24, e164_27, e164_28, e164_29, e164_32, e164_35, e164_36, e164_39, e164_40, e164_41, e164_42, e164_43, e164_46, e164_47, e164_48, e164_49, e164_50, e164_53, e164_54, e164_55, e164_58, e164_59, e164_61, e164_62, e164_65, e164_67, e164_70, e164_71, e164_72, e164_75, e164_76, e164_77, e164_80, e164_81, e164_84, e164_86, e164_87, e164_89, e164_91, e164_92, e164_95, e164_98, e164_101, e164_104, e164_105, e164_106, e164_107, e164_108, e164_111, e164_112, e164_113, e164_116, e164_117, e164_120, e164_122, e164_123, e164_125, e164_128, e164_129, e164_130, e164_133, e164_134, e164_135, e164_136, e164_140, e164_142, e164_145, e164_146, e164_149, e164_150, e164_153, e164_154, e164_155, e164_156, e164_157, e164_160, e164_161, e164_162, e164_165, e164_168, e164_171, e164_172, s59, s59_0, s59_1, s59_2, s59_3, s59_4, s59_5, s59_6, s59_7, s59_8, s59_9, s59_10, s59_11, s59_12, s59_13, s59_14, s59_15, s59_16, s59_17, s59_18, s59_19, s59_20, s59_21, s59_22, s59_23, s59_24, s59_25, s59_26, s59_27, s59_28, s59_29, s59_30, s59_31, r59_0, r59_1, r59_2, r59_3, r59_6, r59_8, r59_9, r59_13, r59_15, r59_16, r59_17, r59_19, r59_22, r59_23, r59_26, r59_30, r59_31, s60, s61, s62, s63, s64, s65, s66, s67, s68, s69, s70, s71, s72, s73, s74, s75, s76, hc, hM, hcl, e1, nI_1, a67 (show w + i < 50 by omega), am_bv_s, am_bw_s, eq_self, true_or, or_true, am_b0, am_b1, am_em, if_true, if_false, true_and, and_true, false_and, and_false, not_true_eq_false, not_false_eq_true, false_or, or_false, Bool.false_eq_true]
    · rw [r3]
      by_cases h1 : w + (i + 1) ≤ q ∧ q < w + t
      · rw [if_pos h1, if_pos (by omega)]
      · rw [if_neg h1, gI, if_neg (by omega), gI]
        by_cases h2 : q = w + i
        · rw [if_pos ⟨rfl, h2⟩, if_pos (by omega)]
        · rw [if_neg (fun z => h2 z.2), if_neg (by omega)]
theorem ch_sub {c : Nat} (hc : c ≤ 255) : (nI c - 48).toInt = (c : Int) - 48 := by
  have t1 := nI_toInt (n := c) (by omega)
  have : (48 : Int32).toInt = 48 := by decide
  rw [Jvm.Kit.i32_sub (by omega) (by omega), t1, this]
/-- a part read: the fault, or its end -/
theorem m_part {nb : Nat} (hb : nb ≤ 6) (ho : okL l) {a w : Nat} {kd : Nat → Nat} (hx : mL l M) (hB : M.1 59 5 = nI nb) (hA : M.1 59 11 = nI a) (hM : M.1 59 12 = nI w) (hk : ∀ q, q < w → M.1 67 q = nI (kd q)) (hw : w ≤ 40) (ha : a ≤ l.1) :
    ∃ M', am_of pmW M M' ∧ ((∃ p, ps_part nb l a w = .inl p ∧ am_e X 164 0 [some (.ref (59 : Nat)), none, none, none, none, none] [] kS M = some (some (.int 0), kS, M') ∧ M'.1 59 11 = nI p) ∨
      (∃ b k t, ps_part nb l a w = .inr (b, k, t) ∧ am_e X 164 0 [some (.ref (59 : Nat)), none, none, none, none, none] [] kS M = some (some (.int 1), kS, M') ∧ M'.1 59 11 = nI b ∧ M'.1 59 12 = nI (w + t) ∧ ∀ q, q < w + t → M'.1 67 q = nI (ps_ext kd w t k q))) := by
  have h80 := ho.1
  have hh := m_here (X := X) ho hx hA ha
  by_cases hal : a < l.1
  · rw [if_pos hal] at hh
    have hta := ho.2 a hal
    have isb := m_isBand (X := X) (M := M) (nI (l.2 a) - 48)
    rw [hB] at isb
    have e1 : (nI (l.2 a) = 102) = (l.2 a = 102) := propext (nI_eq (b := 102) (by omega) (by omega))
    have e2 : (0 ≤ nI (l.2 a) - 48 ∧ nI (l.2 a) - 48 ≤ nI nb - 1) ↔ (48 ≤ l.2 a ∧ l.2 a < 48 + nb) := by
      rw [pred_le (by omega)]
      have q := ch_sub hta
      constructor
      · rintro ⟨k, hk1, hk2⟩
        rw [hk2, nI_toInt (by omega)] at q
        omega
      · rintro ⟨q1, q2⟩
        exact ⟨l.2 a - 48, by omega, pk_sub (b := 48) (by omega)⟩
    cases hkd : ps_kd nb (l.2 a) with
    | none =>
      have n1 : (l.2 a = 102) = False := by
        unfold ps_kd at hkd
        split at hkd
        · cases hkd
        · rename_i h; exact eq_false h
      have n2 : ¬ (48 ≤ l.2 a ∧ l.2 a < 48 + nb) := by
        unfold ps_kd at hkd
        split at hkd
        · cases hkd
        · split at hkd
          · cases hkd
          · rename_i h; exact h
      rw [am_bf (fun q => n2 (e2.mp q))] at isb
      refine ⟨M, am_of.rf, Or.inl ⟨a, by unfold ps_part; rw [if_pos hal, hkd], ?_, hA⟩⟩
      simp only [e164_0, e164_1, e164_4, e164_5, e164_6, e164_9, e164_11, e164_12, e164_13, e164_14, e164_17, e164_19, e164_22, e164_24, e164_27, e164_28, e164_29, e164_32, e164_35, e164_36, e164_39, e164_40, e164_41, e164_42, e164_43, e164_46, e164_47, e164_48, e164_49, e164_50, e164_53, e164_54, e164_55, e164_58, e164_59, e164_61, e164_62, e164_65, e164_67, e164_70, e164_71, e164_72, e164_75, e164_76, e164_77, e164_80, e164_81, e164_84, e164_86, e164_87, e164_89, e164_91, e164_92, e164_95, e164_98, e164_101, e164_104, e164_105, e164_106, e164_107, e164_108, e164_111, e164_112, e164_113, e164_116, e164_117, e164_120, e164_122, e164_123, e164_125, e164_128, e164_129, e164_130, e164_133, e164_134, e164_135, e164_136, e164_140, e164_142, e164_145, e164_146, e164_149, e164_150, e164_153, e164_154, e164_155, e164_156, e164_157, e164_160, e164_161, e164_162, e164_165, e164_168, e164_171, e164_172, s59, s59_0, s59_1, s59_2, s59_3, s59_4, s59_5, s59_6, s59_7, s59_8, s59_9, s59_10, s59_11, s59_12, s59_13, s59_14, s59_15, s59_16, s59_17, s59_18, s59_19, s59_20, s59_21, s59_22, s59_23, s59_24, s59_25, s59_26, s59_27, s59_28, s59_29, s59_30, s59_31, r59_0, r59_1, r59_2, r59_3, r59_6, r59_8, r59_9, r59_13, r59_15, r59_16, r59_17, r59_19, r59_22, r59_23, r59_26, r59_30, r59_31, s60, s61, s62, s63, s64, s65, s66, s67, s68, s69, s70, s71, s72, s73, s74, s75, s76, hh, isb, e1, n1, hA, am_bv_s, am_bw_s, eq_self, true_or, or_true, am_b0, am_b1, am_em, if_true, if_false, true_and, and_true, false_and, and_false, not_true_eq_false, not_false_eq_true, false_or, or_false, Bool.false_eq_true]
    | some k =>
      have hk6 := ps_kd_le hb hkd
      have run1 : am_e X 164 0 [some (.ref (59 : Nat)), none, none, none, none, none] [] kS M = am_e X 164 48 [some (.ref (59 : Nat)), some (.int (nI a)), none, some (.int (nI k)), none, none] [] kS M := by
        have ck : (nI k = -1) = False := nI_n1 (by omega)
        unfold ps_kd at hkd
        by_cases h1 : l.2 a = 102
        · rw [if_pos h1] at hkd
          cases hkd
          have ck6 : ((6 : Int32) = -1) = False := eq_false (by decide)
          simp only [e164_0, e164_1, e164_4, e164_5, e164_6, e164_9, e164_11, e164_12, e164_13, e164_14, e164_17, e164_19, e164_22, e164_24, e164_27, e164_28, e164_29, e164_32, e164_35, e164_36, e164_39, e164_40, e164_41, e164_42, e164_43, e164_46, e164_47, e164_49, e164_50, e164_53, e164_54, e164_55, e164_58, e164_59, e164_61, e164_62, e164_65, e164_67, e164_70, e164_71, e164_72, e164_75, e164_76, e164_77, e164_80, e164_81, e164_84, e164_86, e164_87, e164_89, e164_91, e164_92, e164_95, e164_98, e164_101, e164_104, e164_105, e164_106, e164_107, e164_108, e164_111, e164_112, e164_113, e164_116, e164_117, e164_120, e164_122, e164_123, e164_125, e164_128, e164_129, e164_130, e164_133, e164_134, e164_135, e164_136, e164_140, e164_142, e164_145, e164_146, e164_149, e164_150, e164_153, e164_154, e164_155, e164_156, e164_157, e164_160, e164_161, e164_162, e164_165, e164_168, e164_171, e164_172, s59, s59_0, s59_1, s59_2, s59_3, s59_4, s59_5, s59_6, s59_7, s59_8, s59_9, s59_10, s59_11, s59_12, s59_13, s59_14, s59_15, s59_16, s59_17, s59_18, s59_19, s59_20, s59_21, s59_22, s59_23, s59_24, s59_25, s59_26, s59_27, s59_28, s59_29, s59_30, s59_31, r59_0, r59_1, r59_2, r59_3, r59_6, r59_8, r59_9, r59_13, r59_15, r59_16, r59_17, r59_19, r59_22, r59_23, r59_26, r59_30, r59_31, s60, s61, s62, s63, s64, s65, s66, s67, s68, s69, s70, s71, s72, s73, s74, s75, s76, hh, e1, h1, hA, ck6, am_bv_s, am_bw_s, eq_self, true_or, or_true, am_b0, am_b1, am_em, if_true, if_false, true_and, and_true, false_and, and_false, not_true_eq_false, not_false_eq_true, false_or, or_false, Bool.false_eq_true]
          rfl
        · rw [if_neg h1] at hkd
          by_cases h2 : 48 ≤ l.2 a ∧ l.2 a < 48 + nb
          · rw [if_pos h2] at hkd
            cases hkd
            rw [am_bt (e2.mpr h2)] at isb
            have e3 : nI (l.2 a) - 48 = nI (l.2 a - 48) := pk_sub (b := 48) (by omega)
            rw [e3] at isb
            have o0 : ((1 : Int32) = 0) = False := eq_false (by decide)
            simp only [e164_0, e164_1, e164_4, e164_5, e164_6, e164_9, e164_11, e164_12, e164_13, e164_14, e164_17, e164_19, e164_22, e164_24, e164_27, e164_28, e164_29, e164_32, e164_35, e164_36, e164_39, e164_40, e164_41, e164_42, e164_43, e164_46, e164_47, e164_49, e164_50, e164_53, e164_54, e164_55, e164_58, e164_59, e164_61, e164_62, e164_65, e164_67, e164_70, e164_71, e164_72, e164_75, e164_76, e164_77, e164_80, e164_81, e164_84, e164_86, e164_87, e164_89, e164_91, e164_92, e164_95, e164_98, e164_101, e164_104, e164_105, e164_106, e164_107, e164_108, e164_111, e164_112, e164_113, e164_116, e164_117, e164_120, e164_122, e164_123, e164_125, e164_128, e164_129, e164_130, e164_133, e164_134, e164_135, e164_136, e164_140, e164_142, e164_145, e164_146, e164_149, e164_150, e164_153, e164_154, e164_155, e164_156, e164_157, e164_160, e164_161, e164_162, e164_165, e164_168, e164_171, e164_172, s59, s59_0, s59_1, s59_2, s59_3, s59_4, s59_5, s59_6, s59_7, s59_8, s59_9, s59_10, s59_11, s59_12, s59_13, s59_14, s59_15, s59_16, s59_17, s59_18, s59_19, s59_20, s59_21, s59_22, s59_23, s59_24, s59_25, s59_26, s59_27, s59_28, s59_29, s59_30, s59_31, r59_0, r59_1, r59_2, r59_3, r59_6, r59_8, r59_9, r59_13, r59_15, r59_16, r59_17, r59_19, r59_22, r59_23, r59_26, r59_30, r59_31, s60, s61, s62, s63, s64, s65, s66, s67, s68, s69, s70, s71, s72, s73, s74, s75, s76, hh, isb, e1, e3, h1, hA, ck, o0, am_bv_s, am_bw_s, eq_self, true_or, or_true, am_b0, am_b1, am_em, if_true, if_false, true_and, and_true, false_and, and_false, not_true_eq_false, not_false_eq_true, false_or, or_false, Bool.false_eq_true]
          · rw [if_neg h2] at hkd
            cases hkd
      generalize hM1 : am_setI M 59 11 (nI (a + 1)) = M1
      have of1 : am_of pmW M M1 := by rw [← hM1]; exact am_of.rf.sI (Or.inr ⟨rfl, Or.inl rfl⟩)
      have x1 : mL l M1 := hx.of of1 (fun a' k' q => by unfold pmW at q; omega)
      have A1 : M1.1 59 11 = nI (a + 1) := by rw [← hM1, gI, if_pos ⟨rfl, rfl⟩]
      have W1 : M1.1 59 12 = nI w := by rw [← hM1, gI, if_neg (by omega)]; exact hM
      have K1 : ∀ q, M1.1 67 q = M.1 67 q := fun q => by rw [← hM1, gI, if_neg (by omega)]
      have hh1 := m_here (X := X) ho x1 A1 (by omega)
      -- the tail: so many words
      have tail : ∀ (t b : Nat) (vt : Int32) (o2 o5 : Option Value) (M2 : am_Me), vt = nI t → am_of pmW M M2 → M2.1 59 11 = nI b → M2.1 59 12 = nI w → (∀ q, M2.1 67 q = M.1 67 q) → t ≤ 9 → 1 ≤ t →
          ∃ M', am_of pmW M M' ∧ ((40 < w + t ∧ am_e X 164 116 [some (.ref (59 : Nat)), some (.int (nI a)), o2, some (.int (nI k)), some (.int vt), o5] [] kS M2 = some (some (.int 0), kS, M') ∧ M'.1 59 11 = nI a) ∨ (w + t ≤ 40 ∧ am_e X 164 116 [some (.ref (59 : Nat)), some (.int (nI a)), o2, some (.int (nI k)), some (.int vt), o5] [] kS M2 = some (some (.int 1), kS, M') ∧ M'.1 59 11 = nI b ∧ M'.1 59 12 = nI (w + t) ∧ ∀ q, q < w + t → M'.1 67 q = nI (ps_ext kd w t k q))) := by
        intro t b vt o2 o5 M2 hvt of2 A2 W2 K2 ht9 ht1
        subst hvt
        have c7 : ((40 : Int32) < nI (w + t)) = (40 < w + t) := propext (nI_ltI (a := 40) (by decide) (by omega))
        by_cases h5 : 40 < w + t
        · refine ⟨am_setI M2 59 11 (nI a), of2.sI (Or.inr ⟨rfl, Or.inl rfl⟩), Or.inl ⟨h5, ?_, by rw [gI, if_pos ⟨rfl, rfl⟩]⟩⟩
          simp only [e164_0, e164_1, e164_4, e164_5, e164_6, e164_9, e164_11, e164_12, e164_13, e164_14, e164_17, e164_19, e164_22, e164_24, e164_27, e164_28, e164_29, e164_32, e164_35, e164_36, e164_39, e164_40, e164_41, e164_42, e164_43, e164_46, e164_47, e164_48, e164_49, e164_50, e164_53, e164_54, e164_55, e164_58, e164_59, e164_61, e164_62, e164_65, e164_67, e164_70, e164_71, e164_72, e164_75, e164_76, e164_77, e164_80, e164_81, e164_84, e164_86, e164_87, e164_89, e164_91, e164_92, e164_95, e164_98, e164_101, e164_104, e164_105, e164_106, e164_107, e164_108, e164_111, e164_112, e164_113, e164_116, e164_117, e164_120, e164_122, e164_123, e164_125, e164_128, e164_129, e164_130, e164_133, e164_134, e164_135, e164_136, e164_140, e164_142, e164_145, e164_146, e164_149, e164_150, e164_153, e164_154, e164_155, e164_156, e164_157, e164_160, e164_161, e164_162, e164_165, e164_168, e164_171, e164_172, s59, s59_0, s59_1, s59_2, s59_3, s59_4, s59_5, s59_6, s59_7, s59_8, s59_9, s59_10, s59_11, s59_12, s59_13, s59_14, s59_15, s59_16, s59_17, s59_18, s59_19, s59_20, s59_21, s59_22, s59_23, s59_24, s59_25, s59_26, s59_27, s59_28, s59_29, s59_30, s59_31, r59_0, r59_1, r59_2, r59_3, r59_6, r59_8, r59_9, r59_13, r59_15, r59_16, r59_17, r59_19, r59_22, r59_23, r59_26, r59_30, r59_31, s60, s61, s62, s63, s64, s65, s66, s67, s68, s69, s70, s71, s72, s73, s74, s75, s76, W2, nI_add, c7, h5, am_bv_s, am_bw_s, eq_self, true_or, or_true, am_b0, am_b1, am_em, if_true, if_false, true_and, and_true, false_and, and_false, not_true_eq_false, not_false_eq_true, false_or, or_false, Bool.false_eq_true]
        · obtain ⟨M', r1, r2, r3, r4⟩ := m_addLoop (X := X) (w := w) (t := t) (kv := nI k) (by omega) t 0 0 M2 (by omega) nI_0.symm W2
          refine ⟨M', of2.tr (r4.mo (fun a' k' q => by unfold pmW; omega)), Or.inr ⟨by omega, ?_, ?_, r2, fun q hq => ?_⟩⟩
          · rw [← r1]
            simp only [e164_0, e164_1, e164_4, e164_5, e164_6, e164_9, e164_11, e164_12, e164_13, e164_14, e164_17, e164_19, e164_22, e164_24, e164_27, e164_28, e164_29, e164_32, e164_35, e164_36, e164_39, e164_40, e164_41, e164_42, e164_43, e164_46, e164_47, e164_48, e164_49, e164_50, e164_53, e164_54, e164_55, e164_58, e164_59, e164_61, e164_62, e164_65, e164_67, e164_70, e164_71, e164_72, e164_75, e164_76, e164_77, e164_80, e164_81, e164_84, e164_86, e164_87, e164_89, e164_91, e164_92, e164_95, e164_98, e164_101, e164_104, e164_105, e164_106, e164_107, e164_108, e164_111, e164_112, e164_113, e164_116, e164_117, e164_120, e164_122, e164_123, e164_125, e164_128, e164_129, e164_130, e164_133, e164_134, e164_135, e164_136, e164_140, e164_142, e164_145, e164_146, e164_149, e164_150, e164_153, e164_154, e164_155, e164_156, e164_157, e164_160, e164_161, e164_162, e164_165, e164_168, e164_171, e164_172, s59, s59_0, s59_1, s59_2, s59_3, s59_4, s59_5, s59_6, s59_7, s59_8, s59_9, s59_10, s59_11, s59_12, s59_13, s59_14, s59_15, s59_16, s59_17, s59_18, s59_19, s59_20, s59_21, s59_22, s59_23, s59_24, s59_25, s59_26, s59_27, s59_28, s59_29, s59_30, s59_31, r59_0, r59_1, r59_2, r59_3, r59_6, r59_8, r59_9, r59_13, r59_15, r59_16, r59_17, r59_19, r59_22, r59_23, r59_26, r59_30, r59_31, s60, s61, s62, s63, s64, s65, s66, s67, s68, s69, s70, s71, s72, s73, s74, s75, s76, W2, nI_add, c7, h5, am_bv_s, am_bw_s, eq_self, true_or, or_true, am_b0, am_b1, am_em, if_true, if_false, true_and, and_true, false_and, and_false, not_true_eq_false, not_false_eq_true, false_or, or_false, Bool.false_eq_true]
          · rw [(r4 _ _ (by omega)).1]; exact A2
          · rw [r3]
            unfold ps_ext
            by_cases e : w ≤ q ∧ q < w + t
            · rw [if_pos (by omega), if_pos e]
            · rw [if_neg (by omega), if_neg e, K2]; exact hk q (by omega)
      have run2 : am_e X 164 48 [some (.ref (59 : Nat)), some (.int (nI a)), none, some (.int (nI k)), none, none] [] kS M = am_e X 164 61 [some (.ref (59 : Nat)), some (.int (nI a)), none, some (.int (nI k)), some (.int 1), none] [] kS M1 := by
        rw [← hM1, e164_48]
        simp only [e164_0, e164_1, e164_4, e164_5, e164_6, e164_9, e164_11, e164_12, e164_13, e164_14, e164_17, e164_19, e164_22, e164_24, e164_27, e164_28, e164_29, e164_32, e164_35, e164_36, e164_39, e164_40, e164_41, e164_42, e164_43, e164_46, e164_47, e164_49, e164_50, e164_53, e164_54, e164_55, e164_58, e164_59, e164_62, e164_65, e164_67, e164_70, e164_71, e164_72, e164_75, e164_76, e164_77, e164_80, e164_81, e164_84, e164_86, e164_87, e164_89, e164_91, e164_92, e164_95, e164_98, e164_101, e164_104, e164_105, e164_106, e164_107, e164_108, e164_111, e164_112, e164_113, e164_116, e164_117, e164_120, e164_122, e164_123, e164_125, e164_128, e164_129, e164_130, e164_133, e164_134, e164_135, e164_136, e164_140, e164_142, e164_145, e164_146, e164_149, e164_150, e164_153, e164_154, e164_155, e164_156, e164_157, e164_160, e164_161, e164_162, e164_165, e164_168, e164_171, e164_172, s59, s59_0, s59_1, s59_2, s59_3, s59_4, s59_5, s59_6, s59_7, s59_8, s59_9, s59_10, s59_11, s59_12, s59_13, s59_14, s59_15, s59_16, s59_17, s59_18, s59_19, s59_20, s59_21, s59_22, s59_23, s59_24, s59_25, s59_26, s59_27, s59_28, s59_29, s59_30, s59_31, r59_0, r59_1, r59_2, r59_3, r59_6, r59_8, r59_9, r59_13, r59_15, r59_16, r59_17, r59_19, r59_22, r59_23, r59_26, r59_30, r59_31, s60, s61, s62, s63, s64, s65, s66, s67, s68, s69, s70, s71, s72, s73, s74, s75, s76, hA, nI_1, am_bv_s, am_bw_s, eq_self, true_or, or_true, am_b0, am_b1, am_em, if_true, if_false, true_and, and_true, false_and, and_false, not_true_eq_false, not_false_eq_true, false_or, or_false, Bool.false_eq_true]
      unfold ps_part
      rw [if_pos hal, hkd, run1, run2]
      dsimp only
      by_cases h1 : a + 1 < l.1 ∧ l.2 (a + 1) = 42
      · rw [if_pos h1]
        rw [if_pos h1.1, h1.2] at hh1
        have d1 : (nI 42 = 42) = True := eq_true rfl
        generalize hM2 : am_setI M1 59 11 (nI (a + 2)) = M2
        have of2 : am_of pmW M M2 := by rw [← hM2]; exact of1.sI (Or.inr ⟨rfl, Or.inl rfl⟩)
        have x2 : mL l M2 := hx.of of2 (fun a' k' q => by unfold pmW at q; omega)
        have A2 : M2.1 59 11 = nI (a + 2) := by rw [← hM2, gI, if_pos ⟨rfl, rfl⟩]
        have W2 : M2.1 59 12 = nI w := by rw [← hM2, gI, if_neg (by omega)]; exact W1
        have K2 : ∀ q, M2.1 67 q = M.1 67 q := fun q => by rw [← hM2, gI, if_neg (by omega)]; exact K1 q
        have hh2 := m_here (X := X) ho x2 A2 (by omega)
        have run3 : am_e X 164 61 [some (.ref (59 : Nat)), some (.int (nI a)), none, some (.int (nI k)), some (.int 1), none] [] kS M1 = am_e X 164 80 [some (.ref (59 : Nat)), some (.int (nI a)), none, some (.int (nI k)), some (.int 1), none] [] kS M2 := by
          rw [← hM2, e164_61]
          simp only [e164_0, e164_1, e164_4, e164_5, e164_6, e164_9, e164_11, e164_12, e164_13, e164_14, e164_17, e164_19, e164_22, e164_24, e164_27, e164_28, e164_29, e164_32, e164_35, e164_36, e164_39, e164_40, e164_41, e164_42, e164_43, e164_46, e164_47, e164_48, e164_49, e164_50, e164_53, e164_54, e164_55, e164_58, e164_59, e164_62, e164_65, e164_67, e164_70, e164_71, e164_72, e164_75, e164_76, e164_77, e164_81, e164_84, e164_86, e164_87, e164_89, e164_91, e164_92, e164_95, e164_98, e164_101, e164_104, e164_105, e164_106, e164_107, e164_108, e164_111, e164_112, e164_113, e164_116, e164_117, e164_120, e164_122, e164_123, e164_125, e164_128, e164_129, e164_130, e164_133, e164_134, e164_135, e164_136, e164_140, e164_142, e164_145, e164_146, e164_149, e164_150, e164_153, e164_154, e164_155, e164_156, e164_157, e164_160, e164_161, e164_162, e164_165, e164_168, e164_171, e164_172, s59, s59_0, s59_1, s59_2, s59_3, s59_4, s59_5, s59_6, s59_7, s59_8, s59_9, s59_10, s59_11, s59_12, s59_13, s59_14, s59_15, s59_16, s59_17, s59_18, s59_19, s59_20, s59_21, s59_22, s59_23, s59_24, s59_25, s59_26, s59_27, s59_28, s59_29, s59_30, s59_31, r59_0, r59_1, r59_2, r59_3, r59_6, r59_8, r59_9, r59_13, r59_15, r59_16, r59_17, r59_19, r59_22, r59_23, r59_26, r59_30, r59_31, s60, s61, s62, s63, s64, s65, s66, s67, s68, s69, s70, s71, s72, s73, s74, s75, s76, hh1, d1, A1, nI_1, am_bv_s, am_bw_s, eq_self, true_or, or_true, am_b0, am_b1, am_em, if_true, if_false, true_and, and_true, false_and, and_false, not_true_eq_false, not_false_eq_true, false_or, or_false, Bool.false_eq_true]
        rw [run3]
        by_cases h3 : a + 2 < l.1
        · rw [if_pos h3] at hh2
          have ht2 := ho.2 (a + 2) h3
          have isi := q_in (X := X) (S := kS) (M := M2) (nI (l.2 (a + 2)) - 48) 2 9 (by decide : (2 : Int32).toInt64 = 2) (by decide : (9 : Int32).toInt64 = 9)
          have e9 : (2 ≤ nI (l.2 (a + 2)) - 48 ∧ nI (l.2 (a + 2)) - 48 ≤ 9) ↔ (50 ≤ l.2 (a + 2) ∧ l.2 (a + 2) ≤ 57) := by
            have q := ch_sub ht2
            rw [Int32.le_iff_toInt_le, Int32.le_iff_toInt_le, q, show (2 : Int32).toInt = 2 from by decide, show (9 : Int32).toInt = 9 from by decide]
            omega
          by_cases h4 : 50 ≤ l.2 (a + 2) ∧ l.2 (a + 2) ≤ 57
          · rw [if_pos ⟨h3, h4⟩]
            rw [am_bt (e9.mpr h4)] at isi
            have e3 : nI (l.2 (a + 2)) - 48 = nI (l.2 (a + 2) - 48) := pk_sub (b := 48) (by omega)
            rw [e3] at isi
            have o0 : ((1 : Int32) = 0) = False := eq_false (by decide)
            generalize hM3 : am_setI M2 59 11 (nI (a + 3)) = M3
            have of3 : am_of pmW M M3 := by rw [← hM3]; exact of2.sI (Or.inr ⟨rfl, Or.inl rfl⟩)
            have A3 : M3.1 59 11 = nI (a + 3) := by rw [← hM3, gI, if_pos ⟨rfl, rfl⟩]
            have W3 : M3.1 59 12 = nI w := by rw [← hM3, gI, if_neg (by omega)]; exact W2
            have K3 : ∀ q, M3.1 67 q = M.1 67 q := fun q => by rw [← hM3, gI, if_neg (by omega)]; exact K2 q
            have run4 : am_e X 164 80 [some (.ref (59 : Nat)), some (.int (nI a)), none, some (.int (nI k)), some (.int 1), none] [] kS M2 = am_e X 164 116 [some (.ref (59 : Nat)), some (.int (nI a)), none, some (.int (nI k)), some (.int (nI (l.2 (a + 2) - 48))), none] [] kS M3 := by
              rw [← hM3, e164_80]
              simp only [e164_0, e164_1, e164_4, e164_5, e164_6, e164_9, e164_11, e164_12, e164_13, e164_14, e164_17, e164_19, e164_22, e164_24, e164_27, e164_28, e164_29, e164_32, e164_35, e164_36, e164_39, e164_40, e164_41, e164_42, e164_43, e164_46, e164_47, e164_48, e164_49, e164_50, e164_53, e164_54, e164_55, e164_58, e164_59, e164_61, e164_62, e164_65, e164_67, e164_70, e164_71, e164_72, e164_75, e164_76, e164_77, e164_81, e164_84, e164_86, e164_87, e164_89, e164_91, e164_92, e164_95, e164_98, e164_101, e164_104, e164_105, e164_106, e164_107, e164_108, e164_111, e164_112, e164_113, e164_117, e164_120, e164_122, e164_123, e164_125, e164_128, e164_129, e164_130, e164_133, e164_134, e164_135, e164_136, e164_140, e164_142, e164_145, e164_146, e164_149, e164_150, e164_153, e164_154, e164_155, e164_156, e164_157, e164_160, e164_161, e164_162, e164_165, e164_168, e164_171, e164_172, s59, s59_0, s59_1, s59_2, s59_3, s59_4, s59_5, s59_6, s59_7, s59_8, s59_9, s59_10, s59_11, s59_12, s59_13, s59_14, s59_15, s59_16, s59_17, s59_18, s59_19, s59_20, s59_21, s59_22, s59_23, s59_24, s59_25, s59_26, s59_27, s59_28, s59_29, s59_30, s59_31, r59_0, r59_1, r59_2, r59_3, r59_6, r59_8, r59_9, r59_13, r59_15, r59_16, r59_17, r59_19, r59_22, r59_23, r59_26, r59_30, r59_31, s60, s61, s62, s63, s64, s65, s66, s67, s68, s69, s70, s71, s72, s73, s74, s75, s76, hh2, isi, e3, o0, A2, nI_1, am_bv_s, am_bw_s, eq_self, true_or, or_true, am_b0, am_b1, am_em, if_true, if_false, true_and, and_true, false_and, and_false, not_true_eq_false, not_false_eq_true, false_or, or_false, Bool.false_eq_true]
            rw [run4]
            obtain ⟨M', t1, t2⟩ := tail (l.2 (a + 2) - 48) (a + 3) _ none none M3 rfl of3 A3 W3 K3 (by omega) (by omega)
            refine ⟨M', t1, ?_⟩
            rcases t2 with ⟨t3, t4, t5⟩ | ⟨t3, t4, t5, t6, t7⟩
            · rw [if_pos t3]
              exact Or.inl ⟨a, rfl, t4, t5⟩
            · rw [if_neg (by omega)]
              exact Or.inr ⟨_, _, _, rfl, t4, t5, t6, t7⟩
          · rw [if_neg (fun q => h4 q.2)]
            rw [am_bf (fun q => h4 (e9.mp q))] at isi
            refine ⟨M2, of2, Or.inl ⟨a + 2, rfl, ?_, A2⟩⟩
            rw [e164_80]
            simp only [e164_0, e164_1, e164_4, e164_5, e164_6, e164_9, e164_11, e164_12, e164_13, e164_14, e164_17, e164_19, e164_22, e164_24, e164_27, e164_28, e164_29, e164_32, e164_35, e164_36, e164_39, e164_40, e164_41, e164_42, e164_43, e164_46, e164_47, e164_48, e164_49, e164_50, e164_53, e164_54, e164_55, e164_58, e164_59, e164_61, e164_62, e164_65, e164_67, e164_70, e164_71, e164_72, e164_75, e164_76, e164_77, e164_81, e164_84, e164_86, e164_87, e164_89, e164_91, e164_92, e164_95, e164_98, e164_101, e164_104, e164_105, e164_106, e164_107, e164_108, e164_111, e164_112, e164_113, e164_116, e164_117, e164_120, e164_122, e164_123, e164_125, e164_128, e164_129, e164_130, e164_133, e164_134, e164_135, e164_136, e164_140, e164_142, e164_145, e164_146, e164_149, e164_150, e164_153, e164_154, e164_155, e164_156, e164_157, e164_160, e164_161, e164_162, e164_165, e164_168, e164_171, e164_172, s59, s59_0, s59_1, s59_2, s59_3, s59_4, s59_5, s59_6, s59_7, s59_8, s59_9, s59_10, s59_11, s59_12, s59_13, s59_14, s59_15, s59_16, s59_17, s59_18, s59_19, s59_20, s59_21, s59_22, s59_23, s59_24, s59_25, s59_26, s59_27, s59_28, s59_29, s59_30, s59_31, r59_0, r59_1, r59_2, r59_3, r59_6, r59_8, r59_9, r59_13, r59_15, r59_16, r59_17, r59_19, r59_22, r59_23, r59_26, r59_30, r59_31, s60, s61, s62, s63, s64, s65, s66, s67, s68, s69, s70, s71, s72, s73, s74, s75, s76, hh2, isi, A2, am_bv_s, am_bw_s, eq_self, true_or, or_true, am_b0, am_b1, am_em, if_true, if_false, true_and, and_true, false_and, and_false, not_true_eq_false, not_false_eq_true, false_or, or_false, Bool.false_eq_true]
        · rw [if_neg (fun q => h3 q.1)]
          rw [if_neg h3] at hh2
          have isi := q_in (X := X) (S := kS) (M := M2) (-1 - 48) 2 9 (by decide : (2 : Int32).toInt64 = 2) (by decide : (9 : Int32).toInt64 = 9)
          rw [am_bf (by decide)] at isi
          refine ⟨M2, of2, Or.inl ⟨a + 2, rfl, ?_, A2⟩⟩
          rw [e164_80]
          simp only [e164_0, e164_1, e164_4, e164_5, e164_6, e164_9, e164_11, e164_12, e164_13, e164_14, e164_17, e164_19, e164_22, e164_24, e164_27, e164_28, e164_29, e164_32, e164_35, e164_36, e164_39, e164_40, e164_41, e164_42, e164_43, e164_46, e164_47, e164_48, e164_49, e164_50, e164_53, e164_54, e164_55, e164_58, e164_59, e164_61, e164_62, e164_65, e164_67, e164_70, e164_71, e164_72, e164_75, e164_76, e164_77, e164_81, e164_84, e164_86, e164_87, e164_89, e164_91, e164_92, e164_95, e164_98, e164_101, e164_104, e164_105, e164_106, e164_107, e164_108, e164_111, e164_112, e164_113, e164_116, e164_117, e164_120, e164_122, e164_123, e164_125, e164_128, e164_129, e164_130, e164_133, e164_134, e164_135, e164_136, e164_140, e164_142, e164_145, e164_146, e164_149, e164_150, e164_153, e164_154, e164_155, e164_156, e164_157, e164_160, e164_161, e164_162, e164_165, e164_168, e164_171, e164_172, s59, s59_0, s59_1, s59_2, s59_3, s59_4, s59_5, s59_6, s59_7, s59_8, s59_9, s59_10, s59_11, s59_12, s59_13, s59_14, s59_15, s59_16, s59_17, s59_18, s59_19, s59_20, s59_21, s59_22, s59_23, s59_24, s59_25, s59_26, s59_27, s59_28, s59_29, s59_30, s59_31, r59_0, r59_1, r59_2, r59_3, r59_6, r59_8, r59_9, r59_13, r59_15, r59_16, r59_17, r59_19, r59_22, r59_23, r59_26, r59_30, r59_31, s60, s61, s62, s63, s64, s65, s66, s67, s68, s69, s70, s71, s72, s73, s74, s75, s76, hh2, isi, A2, am_bv_s, am_bw_s, eq_self, true_or, or_true, am_b0, am_b1, am_em, if_true, if_false, true_and, and_true, false_and, and_false, not_true_eq_false, not_false_eq_true, false_or, or_false, Bool.false_eq_true]
      · rw [if_neg h1]
        have d1 : ((if a + 1 < l.1 then nI (l.2 (a + 1)) else (-1 : Int32)) = 42) = False := by
          refine eq_false ?_
          by_cases h2 : a + 1 < l.1
          · rw [if_pos h2]
            have ht1 := ho.2 (a + 1) h2
            exact fun q => h1 ⟨h2, (nI_eq (b := 42) (by omega) (by omega)).mp q⟩
          · rw [if_neg h2]
            decide
        have run3 : am_e X 164 61 [some (.ref (59 : Nat)), some (.int (nI a)), none, some (.int (nI k)), some (.int 1), none] [] kS M1 = am_e X 164 116 [some (.ref (59 : Nat)), some (.int (nI a)), none, some (.int (nI k)), some (.int 1), none] [] kS M1 := by
          rw [e164_61]
          simp only [e164_0, e164_1, e164_4, e164_5, e164_6, e164_9, e164_11, e164_12, e164_13, e164_14, e164_17, e164_19, e164_22, e164_24, e164_27, e164_28, e164_29, e164_32, e164_35, e164_36, e164_39, e164_40, e164_41, e164_42, e164_43, e164_46, e164_47, e164_48, e164_49, e164_50, e164_53, e164_54, e164_55, e164_58, e164_59, e164_62, e164_65, e164_67, e164_70, e164_71, e164_72, e164_75, e164_76, e164_77, e164_80, e164_81, e164_84, e164_86, e164_87, e164_89, e164_91, e164_92, e164_95, e164_98, e164_101, e164_104, e164_105, e164_106, e164_107, e164_108, e164_111, e164_112, e164_113, e164_117, e164_120, e164_122, e164_123, e164_125, e164_128, e164_129, e164_130, e164_133, e164_134, e164_135, e164_136, e164_140, e164_142, e164_145, e164_146, e164_149, e164_150, e164_153, e164_154, e164_155, e164_156, e164_157, e164_160, e164_161, e164_162, e164_165, e164_168, e164_171, e164_172, s59, s59_0, s59_1, s59_2, s59_3, s59_4, s59_5, s59_6, s59_7, s59_8, s59_9, s59_10, s59_11, s59_12, s59_13, s59_14, s59_15, s59_16, s59_17, s59_18, s59_19, s59_20, s59_21, s59_22, s59_23, s59_24, s59_25, s59_26, s59_27, s59_28, s59_29, s59_30, s59_31, r59_0, r59_1, r59_2, r59_3, r59_6, r59_8, r59_9, r59_13, r59_15, r59_16, r59_17, r59_19, r59_22, r59_23, r59_26, r59_30, r59_31, s60, s61, s62, s63, s64, s65, s66, s67, s68, s69, s70, s71, s72, s73, s74, s75, s76, hh1, d1, am_bv_s, am_bw_s, eq_self, true_or, or_true, am_b0, am_b1, am_em, if_true, if_false, true_and, and_true, false_and, and_false, not_true_eq_false, not_false_eq_true, false_or, or_false, Bool.false_eq_true]
        rw [run3]
        obtain ⟨M', t1, t2⟩ := tail 1 (a + 1) 1 none none M1 rfl of1 A1 W1 K1 (by omega) (by omega)
        refine ⟨M', t1, ?_⟩
        rcases t2 with ⟨t3, t4, t5⟩ | ⟨t3, t4, t5, t6, t7⟩
        · rw [if_pos t3]
          exact Or.inl ⟨a, rfl, t4, t5⟩
        · rw [if_neg (by omega)]
          exact Or.inr ⟨_, _, _, rfl, t4, t5, t6, t7⟩
  · rw [if_neg hal] at hh
    have isb := m_isBand (X := X) (M := M) (-1 - 48)
    rw [am_bf (fun q => absurd q.1 (by decide))] at isb
    have d1 : ((-1 : Int32) = 102) = False := eq_false (by decide)
    refine ⟨M, am_of.rf, Or.inl ⟨a, by unfold ps_part; rw [if_neg hal], ?_, hA⟩⟩
    simp only [e164_0, e164_1, e164_4, e164_5, e164_6, e164_9, e164_11, e164_12, e164_13, e164_14, e164_17, e164_19, e164_22, e164_24, e164_27, e164_28, e164_29, e164_32, e164_35, e164_36, e164_39, e164_40, e164_41, e164_42, e164_43, e164_46, e164_47, e164_48, e164_49, e164_50, e164_53, e164_54, e164_55, e164_58, e164_59, e164_61, e164_62, e164_65, e164_67, e164_70, e164_71, e164_72, e164_75, e164_76, e164_77, e164_80, e164_81, e164_84, e164_86, e164_87, e164_89, e164_91, e164_92, e164_95, e164_98, e164_101, e164_104, e164_105, e164_106, e164_107, e164_108, e164_111, e164_112, e164_113, e164_116, e164_117, e164_120, e164_122, e164_123, e164_125, e164_128, e164_129, e164_130, e164_133, e164_134, e164_135, e164_136, e164_140, e164_142, e164_145, e164_146, e164_149, e164_150, e164_153, e164_154, e164_155, e164_156, e164_157, e164_160, e164_161, e164_162, e164_165, e164_168, e164_171, e164_172, s59, s59_0, s59_1, s59_2, s59_3, s59_4, s59_5, s59_6, s59_7, s59_8, s59_9, s59_10, s59_11, s59_12, s59_13, s59_14, s59_15, s59_16, s59_17, s59_18, s59_19, s59_20, s59_21, s59_22, s59_23, s59_24, s59_25, s59_26, s59_27, s59_28, s59_29, s59_30, s59_31, r59_0, r59_1, r59_2, r59_3, r59_6, r59_8, r59_9, r59_13, r59_15, r59_16, r59_17, r59_19, r59_22, r59_23, r59_26, r59_30, r59_31, s60, s61, s62, s63, s64, s65, s66, s67, s68, s69, s70, s71, s72, s73, s74, s75, s76, hh, isb, d1, hA, am_bv_s, am_bw_s, eq_self, true_or, or_true, am_b0, am_b1, am_em, if_true, if_false, true_and, and_true, false_and, and_false, not_true_eq_false, not_false_eq_true, false_or, or_false, Bool.false_eq_true]
end
