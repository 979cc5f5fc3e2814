/-! the reference: what was said, and counts of it -/
/-- what all said, as of a time -/
def mS (A : sgA) (tm : Nat) (M : am_Me) : Prop := ∀ t, t < 4 → ∀ w, w < 40 → M.1 71 (40 * t + w) = sd A tm t w
/-- the words and what was said of them: kept by what does not touch them -/
def pmS (a k : Nat) : Prop := pmW a k ∨ a = 71
section
variable {X : am_X} {S : am_Sh} {M M' : am_Me} {P : Nat → Nat → Prop} {s : sgm}
theorem mW.of {nb : Nat} {l : sgL} (hx : mW nb l M) (ho : am_of P M M') (hP : ∀ a k, P a k → ¬ ((a = 59 ∧ k = 12) ∨ a = 67)) : mW nb l M' := ⟨((ho _ _ (fun z => hP _ _ z (Or.inl ⟨rfl, rfl⟩))).1).trans hx.1, fun q hq => ((ho _ _ (fun z => hP _ _ z (Or.inr rfl))).1).trans (hx.2 q hq)⟩
theorem mS.of {A : sgA} {tm : Nat} (hx : mS A tm M) (ho : am_of P M M') (hP : ∀ a k, P a k → ¬ a = 71) : mS A tm M' := fun t ht w hw => ((ho _ _ (fun z => hP _ _ z rfl)).1).trans (hx t ht w hw)
theorem m_findSaid (hx : JM s M) (ho : okm s) {tm : Nat} (htm : tm ≤ 999) : ∃ M', am_e X 175 0 [some (.ref (59 : Nat)), some (.int (nI tm)), none] [] kS M = some (none, kS, M') ∧ JM s M' ∧ mW s.2.1.1 s.2.2.2.1 M' ∧ mS s.2.2.2.2 tm M' ∧ am_of pmS M M' := by
  obtain ⟨M1, r1, j1, w1, o1⟩ := JM.reads (X := X) hx ho
  have ho5 := ho.2.2.2.2
  generalize hA : s.2.2.2.2 = A at ho5
  have x1 : mA A M1 := by rw [← hA]; exact j1.2.2.2.2
  -- all unsaid
  obtain ⟨M2, e2, g2, of2⟩ := am_lp (X := X) (S := kS) (mi := 175) (pc := 7) 160 (fun i => [some (.ref (59 : Nat)), some (.int (nI tm)), some (.int (nI i))])
    (fun i M' => (∀ q, q < i → M'.1 71 q = -1) ∧ am_of (fun a _ => a = 71) M1 M') (M := M1) ⟨fun q hq => absurd hq (Nat.not_lt_zero _), am_of.rf⟩ (by
      intro j M2 hj hI
      obtain ⟨i1, i2⟩ := hI
      have c1 : (nI j < 160) = True := eq_true (nI_lt (b := 160) hj (by decide))
      have cj : (nI j).toNatClampNeg = j := nI_clamp (by omega)
      refine ⟨am_setI M2 71 j (-1), ?_, fun q hq => ?_, i2.sI rfl⟩
      · rw [e175_7]
        simp only [e175_0, e175_1, e175_4, e175_5, e175_6, e175_8, e175_11, e175_14, e175_15, e175_18, e175_19, e175_20, e175_21, e175_24, e175_27, e175_28, e175_30, e175_31, e175_34, e175_37, e175_38, e175_41, e175_42, e175_45, e175_46, e175_47, e175_48, e175_51, e175_52, e175_53, e175_54, e175_57, e175_58, e175_61, e175_62, e175_63, e175_66, e175_67, e175_70, e175_71, e175_74, e175_75, e175_76, e175_77, e175_78, e175_81, e175_84, s59, s59_0, s59_1, s59_2, s59_3, s59_4, s59_5, s59_6, s59_7, s59_8, s59_9, s59_10, s59_11, s59_12, s59_13, s59_14, s59_15, s59_16, s59_17, s59_18, s59_19, s59_20, s59_21, s59_22, s59_23, s59_24, s59_25, s59_26, s59_27, s59_28, s59_29, s59_30, s59_31, r59_0, r59_1, r59_2, r59_3, r59_6, r59_8, r59_9, r59_13, r59_15, r59_16, r59_17, r59_19, r59_22, r59_23, r59_26, r59_30, r59_31, s60, s61, s62, s63, s64, s65, s66, s67, s68, s69, s70, s71, s72, s73, s74, s75, s76, c1, cj, a71 hj, nI_1, am_bv_s, am_bw_s, eq_self, true_or, or_true, am_b0, am_b1, am_em, if_true, if_false, true_and, and_true, false_and, and_false, not_true_eq_false, not_false_eq_true, false_or, or_false, Bool.false_eq_true]
      · rw [gI]
        by_cases e : q = j
        · rw [if_pos ⟨rfl, e⟩]
        · rw [if_neg (fun z => e z.2)]; exact i1 q (by omega))
  obtain ⟨M3, e3, g3, of3⟩ := am_lp (X := X) (S := kS) (mi := 175) (pc := 29) A.1 (fun i => [some (.ref (59 : Nat)), some (.int (nI tm)), some (.int (nI i))])
    (fun i M' => (∀ t, t < 4 → ∀ w, w < 40 → M'.1 71 (40 * t + w) = sdn A tm t w i) ∧ am_of (fun a _ => a = 71) M1 M') (M := M2) ⟨fun t ht w hw => g2 _ (by omega), of2⟩ (by
      intro j M3 hj hI
      obtain ⟨i1, i2⟩ := hI
      obtain ⟨y1, y2, y3⟩ := x1.of i2 (fun a k q => by omega)
      obtain ⟨z1, z2, z3⟩ := y3 j hj
      have h120 := ho5.1
      obtain ⟨p1, p2, p3, p4⟩ := ho5.2.2 j hj
      have c1 : (nI j < nI A.1) = True := eq_true (nI_lt hj (by omega))
      have cj : (nI j).toNatClampNeg = j := nI_clamp (by omega)
      have cw : (nI (40 * A.2.1 j + A.2.2.1 j)).toNatClampNeg = 40 * A.2.1 j + A.2.2.1 j := nI_clamp (by omega)
      have c3 : (nI tm < nI (A.2.2.2.2.1 j)) = (tm < A.2.2.2.2.1 j) := ok_lt (by omega) (by omega)
      by_cases h2 : tm < A.2.2.2.2.1 j
      · refine ⟨am_setI M3 71 (40 * A.2.1 j + A.2.2.1 j) (M3.1 71 (40 * A.2.1 j + A.2.2.1 j)), ?_, fun t ht w hw => ?_, i2.sI rfl⟩
        · rw [e175_29]
          simp only [e175_0, e175_1, e175_4, e175_5, e175_6, e175_8, e175_11, e175_14, e175_15, e175_18, e175_19, e175_20, e175_21, e175_24, e175_27, e175_28, e175_30, e175_31, e175_34, e175_37, e175_38, e175_41, e175_42, e175_45, e175_46, e175_47, e175_48, e175_51, e175_52, e175_53, e175_54, e175_57, e175_58, e175_61, e175_62, e175_63, e175_66, e175_67, e175_70, e175_71, e175_74, e175_75, e175_76, e175_77, e175_78, e175_81, e175_84, s59, s59_0, s59_1, s59_2, s59_3, s59_4, s59_5, s59_6, s59_7, s59_8, s59_9, s59_10, s59_11, s59_12, s59_13, s59_14, s59_15, s59_16, s59_17, s59_18, s59_19, s59_20, s59_21, s59_22, s59_23, s59_24, s59_25, s59_26, s59_27, s59_28, s59_29, s59_30, s59_31, r59_0, r59_1, r59_2, r59_3, r59_6, r59_8, r59_9, r59_13, r59_15, r59_16, r59_17, r59_19, r59_22, r59_23, r59_26, r59_30, r59_31, s60, s61, s62, s63, s64, s65, s66, s67, s68, s69, s70, s71, s72, s73, s74, s75, s76, y1, z1, z3, c1, cj, cw, c3, h2, a68 (show j < 120 by omega), a70 (show j < 120 by omega), a71 (show 40 * A.2.1 j + A.2.2.1 j < 160 by omega), nI_1, am_bv_s, am_bw_s, eq_self, true_or, or_true, am_b0, am_b1, am_em, if_true, if_false, true_and, and_true, false_and, and_false, not_true_eq_false, not_false_eq_true, false_or, or_false, Bool.false_eq_true]
        · have n1 : ¬ (A.2.1 j = t ∧ A.2.2.1 j = w ∧ A.2.2.2.2.1 j ≤ tm) := fun q => Nat.not_le.mpr h2 q.2.2
          rw [sdn, if_neg n1, gI, ← i1 t ht w hw]
          by_cases e : 40 * t + w = 40 * A.2.1 j + A.2.2.1 j
          · rw [if_pos ⟨rfl, e⟩, e]
          · rw [if_neg (fun q => e q.2)]
      · refine ⟨am_setI M3 71 (40 * A.2.1 j + A.2.2.1 j) (A.2.2.2.1 j), ?_, fun t ht w hw => ?_, i2.sI rfl⟩
        · rw [e175_29]
          simp only [e175_0, e175_1, e175_4, e175_5, e175_6, e175_8, e175_11, e175_14, e175_15, e175_18, e175_19, e175_20, e175_21, e175_24, e175_27, e175_28, e175_30, e175_31, e175_34, e175_37, e175_38, e175_41, e175_42, e175_45, e175_46, e175_47, e175_48, e175_51, e175_52, e175_53, e175_54, e175_57, e175_58, e175_61, e175_62, e175_63, e175_66, e175_67, e175_70, e175_71, e175_74, e175_75, e175_76, e175_77, e175_78, e175_81, e175_84, s59, s59_0, s59_1, s59_2, s59_3, s59_4, s59_5, s59_6, s59_7, s59_8, s59_9, s59_10, s59_11, s59_12, s59_13, s59_14, s59_15, s59_16, s59_17, s59_18, s59_19, s59_20, s59_21, s59_22, s59_23, s59_24, s59_25, s59_26, s59_27, s59_28, s59_29, s59_30, s59_31, r59_0, r59_1, r59_2, r59_3, r59_6, r59_8, r59_9, r59_13, r59_15, r59_16, r59_17, r59_19, r59_22, r59_23, r59_26, r59_30, r59_31, s60, s61, s62, s63, s64, s65, s66, s67, s68, s69, s70, s71, s72, s73, s74, s75, s76, y1, z1, z2, z3, c1, cj, cw, c3, h2, a68 (show j < 120 by omega), a70 (show j < 120 by omega), a69 (show j < 120 by omega), a71 (show 40 * A.2.1 j + A.2.2.1 j < 160 by omega), nI_1, am_bv_s, am_bw_s, eq_self, true_or, or_true, am_b0, am_b1, am_em, if_true, if_false, true_and, and_true, false_and, and_false, not_true_eq_false, not_false_eq_true, false_or, or_false, Bool.false_eq_true]
        · rw [gI, sdn]
          by_cases e : A.2.1 j = t ∧ A.2.2.1 j = w
          · rw [if_pos ⟨rfl, by omega⟩, if_pos ⟨e.1, e.2, by omega⟩]
          · rw [if_neg (fun q => e (by omega)), if_neg (fun q => e ⟨q.1, q.2.1⟩)]
            exact i1 t ht w hw)
  have oS : am_of pmS M M3 := (o1.mo fun a k q => Or.inl q).tr (of3.mo fun a k q => Or.inr q)
  refine ⟨M3, ?_, j1.of of3 (fun a k q => by unfold pR; omega), w1.of of3 (fun a k q => by omega), g3, oS⟩
  have h120 := ho5.1
  obtain ⟨y1, y2, y3⟩ := x1.of of3 (fun a k q => by omega)
  have c1 : (nI 160 < 160) = False := eq_false (by decide)
  have c2 : (nI A.1 < nI A.1) = False := eq_false (nI_nlt (Nat.le_refl _) (by omega))
  have f3 : am_e X 175 29 [some (.ref (59 : Nat)), some (.int (nI tm)), some (.int (nI A.1))] [] kS M3 = some (none, kS, M3) := by
    rw [e175_29]
    simp only [e175_0, e175_1, e175_4, e175_5, e175_6, e175_8, e175_11, e175_14, e175_15, e175_18, e175_19, e175_20, e175_21, e175_24, e175_27, e175_28, e175_30, e175_31, e175_34, e175_37, e175_38, e175_41, e175_42, e175_45, e175_46, e175_47, e175_48, e175_51, e175_52, e175_53, e175_54, e175_57, e175_58, e175_61, e175_62, e175_63, e175_66, e175_67, e175_70, e175_71, e175_74, e175_75, e175_76, e175_77, e175_78, e175_81, e175_84, s59, s59_0, s59_1, s59_2, s59_3, s59_4, s59_5, s59_6, s59_7, s59_8, s59_9, s59_10, s59_11, s59_12, s59_13, s59_14, s59_15, s59_16, s59_17, s59_18, s59_19, s59_20, s59_21, s59_22, s59_23, s59_24, s59_25, s59_26, s59_27, s59_28, s59_29, s59_30, s59_31, r59_0, r59_1, r59_2, r59_3, r59_6, r59_8, r59_9, r59_13, r59_15, r59_16, r59_17, r59_19, r59_22, r59_23, r59_26, r59_30, r59_31, s60, s61, s62, s63, s64, s65, s66, s67, s68, s69, s70, s71, s72, s73, s74, s75, s76, y1, c2, am_bv_s, am_bw_s, eq_self, true_or, or_true, am_b0, am_b1, am_em, if_true, if_false, true_and, and_true, false_and, and_false, not_true_eq_false, not_false_eq_true, false_or, or_false, Bool.false_eq_true]
  rw [f3] at e3
  have f2 : am_e X 175 7 [some (.ref (59 : Nat)), some (.int (nI tm)), some (.int (nI 160))] [] kS M2 = some (none, kS, M3) := by
    rw [← e3, e175_7]
    simp only [e175_0, e175_1, e175_4, e175_5, e175_6, e175_8, e175_11, e175_14, e175_15, e175_18, e175_19, e175_20, e175_21, e175_24, e175_27, e175_28, e175_30, e175_31, e175_34, e175_37, e175_38, e175_41, e175_42, e175_45, e175_46, e175_47, e175_48, e175_51, e175_52, e175_53, e175_54, e175_57, e175_58, e175_61, e175_62, e175_63, e175_66, e175_67, e175_70, e175_71, e175_74, e175_75, e175_76, e175_77, e175_78, e175_81, e175_84, c1, am_bv_s, am_bw_s, eq_self, true_or, or_true, am_b0, am_b1, am_em, if_true, if_false, true_and, and_true, false_and, and_false, not_true_eq_false, not_false_eq_true, false_or, or_false, Bool.false_eq_true]
    rfl
  rw [f2] at e2
  rw [← e2]
  simp only [e175_0, e175_1, e175_4, e175_5, e175_6, e175_8, e175_11, e175_14, e175_15, e175_18, e175_19, e175_20, e175_21, e175_24, e175_27, e175_28, e175_30, e175_31, e175_34, e175_37, e175_38, e175_41, e175_42, e175_45, e175_46, e175_47, e175_48, e175_51, e175_52, e175_53, e175_54, e175_57, e175_58, e175_61, e175_62, e175_63, e175_66, e175_67, e175_70, e175_71, e175_74, e175_75, e175_76, e175_77, e175_78, e175_81, e175_84, s59, s59_0, s59_1, s59_2, s59_3, s59_4, s59_5, s59_6, s59_7, s59_8, s59_9, s59_10, s59_11, s59_12, s59_13, s59_14, s59_15, s59_16, s59_17, s59_18, s59_19, s59_20, s59_21, s59_22, s59_23, s59_24, s59_25, s59_26, s59_27, s59_28, s59_29, s59_30, s59_31, r59_0, r59_1, r59_2, r59_3, r59_6, r59_8, r59_9, r59_13, r59_15, r59_16, r59_17, r59_19, r59_22, r59_23, r59_26, r59_30, r59_31, s60, s61, s62, s63, s64, s65, s66, s67, s68, s69, s70, s71, s72, s73, s74, s75, s76, r1, am_bv_s, am_bw_s, eq_self, true_or, or_true, am_b0, am_b1, am_em, if_true, if_false, true_and, and_true, false_and, and_false, not_true_eq_false, not_false_eq_true, false_or, or_false, Bool.false_eq_true]
  rfl
theorem okS_0 {v : Int32} (h : okS v) : (v < 0) = ¬ (v ≠ -1) := by
  rcases h with rfl | rfl | rfl <;> simp <;> decide
theorem okS_1 {v : Int32} (h : okS v) : (v < 1) = ¬ (v = 1) := by
  rcases h with rfl | rfl | rfl <;> simp <;> decide
/-- so many words of a kind of which one said that much -/
def mny (nb : Nat) (l : sgL) (A : sgA) (tm t k : Nat) (v : Int32) : Nat := cnt (fun w => (ps nb l).2.2 w = k ∧ ¬ sd A tm t w < v) (ps nb l).2.1
theorem mny_0 {nb : Nat} {l : sgL} {A : sgA} (ho : okA A) {t k : Nat} : mny nb l A A.2.2.2.2.2 t k 0 = sAs nb l A t k := cnt_c _ fun i _ => by
  rw [okS_0 (sd_ok ho)]
  simp
theorem mny_1 {nb : Nat} {l : sgL} {A : sgA} (ho : okA A) {t k : Nat} : mny nb l A A.2.2.2.2.2 t k 1 = sYe nb l A t k := cnt_c _ fun i _ => by
  rw [okS_1 (sd_ok ho)]
  simp
theorem m_many {nb : Nat} {l : sgL} {A : sgA} {tm t k : Nat} {v : Int32} (hb : nb ≤ 6) (hw : mW nb l M) (hs : mS A tm M) (ht : t < 4) (hk : k < 7) : am_e X 176 0 [some (.ref (59 : Nat)), some (.int (nI t)), some (.int (nI k)), some (.int v), none, none] [] kS M = some (some (.int (nI (mny nb l A tm t k v))), kS, M) := by
  have h40 := ps_le (l := l) hb
  obtain ⟨w1, w2⟩ := hw
  obtain ⟨M', e1, g1⟩ := am_lp (X := X) (S := kS) (mi := 176) (pc := 6) (ps nb l).2.1 (fun i => [some (.ref (59 : Nat)), some (.int (nI t)), some (.int (nI k)), some (.int v), some (.int (nI (cnt (fun w => (ps nb l).2.2 w = k ∧ ¬ sd A tm t w < v) i))), some (.int (nI i))])
    (fun i M' => M' = M) (M := M) rfl (by
      intro j M2 hj hI
      subst hI
      refine ⟨M2, ?_, rfl⟩
      have c1 : (nI j < nI (ps nb l).2.1) = True := eq_true (nI_lt hj (by omega))
      have cj : (nI j).toNatClampNeg = j := nI_clamp (by omega)
      have k6 := h40.2 j hj
      have j40 : j < 40 := by omega
      have e4 : (40 : Int32) * nI t + nI j = nI (40 * t + j) := by rw [show (40 : Int32) * nI t = nI (40 * t) from pk_mul 40 t, nI_add]
      have ce : (nI (40 * t + j)).toNatClampNeg = 40 * t + j := nI_clamp (by omega)
      have ck : (nI ((ps nb l).2.2 j) = nI k) = ((ps nb l).2.2 j = k) := ok_eq (by omega) (by omega)
      have sv := hs t ht j j40
      rw [e176_6]
      by_cases h1 : (ps nb l).2.2 j = k
      · by_cases h2 : sd A tm t j < v
        · rw [cnt_s0 (fun q => q.2 h2)]
          simp only [e176_0, e176_1, e176_3, e176_4, e176_8, e176_9, e176_12, e176_15, e176_17, e176_18, e176_21, e176_23, e176_24, e176_25, e176_28, e176_29, e176_32, e176_34, e176_35, e176_36, e176_38, e176_39, e176_40, e176_41, e176_44, e176_45, e176_48, e176_49, e176_50, e176_52, e176_55, e176_58, e176_60, s59, s59_0, s59_1, s59_2, s59_3, s59_4, s59_5, s59_6, s59_7, s59_8, s59_9, s59_10, s59_11, s59_12, s59_13, s59_14, s59_15, s59_16, s59_17, s59_18, s59_19, s59_20, s59_21, s59_22, s59_23, s59_24, s59_25, s59_26, s59_27, s59_28, s59_29, s59_30, s59_31, r59_0, r59_1, r59_2, r59_3, r59_6, r59_8, r59_9, r59_13, r59_15, r59_16, r59_17, r59_19, r59_22, r59_23, r59_26, r59_30, r59_31, s60, s61, s62, s63, s64, s65, s66, s67, s68, s69, s70, s71, s72, s73, s74, s75, s76, w1, w2 j hj, c1, cj, ck, h1, e4, ce, sv, h2, a67 (show j < 50 by omega), a71 (show 40 * t + j < 160 by omega), nI_1, Int32.add_zero, am_bv_s, am_bw_s, eq_self, true_or, or_true, am_b0, am_b1, am_em, if_true, if_false, true_and, and_true, false_and, and_false, not_true_eq_false, not_false_eq_true, false_or, or_false, Bool.false_eq_true]
        · rw [cnt_s1 ⟨h1, h2⟩]
          simp only [e176_0, e176_1, e176_3, e176_4, e176_8, e176_9, e176_12, e176_15, e176_17, e176_18, e176_21, e176_23, e176_24, e176_25, e176_28, e176_29, e176_32, e176_34, e176_35, e176_36, e176_38, e176_39, e176_40, e176_41, e176_44, e176_45, e176_48, e176_49, e176_50, e176_52, e176_55, e176_58, e176_60, s59, s59_0, s59_1, s59_2, s59_3, s59_4, s59_5, s59_6, s59_7, s59_8, s59_9, s59_10, s59_11, s59_12, s59_13, s59_14, s59_15, s59_16, s59_17, s59_18, s59_19, s59_20, s59_21, s59_22, s59_23, s59_24, s59_25, s59_26, s59_27, s59_28, s59_29, s59_30, s59_31, r59_0, r59_1, r59_2, r59_3, r59_6, r59_8, r59_9, r59_13, r59_15, r59_16, r59_17, r59_19, r59_22, r59_23, r59_26, r59_30, r59_31, s60, s61, s62, s63, s64, s65, s66, s67, s68, s69, s70, s71, s72, s73, s74, s75, s76, w1, w2 j hj, c1, cj, ck, h1, e4, ce, sv, h2, a67 (show j < 50 by omega), a71 (show 40 * t + j < 160 by omega), nI_1, am_bv_s, am_bw_s, eq_self, true_or, or_true, am_b0, am_b1, am_em, if_true, if_false, true_and, and_true, false_and, and_false, not_true_eq_false, not_false_eq_true, false_or, or_false, Bool.false_eq_true]
      · rw [cnt_s0 (fun q => h1 q.1)]
        simp only [e176_0, e176_1, e176_3, e176_4, e176_8, e176_9, e176_12, e176_15, e176_17, e176_18, e176_21, e176_23, e176_24, e176_25, e176_28, e176_29, e176_32, e176_34, e176_35, e176_36, e176_38, e176_39, e176_40, e176_41, e176_44, e176_45, e176_48, e176_49, e176_50, e176_52, e176_55, e176_58, e176_60, s59, s59_0, s59_1, s59_2, s59_3, s59_4, s59_5, s59_6, s59_7, s59_8, s59_9, s59_10, s59_11, s59_12, s59_13, s59_14, s59_15, s59_16, s59_17, s59_18, s59_19, s59_20, s59_21, s59_22, s59_23, s59_24, s59_25, s59_26, s59_27, s59_28, s59_29, s59_30, s59_31, r59_0, r59_1, r59_2, r59_3, r59_6, r59_8, r59_9, r59_13, r59_15, r59_16, r59_17, r59_19, r59_22, r59_23, r59_26, r59_30, r59_31, s60, s61, s62, s63, s64, s65, s66, s67, s68, s69, s70, s71, s72, s73, s74, s75, s76, w1, w2 j hj, c1, cj, ck, h1, a67 (show j < 50 by omega), nI_1, Int32.add_zero, am_bv_s, am_bw_s, eq_self, true_or, or_true, am_b0, am_b1, am_em, if_true, if_false, true_and, and_true, false_and, and_false, not_true_eq_false, not_false_eq_true, false_or, or_false, Bool.false_eq_true])
  subst g1
  have c1 : (nI (ps nb l).2.1 < nI (ps nb l).2.1) = False := eq_false (nI_nlt (Nat.le_refl _) (by omega))
  have e2 : am_e X 176 6 [some (.ref (59 : Nat)), some (.int (nI t)), some (.int (nI k)), some (.int v), some (.int (nI (cnt (fun w => (ps nb l).2.2 w = k ∧ ¬ sd A tm t w < v) (ps nb l).2.1))), some (.int (nI (ps nb l).2.1))] [] kS M' = some (some (.int (nI (mny nb l A tm t k v))), kS, M') := by
    rw [e176_6]
    simp only [e176_0, e176_1, e176_3, e176_4, e176_8, e176_9, e176_12, e176_15, e176_17, e176_18, e176_21, e176_23, e176_24, e176_25, e176_28, e176_29, e176_32, e176_34, e176_35, e176_36, e176_38, e176_39, e176_40, e176_41, e176_44, e176_45, e176_48, e176_49, e176_50, e176_52, e176_55, e176_58, e176_60, s59, s59_0, s59_1, s59_2, s59_3, s59_4, s59_5, s59_6, s59_7, s59_8, s59_9, s59_10, s59_11, s59_12, s59_13, s59_14, s59_15, s59_16, s59_17, s59_18, s59_19, s59_20, s59_21, s59_22, s59_23, s59_24, s59_25, s59_26, s59_27, s59_28, s59_29, s59_30, s59_31, r59_0, r59_1, r59_2, r59_3, r59_6, r59_8, r59_9, r59_13, r59_15, r59_16, r59_17, r59_19, r59_22, r59_23, r59_26, r59_30, r59_31, s60, s61, s62, s63, s64, s65, s66, s67, s68, s69, s70, s71, s72, s73, s74, s75, s76, w1, c1, mny, am_bv_s, am_bw_s, eq_self, true_or, or_true, am_b0, am_b1, am_em, if_true, if_false, true_and, and_true, false_and, and_false, not_true_eq_false, not_false_eq_true, false_or, or_false, Bool.false_eq_true]
  rw [e2] at e1
  rw [← e1]
  simp only [e176_0, e176_1, e176_3, e176_4, e176_8, e176_9, e176_12, e176_15, e176_17, e176_18, e176_21, e176_23, e176_24, e176_25, e176_28, e176_29, e176_32, e176_34, e176_35, e176_36, e176_38, e176_39, e176_40, e176_41, e176_44, e176_45, e176_48, e176_49, e176_50, e176_52, e176_55, e176_58, e176_60, am_bv_s, am_bw_s, eq_self, true_or, or_true, am_b0, am_b1, am_em, if_true, if_false, true_and, and_true, false_and, and_false, not_true_eq_false, not_false_eq_true, false_or, or_false, Bool.false_eq_true]
  rfl
theorem pmS_M {a k : Nat} (h : pmS a k) : pM a k := by unfold pmS pmW at h; unfold pM; omega
/-- the state, with words and what was said as of the view's time -/
def JS (s : sgm) (M : am_Me) : Prop := JM s M ∧ mW s.2.1.1 s.2.2.2.1 M ∧ mS s.2.2.2.2 s.2.2.2.2.2.2.2.2.2 M
theorem JS.of (hx : JS s M) (ho : am_of P M M') (hP : ∀ a k, P a k → pR a k ∧ ¬ pmS a k) : JS s M' := ⟨hx.1.of ho (fun a k h => (hP a k h).1), hx.2.1.of ho (fun a k h => by have := (hP a k h).2; unfold pmS pmW at this; omega), hx.2.2.of ho (fun a k h => by have := (hP a k h).2; unfold pmS pmW at this; omega)⟩
theorem m_said (hx : JM s M) (ho : okm s) : ∃ M', am_e X 175 0 [some (.ref (59 : Nat)), some (.int (nI s.2.2.2.2.2.2.2.2.2)), none] [] kS M = some (none, kS, M') ∧ JS s M' ∧ am_of pmS M M' := by
  obtain ⟨M', h1, h2, h3, h4, h5⟩ := m_findSaid (X := X) hx ho ho.2.2.2.2.2.1
  exact ⟨M', h1, ⟨h2, h3, h4⟩, h5⟩
theorem JS.as {t k : Nat} (hx : JS s M) (ho : okm s) (ht : t < 4) (hk : k < 7) : am_e X 176 0 [some (.ref (59 : Nat)), some (.int (nI t)), some (.int (nI k)), some (.int 0), none, none] [] kS M = some (some (.int (nI (sAs s.2.1.1 s.2.2.2.1 s.2.2.2.2 t k))), kS, M) := by
  rw [m_many ho.2.1.1 hx.2.1 hx.2.2 ht hk, mny_0 ho.2.2.2.2]
theorem JS.ye {t k : Nat} (hx : JS s M) (ho : okm s) (ht : t < 4) (hk : k < 7) : am_e X 176 0 [some (.ref (59 : Nat)), some (.int (nI t)), some (.int (nI k)), some (.int 1), none, none] [] kS M = some (some (.int (nI (sYe s.2.1.1 s.2.2.2.1 s.2.2.2.2 t k))), kS, M) := by
  rw [m_many ho.2.1.1 hx.2.1 hx.2.2 ht hk, mny_1 ho.2.2.2.2]
end
