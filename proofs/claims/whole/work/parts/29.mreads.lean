/-! THE LIST read by the reference, to its end -/
section
variable {X : am_X} {S : am_Sh} {M : am_Me} {l : sgL}
theorem m_readsLoop {nb : Nat} (hb : nb ≤ 6) (ho : okL l) : ∀ (f a w : Nat) (kd : Nat → Nat) (M : am_Me), mL l M → M.1 59 5 = nI nb → M.1 59 11 = nI a → M.1 59 12 = nI w → (∀ q, q < w → M.1 67 q = nI (kd q)) → w ≤ 40 → a ≤ l.1 → 81 ≤ a + f →
    ∃ M', am_e X 166 23 [some (.ref (59 : Nat)), some (.int 1)] [] kS M = some (some (.int (ps_v (ps_go nb l f a w kd).1)), kS, M') ∧ M'.1 59 12 = nI (ps_go nb l f a w kd).2.1 ∧ (∀ q, q < (ps_go nb l f a w kd).2.1 → M'.1 67 q = nI ((ps_go nb l f a w kd).2.2 q)) ∧ am_of pmW M M' := by
  intro f
  induction f with
  | zero =>
    intro a w kd M hx hB hA hW hk hw ha hf
    have := ho.1
    omega
  | succ f ih =>
    intro a w kd M hx hB hA hW hk hw ha hf
    have h80 := ho.1
    have o0 : ((1 : Int32) = 0) = False := eq_false (by decide)
    have z0 : ((0 : Int32) = 0) = True := eq_true rfl
    obtain ⟨M1, of1, hp⟩ := m_part (X := X) hb ho hx hB hA hW hk hw ha
    rw [ps_go]
    rcases hp with ⟨p, q1, q2, q3⟩ | ⟨b, k, t, q1, q2, q3, q4, q5⟩
    · rw [q1]
      refine ⟨am_setI M1 59 12 0, ?_, by rw [gI, if_pos ⟨rfl, rfl⟩]; rfl, fun q hq => absurd hq (Nat.not_lt_zero _), of1.sI (Or.inr ⟨rfl, Or.inr rfl⟩)⟩
      have e1 : (am_setI M1 59 12 0).1 59 11 = nI p := by rw [gI, if_neg (by omega)]; exact q3
      rw [e166_23]
      simp only [e166_0, e166_1, e166_2, e166_5, e166_6, e166_7, e166_10, e166_11, e166_14, e166_17, e166_18, e166_21, e166_22, e166_24, e166_27, e166_28, e166_31, e166_34, e166_35, e166_38, e166_39, e166_40, e166_43, e166_44, e166_47, e166_50, e166_51, e166_54, e166_55, e166_56, e166_57, e166_60, e166_61, e166_64, e166_66, e166_69, e166_70, e166_73, e166_74, e166_75, e166_76, e166_79, e166_80, e166_83, e166_84, e166_87, e166_88, e166_89, e166_92, e166_95, e166_96, e165_0, e165_1, e165_2, e165_5, e165_6, e165_9, s59, s59_0, s59_1, s59_2, s59_3, s59_4, s59_5, s59_6, s59_7, s59_8, s59_9, s59_10, s59_11, s59_12, s59_13, s59_14, s59_15, s59_16, s59_17, s59_18, s59_19, s59_20, s59_21, s59_22, s59_23, s59_24, s59_25, s59_26, s59_27, s59_28, s59_29, s59_30, s59_31, r59_0, r59_1, r59_2, r59_3, r59_6, r59_8, r59_9, r59_13, r59_15, r59_16, r59_17, r59_19, r59_22, r59_23, r59_26, r59_30, r59_31, s60, s61, s62, s63, s64, s65, s66, s67, s68, s69, s70, s71, s72, s73, s74, s75, s76, o0, z0, q2, e1, ps_v, am_bv_s, am_bw_s, eq_self, true_or, or_true, am_b0, am_b1, am_em, if_true, if_false, true_and, and_true, false_and, and_false, not_true_eq_false, not_false_eq_true, false_or, or_false, Bool.false_eq_true]
    · rw [q1]
      obtain ⟨r1, r2, r3, r4, r5⟩ := ps_part_r hb q1
      have x1 : mL l M1 := hx.of of1 (fun a' k' q => by unfold pmW at q; omega)
      have B1 : M1.1 59 5 = nI nb := ((of1 _ _ (by unfold pmW; omega)).1).trans hB
      have hh := m_here (X := X) ho x1 q3 r2
      dsimp only
      by_cases h1 : b < l.1
      · have c1 : (nI b < nI l.1) = True := eq_true (nI_lt h1 (by omega))
        rw [if_pos h1] at hh
        rw [if_pos h1]
        have htb := ho.2 b h1
        by_cases h2 : l.2 b = 59
        · rw [if_pos h2]
          have d2 : (nI 59 = 59) = True := eq_true rfl
          rw [h2] at hh
          have of2 : am_of pmW M1 (am_setI M1 59 11 (nI (b + 1))) := am_of.rf.sI (Or.inr ⟨rfl, Or.inl rfl⟩)
          obtain ⟨M', t1, t2, t3, t4⟩ := ih (b + 1) (w + t) (ps_ext kd w t k) (am_setI M1 59 11 (nI (b + 1))) (x1.of of2 (fun a' k' q => by unfold pmW at q; omega)) (by rw [gI, if_neg (by omega)]; exact B1) (by rw [gI, if_pos ⟨rfl, rfl⟩]) (by rw [gI, if_neg (by omega)]; exact q4) (fun q hq => by rw [gI, if_neg (by omega)]; exact q5 q hq) r4 (by omega) (by omega)
          refine ⟨M', ?_, t2, t3, (of1.tr of2).tr t4⟩
          rw [← t1, e166_23]
          simp only [e166_0, e166_1, e166_2, e166_5, e166_6, e166_7, e166_10, e166_11, e166_14, e166_17, e166_18, e166_21, e166_22, e166_24, e166_27, e166_28, e166_31, e166_34, e166_35, e166_38, e166_39, e166_40, e166_43, e166_44, e166_47, e166_50, e166_51, e166_54, e166_55, e166_56, e166_57, e166_60, e166_61, e166_64, e166_66, e166_69, e166_70, e166_73, e166_74, e166_75, e166_76, e166_79, e166_80, e166_83, e166_84, e166_87, e166_88, e166_89, e166_92, e166_95, e166_96, s59, s59_0, s59_1, s59_2, s59_3, s59_4, s59_5, s59_6, s59_7, s59_8, s59_9, s59_10, s59_11, s59_12, s59_13, s59_14, s59_15, s59_16, s59_17, s59_18, s59_19, s59_20, s59_21, s59_22, s59_23, s59_24, s59_25, s59_26, s59_27, s59_28, s59_29, s59_30, s59_31, r59_0, r59_1, r59_2, r59_3, r59_6, r59_8, r59_9, r59_13, r59_15, r59_16, r59_17, r59_19, r59_22, r59_23, r59_26, r59_30, r59_31, s60, s61, s62, s63, s64, s65, s66, s67, s68, s69, s70, s71, s72, s73, s74, s75, s76, o0, z0, q2, q3, x1.1, c1, hh, d2, nI_1, am_bv_s, am_bw_s, eq_self, true_or, or_true, am_b0, am_b1, am_em, if_true, if_false, true_and, and_true, false_and, and_false, not_true_eq_false, not_false_eq_true, false_or, or_false, Bool.false_eq_true]
        · rw [if_neg h2]
          have d2 : (nI (l.2 b) = 59) = False := eq_false (fun q => h2 ((nI_eq (b := 59) (by omega) (by omega)).mp q))
          have e1 : (am_setI M1 59 12 0).1 59 11 = nI b := by rw [gI, if_neg (by omega)]; exact q3
          refine ⟨am_setI M1 59 12 0, ?_, by rw [gI, if_pos ⟨rfl, rfl⟩]; rfl, fun q hq => absurd hq (Nat.not_lt_zero _), of1.sI (Or.inr ⟨rfl, Or.inr rfl⟩)⟩
          rw [e166_23]
          simp only [e166_0, e166_1, e166_2, e166_5, e166_6, e166_7, e166_10, e166_11, e166_14, e166_17, e166_18, e166_21, e166_22, e166_24, e166_27, e166_28, e166_31, e166_34, e166_35, e166_38, e166_39, e166_40, e166_43, e166_44, e166_47, e166_50, e166_51, e166_54, e166_55, e166_56, e166_57, e166_60, e166_61, e166_64, e166_66, e166_69, e166_70, e166_73, e166_74, e166_75, e166_76, e166_79, e166_80, e166_83, e166_84, e166_87, e166_88, e166_89, e166_92, e166_95, e166_96, e165_0, e165_1, e165_2, e165_5, e165_6, e165_9, s59, s59_0, s59_1, s59_2, s59_3, s59_4, s59_5, s59_6, s59_7, s59_8, s59_9, s59_10, s59_11, s59_12, s59_13, s59_14, s59_15, s59_16, s59_17, s59_18, s59_19, s59_20, s59_21, s59_22, s59_23, s59_24, s59_25, s59_26, s59_27, s59_28, s59_29, s59_30, s59_31, r59_0, r59_1, r59_2, r59_3, r59_6, r59_8, r59_9, r59_13, r59_15, r59_16, r59_17, r59_19, r59_22, r59_23, r59_26, r59_30, r59_31, s60, s61, s62, s63, s64, s65, s66, s67, s68, s69, s70, s71, s72, s73, s74, s75, s76, o0, z0, q2, q3, x1.1, c1, hh, d2, e1, ps_v, am_bv_s, am_bw_s, eq_self, true_or, or_true, am_b0, am_b1, am_em, if_true, if_false, true_and, and_true, false_and, and_false, not_true_eq_false, not_false_eq_true, false_or, or_false, Bool.false_eq_true]
      · rw [if_neg h1]
        obtain rfl : b = l.1 := by omega
        have c1 : (nI l.1 < nI l.1) = False := eq_false (nI_nlt (by omega) (by omega))
        have of2 : am_of pmW M1 (am_setI M1 59 11 (nI l.1 + 0)) := am_of.rf.sI (Or.inr ⟨rfl, Or.inl rfl⟩)
        refine ⟨am_setI M1 59 11 (nI l.1 + 0), ?_, by rw [gI, if_neg (by omega)]; exact q4, fun q hq => by rw [gI, if_neg (by omega)]; exact q5 q hq, of1.tr of2⟩
        have fin : ∀ M2 : am_Me, am_e X 166 23 [some (.ref (59 : Nat)), some (.int 0)] [] kS M2 = some (some (.int (-1)), kS, M2) := fun M2 => by
          rw [e166_23]
          simp only [e166_0, e166_1, e166_2, e166_5, e166_6, e166_7, e166_10, e166_11, e166_14, e166_17, e166_18, e166_21, e166_22, e166_24, e166_27, e166_28, e166_31, e166_34, e166_35, e166_38, e166_39, e166_40, e166_43, e166_44, e166_47, e166_50, e166_51, e166_54, e166_55, e166_56, e166_57, e166_60, e166_61, e166_64, e166_66, e166_69, e166_70, e166_73, e166_74, e166_75, e166_76, e166_79, e166_80, e166_83, e166_84, e166_87, e166_88, e166_89, e166_92, e166_95, e166_96, z0, am_bv_s, am_bw_s, eq_self, true_or, or_true, am_b0, am_b1, am_em, if_true, if_false, true_and, and_true, false_and, and_false, not_true_eq_false, not_false_eq_true, false_or, or_false, Bool.false_eq_true]
        rw [e166_23]
        simp only [e166_0, e166_1, e166_2, e166_5, e166_6, e166_7, e166_10, e166_11, e166_14, e166_17, e166_18, e166_21, e166_22, e166_24, e166_27, e166_28, e166_31, e166_34, e166_35, e166_38, e166_39, e166_40, e166_43, e166_44, e166_47, e166_50, e166_51, e166_54, e166_55, e166_56, e166_57, e166_60, e166_61, e166_64, e166_66, e166_69, e166_70, e166_73, e166_74, e166_75, e166_76, e166_79, e166_80, e166_83, e166_84, e166_87, e166_88, e166_89, e166_92, e166_95, e166_96, s59, s59_0, s59_1, s59_2, s59_3, s59_4, s59_5, s59_6, s59_7, s59_8, s59_9, s59_10, s59_11, s59_12, s59_13, s59_14, s59_15, s59_16, s59_17, s59_18, s59_19, s59_20, s59_21, s59_22, s59_23, s59_24, s59_25, s59_26, s59_27, s59_28, s59_29, s59_30, s59_31, r59_0, r59_1, r59_2, r59_3, r59_6, r59_8, r59_9, r59_13, r59_15, r59_16, r59_17, r59_19, r59_22, r59_23, r59_26, r59_30, r59_31, s60, s61, s62, s63, s64, s65, s66, s67, s68, s69, s70, s71, s72, s73, s74, s75, s76, o0, z0, q2, q3, x1.1, c1, fin, ps_v, am_bv_s, am_bw_s, eq_self, true_or, or_true, am_b0, am_b1, am_em, if_true, if_false, true_and, and_true, false_and, and_false, not_true_eq_false, not_false_eq_true, false_or, or_false, Bool.false_eq_true]
/-- the words as the reference finds them -/
def mW (nb : Nat) (l : sgL) (M : am_Me) : Prop := M.1 59 12 = nI (ps nb l).2.1 ∧ ∀ q, q < (ps nb l).2.1 → M.1 67 q = nI ((ps nb l).2.2 q)
theorem m_reads {nb : Nat} (hb : nb ≤ 6) (ho : okL l) (hx : mL l M) (hB : M.1 59 5 = nI nb) : ∃ M', am_e X 166 0 [some (.ref (59 : Nat)), none] [] kS M = some (some (.int (ps_v (ps nb l).1)), kS, M') ∧ mW nb l M' ∧ am_of pmW M M' := by
  have h80 := ho.1
  generalize hM1 : am_setI (am_setI M 59 11 0) 59 12 0 = M1
  have of1 : am_of pmW M M1 := by rw [← hM1]; exact (am_of.rf.sI (Or.inr ⟨rfl, Or.inl rfl⟩)).sI (Or.inr ⟨rfl, Or.inr rfl⟩)
  have x1 : mL l M1 := hx.of of1 (fun a' k' q => by unfold pmW at q; omega)
  have B1 : M1.1 59 5 = nI nb := ((of1 _ _ (by unfold pmW; omega)).1).trans hB
  have A1 : M1.1 59 11 = nI 0 := by rw [← hM1, gI, if_neg (by omega), gI, if_pos ⟨rfl, rfl⟩]; rfl
  have W1 : M1.1 59 12 = nI 0 := by rw [← hM1, gI, if_pos ⟨rfl, rfl⟩]; rfl
  unfold mW ps
  by_cases h0 : l.1 = 0
  · rw [if_pos h0]
    have c0 : ((0 : Int32) < nI 0) = False := eq_false (by decide)
    have z0 : ((0 : Int32) = 0) = True := eq_true rfl
    refine ⟨M1, ?_, ⟨W1, fun q hq => absurd hq (Nat.not_lt_zero _)⟩, of1⟩
    simp only [e166_0, e166_1, e166_2, e166_5, e166_6, e166_7, e166_10, e166_11, e166_14, e166_17, e166_18, e166_21, e166_22, e166_23, e166_24, e166_27, e166_28, e166_31, e166_34, e166_35, e166_38, e166_39, e166_40, e166_43, e166_44, e166_47, e166_50, e166_51, e166_54, e166_55, e166_56, e166_57, e166_60, e166_61, e166_64, e166_66, e166_69, e166_70, e166_73, e166_74, e166_75, e166_76, e166_79, e166_80, e166_83, e166_84, e166_87, e166_88, e166_89, e166_92, e166_95, e166_96, s59, s59_0, s59_1, s59_2, s59_3, s59_4, s59_5, s59_6, s59_7, s59_8, s59_9, s59_10, s59_11, s59_12, s59_13, s59_14, s59_15, s59_16, s59_17, s59_18, s59_19, s59_20, s59_21, s59_22, s59_23, s59_24, s59_25, s59_26, s59_27, s59_28, s59_29, s59_30, s59_31, r59_0, r59_1, r59_2, r59_3, r59_6, r59_8, r59_9, r59_13, r59_15, r59_16, r59_17, r59_19, r59_22, r59_23, r59_26, r59_30, r59_31, s60, s61, s62, s63, s64, s65, s66, s67, s68, s69, s70, s71, s72, s73, s74, s75, s76, hM1, x1.1, h0, c0, z0, ps_v, am_bv_s, am_bw_s, eq_self, true_or, or_true, am_b0, am_b1, am_em, if_true, if_false, true_and, and_true, false_and, and_false, not_true_eq_false, not_false_eq_true, false_or, or_false, Bool.false_eq_true]
  · rw [if_neg h0]
    have c0 : ((0 : Int32) < nI l.1) = True := eq_true (by rw [← nI_0]; exact nI_lt (by omega) (by omega))
    obtain ⟨M', t1, t2, t3, t4⟩ := m_readsLoop (X := X) hb ho 81 0 0 (fun _ => 0) M1 x1 B1 A1 W1 (fun q hq => absurd hq (Nat.not_lt_zero _)) (by omega) (by omega) (by omega)
    refine ⟨M', ?_, ⟨t2, t3⟩, of1.tr t4⟩
    rw [← t1]
    simp only [e166_0, e166_1, e166_2, e166_5, e166_6, e166_7, e166_10, e166_11, e166_14, e166_17, e166_18, e166_21, e166_22, e166_24, e166_27, e166_28, e166_31, e166_34, e166_35, e166_38, e166_39, e166_40, e166_43, e166_44, e166_47, e166_50, e166_51, e166_54, e166_55, e166_56, e166_57, e166_60, e166_61, e166_64, e166_66, e166_69, e166_70, e166_73, e166_74, e166_75, e166_76, e166_79, e166_80, e166_83, e166_84, e166_87, e166_88, e166_89, e166_92, e166_95, e166_96, s59, s59_0, s59_1, s59_2, s59_3, s59_4, s59_5, s59_6, s59_7, s59_8, s59_9, s59_10, s59_11, s59_12, s59_13, s59_14, s59_15, s59_16, s59_17, s59_18, s59_19, s59_20, s59_21, s59_22, s59_23, s59_24, s59_25, s59_26, s59_27, s59_28, s59_29, s59_30, s59_31, r59_0, r59_1, r59_2, r59_3, r59_6, r59_8, r59_9, r59_13, r59_15, r59_16, r59_17, r59_19, r59_22, r59_23, r59_26, r59_30, r59_31, s60, s61, s62, s63, s64, s65, s66, s67, s68, s69, s70, s71, s72, s73, s74, s75, s76, hM1, x1.1, c0, am_bv_s, am_bw_s, eq_self, true_or, or_true, am_b0, am_b1, am_em, if_true, if_false, true_and, and_true, false_and, and_false, not_true_eq_false, not_false_eq_true, false_or, or_false, Bool.false_eq_true]
end
