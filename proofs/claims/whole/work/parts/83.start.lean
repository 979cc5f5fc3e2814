/-! both made: the state at the start -/
def st0 : sgm := ((fun _ => true, fun _ => 0, fun _ => 0, fun _ _ => 0, 0), (0, fun _ => 0), (0, fun _ _ => 0), (0, fun _ => 0), (0, fun _ => 0, fun _ => 0, fun _ => 0, fun _ => 0, 999))
theorem st0_ok : okm st0 := ⟨⟨Nat.zero_le _, fun _ _ => ⟨Nat.zero_le _, Nat.zero_le _⟩⟩, ⟨Nat.zero_le _, fun b hb => absurd hb (Nat.not_lt_zero _)⟩, ⟨Nat.zero_le _, fun _ _ _ _ => Nat.zero_le _⟩, ⟨Nat.zero_le _, fun b hb => absurd hb (Nat.not_lt_zero _)⟩, Nat.zero_le _, Nat.le_refl _, fun b hb => absurd hb (Nat.not_lt_zero _)⟩
section
variable {X : am_X} {S : am_Sh} {M M' M1 : am_Me} {P : Nat → Nat → Prop}
theorem x_init : ∃ M', am_e X 89 0 [some (.ref (0 : Nat))] [] h1 M = some (none, h73, M') ∧ JX st0 M' ∧ am_of (fun a _ => 1 ≤ a ∧ a < 59) M M' := by
  generalize hT1 : mm_Dictionary (am_clr M 1) = T1
  have o1 : am_of (fun a _ => 1 ≤ a ∧ a < 6) M T1 := by
    rw [← hT1]
    exact (am_of.rf.cl (P := fun a _ => 1 ≤ a ∧ a < 6) (fun _ => by omega)).tr fr_Dictionary
  have v1 : T1.1 1 4 = 0 := by rw [← hT1]; exact vl_Dictionary
  generalize hT2 : mm_Shelf (am_clr T1 6) = T2
  have o2 : am_of (fun a _ => 6 ≤ a ∧ a < 21) T1 T2 := by
    rw [← hT2]
    exact (am_of.rf.cl (P := fun a _ => 6 ≤ a ∧ a < 21) (fun _ => by omega)).tr fr_Shelf
  have v2 : T2.1 6 8 = 0 ∧ ∀ k, k < 6 → ∀ d, T2.1 (8 + k) d = 0 := by rw [← hT2]; exact vl_Shelf
  generalize hT3 : mm_WordList (am_clr T2 21) = T3
  have o3 : am_of (fun a _ => 21 ≤ a ∧ a < 24) T2 T3 := by
    rw [← hT3]
    exact (am_of.rf.cl (P := fun a _ => 21 ≤ a ∧ a < 24) (fun _ => by omega)).tr fr_WordList
  have v3 : T3.1 21 2 = 0 ∧ T3.1 21 3 = 0 ∧ T3.1 21 4 = -1 := by rw [← hT3]; exact vl_WordList
  obtain ⟨T4, r4, w1, w2, w3, o4'⟩ := x_Answers (X := X) (M := am_clr T3 24)
  have o4 : am_of (fun a _ => 24 ≤ a ∧ a < 36) T3 T4 := (am_of.rf.cl (P := fun a _ => 24 ≤ a ∧ a < 36) (fun _ => by omega)).tr o4'
  generalize hT5 : mm_Tallies (am_clr T4 36) = T5
  have o5 : am_of (fun a _ => 36 ≤ a ∧ a < 48) T4 T5 := by
    rw [← hT5]
    exact (am_of.rf.cl (P := fun a _ => 36 ≤ a ∧ a < 48) (fun _ => by omega)).tr fr_Tallies
  have v5 : ∀ t, t < 4 → ∀ k, T5.1 (38 + t) k = 0 ∧ T5.1 (43 + t) k = 0 := by rw [← hT5]; exact vl_Tallies
  obtain ⟨T6, r6, v6, o6'⟩ := x_Chances (X := X) (M := am_clr T5 48)
  have o6 : am_of (fun a _ => 48 ≤ a ∧ a < 50) T5 T6 := (am_of.rf.cl (P := fun a _ => 48 ≤ a ∧ a < 50) (fun _ => by omega)).tr (o6'.mo fun a k q => by omega)
  obtain ⟨T7, r7, v7, w7, o7'⟩ := x_Sheets (X := X) (M := am_clr T6 50)
  have o7 : am_of (fun a _ => 50 ≤ a ∧ a < 58) T6 T7 := (am_of.rf.cl (P := fun a _ => 50 ≤ a ∧ a < 58) (fun _ => by omega)).tr o7'
  generalize hT8 : am_setL (am_setL (am_clr T7 58) 58 0 0) 58 1 1 = T8
  have o8 : am_of (fun a _ => a = 58) T7 T8 := by
    rw [← hT8]
    exact am_of.sL (P := fun a _ => a = 58) (am_of.sL (P := fun a _ => a = 58) (am_of.cl (P := fun a _ => a = 58) am_of.rf (fun _ => rfl)) rfl) rfl
  have p7 : am_of (fun a _ => 50 ≤ a ∧ a < 59) T6 T8 := (o7.mo fun a k q => by omega).tr (o8.mo fun a k q => by omega)
  have p6 : am_of (fun a _ => 48 ≤ a ∧ a < 59) T5 T8 := (o6.mo fun a k q => by omega).tr (p7.mo fun a k q => by omega)
  have p5 : am_of (fun a _ => 36 ≤ a ∧ a < 59) T4 T8 := (o5.mo fun a k q => by omega).tr (p6.mo fun a k q => by omega)
  have p4 : am_of (fun a _ => 24 ≤ a ∧ a < 59) T3 T8 := (o4.mo fun a k q => by omega).tr (p5.mo fun a k q => by omega)
  have p3 : am_of (fun a _ => 21 ≤ a ∧ a < 59) T2 T8 := (o3.mo fun a k q => by omega).tr (p4.mo fun a k q => by omega)
  have p2 : am_of (fun a _ => 6 ≤ a ∧ a < 59) T1 T8 := (o2.mo fun a k q => by omega).tr (p3.mo fun a k q => by omega)
  have p1 : am_of (fun a _ => 1 ≤ a ∧ a < 59) M T8 := (o1.mo fun a k q => by omega).tr (p2.mo fun a k q => by omega)
  refine ⟨T8, ?_, ⟨⟨⟨?_, fun t ht => ⟨?_, fun q => by cases q⟩⟩, ⟨?_, fun b hb => absurd hb (Nat.not_lt_zero _)⟩, ⟨?_, fun k hk d hd => ?_⟩, ⟨?_, fun b hb => absurd hb (Nat.not_lt_zero _)⟩, ⟨?_, ?_, fun b hb => absurd hb (Nat.not_lt_zero _)⟩, fun t ht w hw => ?_, fun n hn k hk => ?_⟩, ⟨?_, fun q hq => absurd hq (Nat.not_lt_zero _), ?_⟩, fun t ht k hk => ⟨?_, ?_⟩⟩, p1⟩
  · simp only [e89_0, e89_1, e89_4, e89_5, e89_8, e89_9, e89_12, e89_15, e89_16, e89_19, e89_20, e89_23, e89_26, e89_27, e89_30, e89_31, e89_34, e89_37, e89_38, e89_41, e89_42, e89_45, e89_48, e89_49, e89_52, e89_53, e89_56, e89_59, e89_60, e89_63, e89_64, e89_67, e89_70, e89_71, e89_74, e89_75, e89_78, e89_81, e89_82, e89_85, e89_86, e89_89, e89_92, hn1, ht1, ho10_0_0, ht10, hn11, ht11, ho28_0_1, ht28, hn29, ht29, ho34_0_2, ht34, hn35, ht35, ho50_0_3, ht50, hn51, ht51, ho58_0_4, ht58, hn59, ht59, ho62_0_5, ht62, hn63, ht63, ho70_0_6, ht70, hn71, ht71, ho72_58_0, ho72_58_1, ho72_0_7, ht72, il4, ic4, ib4, il6, ic6, ib6, il7, ic7, ib7, il36, ic36, ib36, il40, ic40, ib40, il50, ic50, ib50, il60, ic60, ib60, il80, ic80, ib80, il120, ic120, ib120, il160, ic160, ib160, il240, ic240, ib240, il900, ic900, ib900, ci_Dictionary, ci_Shelf, ci_WordList, ci_Tallies, ci_frac, hT1, hT2, hT3, r4, hT5, r6, r7, hT8, am_bv_s, am_bw_s, eq_self, true_or, or_true, am_b0, am_b1, am_em, if_true, if_false, true_and, and_true, false_and, and_false, not_true_eq_false, not_false_eq_true, false_or, or_false, Bool.false_eq_true]
  · rw [(o8 _ _ (by omega)).1, v7]; rfl
  · rw [(o8 _ _ (by omega)).1, w7 t ht]; rfl
  · rw [(p2 _ _ (by omega)).1, v1]; rfl
  · rw [(p3 _ _ (by omega)).1, v2.1]; rfl
  · rw [(p3 _ _ (by omega)).1, v2.2 k hk d]; rfl
  · rw [(p4 _ _ (by omega)).1, v3.1]; rfl
  · rw [(p5 _ _ (by omega)).1, w1]; rfl
  · rw [(p5 _ _ (by omega)).1, w2]; rfl
  · rw [(p5 _ _ (by omega)).1, w3 t ht w hw]; rfl
  · rw [(p7 _ _ (by omega)).2]; exact v6 n hn k hk
  · rw [(p4 _ _ (by omega)).1, v3.2.1]; rfl
  · rw [(p4 _ _ (by omega)).1, v3.2.2]; rfl
  · rw [(p6 _ _ (by omega)).1, (v5 t ht k).1]; rfl
  · rw [(p6 _ _ (by omega)).1, (v5 t ht k).2]; rfl
theorem m_init (hz : ∀ k, M.1 59 k = 0) : ∃ M', am_e X 138 0 [some (.ref (59 : Nat)), none] [] h74 M = some (none, kS, M') ∧ JM st0 M' ∧ am_of (fun a _ => 59 ≤ a ∧ a < 77) M M' := by
  have f := fr_Model (M := M)
  have v := vl_Model (M := M)
  obtain ⟨M', e1, g1, g2⟩ := am_lp (X := X) (S := kS) (mi := 138) (pc := 150) 4 (fun i => [some (.ref (59 : Nat)), some (.int (nI i))])
    (fun i M' => (∀ t, t < i → M'.1 60 t = -1) ∧ am_of (fun a _ => a = 60) (mm_Model M) M') (M := mm_Model M) ⟨fun t ht => absurd ht (Nat.not_lt_zero _), am_of.rf⟩ (by
      intro j M2 hj hI
      obtain ⟨i1, i2⟩ := hI
      have c1 : (nI j < 4) = True := eq_true (nI_lt (b := 4) hj (by decide))
      have cj : (nI j).toNatClampNeg = j := nI_clamp (by omega)
      refine ⟨am_setI M2 60 j (-1), ?_, fun t ht => ?_, am_of.sI (P := fun a _ => a = 60) i2 rfl⟩
      · rw [e138_150]
        simp only [e138_0, e138_1, e138_4, e138_5, e138_6, e138_8, e138_11, e138_12, e138_13, e138_15, e138_18, e138_19, e138_22, e138_24, e138_27, e138_28, e138_30, e138_32, e138_35, e138_36, e138_38, e138_40, e138_43, e138_44, e138_46, e138_48, e138_51, e138_52, e138_54, e138_56, e138_59, e138_60, e138_62, e138_64, e138_67, e138_68, e138_70, e138_72, e138_75, e138_76, e138_78, e138_80, e138_83, e138_84, e138_86, e138_88, e138_91, e138_92, e138_95, e138_98, e138_99, e138_102, e138_104, e138_107, e138_108, e138_110, e138_112, e138_115, e138_116, e138_118, e138_120, e138_123, e138_124, e138_126, e138_128, e138_131, e138_132, e138_134, e138_136, e138_139, e138_140, e138_143, e138_145, e138_148, e138_149, e138_151, e138_152, e138_155, e138_156, e138_159, e138_160, e138_161, e138_162, e138_165, e138_168, s59, s59_0, s59_1, s59_2, s59_3, s59_4, s59_5, s59_6, s59_7, s59_8, s59_9, s59_10, s59_11, s59_12, s59_13, s59_14, s59_15, s59_16, s59_17, s59_18, s59_19, s59_20, s59_21, s59_22, s59_23, s59_24, s59_25, s59_26, s59_27, s59_28, s59_29, s59_30, s59_31, r59_0, r59_1, r59_2, r59_3, r59_6, r59_8, r59_9, r59_13, r59_15, r59_16, r59_17, r59_19, r59_22, r59_23, r59_26, r59_30, r59_31, s60, s61, s62, s63, s64, s65, s66, s67, s68, s69, s70, s71, s72, s73, s74, s75, s76, c1, cj, nI_1, a60 hj, am_bv_s, am_bw_s, eq_self, true_or, or_true, am_b0, am_b1, am_em, if_true, if_false, true_and, and_true, false_and, and_false, not_true_eq_false, not_false_eq_true, false_or, or_false, Bool.false_eq_true]
      · rw [gI]
        by_cases e : t = j
        · rw [if_pos ⟨rfl, e⟩]
        · rw [if_neg (fun q => e q.2)]; exact i1 t (by omega))
  have k59 : ∀ k, ¬ k = 18 → M'.1 59 k = 0 := fun k hk => by rw [(g2 _ _ (by omega)).1, (f _ _ (by omega)).1]; exact hz k
  refine ⟨M', ?_, ⟨⟨k59 4 (by decide), fun t ht => ⟨g1 t ht, fun q => by cases q⟩⟩, ⟨k59 5 (by decide), fun b hb => absurd hb (Nat.not_lt_zero _)⟩, ⟨k59 7 (by decide), fun k hk d hd => ?_⟩, ⟨k59 10 (by decide), fun b hb => absurd hb (Nat.not_lt_zero _)⟩, ⟨k59 14 (by decide), ?_, fun b hb => absurd hb (Nat.not_lt_zero _)⟩⟩, (f.mo fun a k q => by omega).tr (g2.mo fun a k q => by omega)⟩
  · have c4 : (nI 4 < 4) = False := eq_false (by decide)
    have fin : am_e X 138 150 [some (.ref (59 : Nat)), some (.int (nI 4))] [] kS M' = some (none, kS, M') := by
      rw [e138_150]
      simp only [e138_0, e138_1, e138_4, e138_5, e138_6, e138_8, e138_11, e138_12, e138_13, e138_15, e138_18, e138_19, e138_22, e138_24, e138_27, e138_28, e138_30, e138_32, e138_35, e138_36, e138_38, e138_40, e138_43, e138_44, e138_46, e138_48, e138_51, e138_52, e138_54, e138_56, e138_59, e138_60, e138_62, e138_64, e138_67, e138_68, e138_70, e138_72, e138_75, e138_76, e138_78, e138_80, e138_83, e138_84, e138_86, e138_88, e138_91, e138_92, e138_95, e138_98, e138_99, e138_102, e138_104, e138_107, e138_108, e138_110, e138_112, e138_115, e138_116, e138_118, e138_120, e138_123, e138_124, e138_126, e138_128, e138_131, e138_132, e138_134, e138_136, e138_139, e138_140, e138_143, e138_145, e138_148, e138_149, e138_151, e138_152, e138_155, e138_156, e138_159, e138_160, e138_161, e138_162, e138_165, e138_168, c4, am_bv_s, am_bw_s, eq_self, true_or, or_true, am_b0, am_b1, am_em, if_true, if_false, true_and, and_true, false_and, and_false, not_true_eq_false, not_false_eq_true, false_or, or_false, Bool.false_eq_true]
    rw [fin, nI_0] at e1
    rw [ci_Model, h_last, e1]
  · rw [(g2 _ _ (by omega)).1, v.2]; rfl
  · rw [(g2 _ _ (by omega)).1, v.1]; rfl
end
