/-! the reference: sums; knows -/
/-- the sum of n bands as the reference keeps it -/
def mSm (t c h : Nat → Nat) (D n : Nat) (M : am_Me) : Prop := ∃ p : Nat × Nat, mQ p M ∧ 0 < p.2 ∧ p.1 * (D * (qS t c h n).2) = (qS t c h n).1 * p.2 ∧ p.2 ∣ D * (qS t c h n).2
theorem hasA_st {nb : Nat} {l : sgL} {A : sgA} {t : Nat} : ∀ k, nb + k ≤ 6 → hasA nb l A t (nb + k) = hasA nb l A t nb
  | 0, _ => rfl
  | k + 1, h => by
    rw [show nb + (k + 1) = (nb + k) + 1 by omega, hasA, hasA_st k (by omega), sAs_out (by omega) (by omega)]
    simp
theorem hasA_6 {nb : Nat} {l : sgL} {A : sgA} {t : Nat} (h : nb ≤ 6) : hasA nb l A t 6 = hasA nb l A t nb := by
  have := hasA_st (nb := nb) (l := l) (A := A) (t := t) (6 - nb) (by omega)
  rw [show nb + (6 - nb) = 6 by omega] at this
  exact this
section
variable {X : am_X} {S : am_Sh} {M M' : am_Me} {P : Nat → Nat → Prop} {s : sgm}
theorem mSm.of {t c h : Nat → Nat} {D n : Nat} (hx : mSm t c h D n M) (ho : am_of P M M') (hP : ∀ a k, P a k → ¬ pmQ a k) : mSm t c h D n M' := by
  obtain ⟨p, ⟨h1, h2⟩, h3⟩ := hx
  exact ⟨p, ⟨((ho _ _ (fun z => hP _ _ z ⟨rfl, Or.inl rfl⟩)).2).trans h1, ((ho _ _ (fun z => hP _ _ z ⟨rfl, Or.inr rfl⟩)).2).trans h2⟩, h3⟩
theorem mSm.st {t c h : Nat → Nat} {D : Nat} (hq : mQ (0, 1) M) : mSm t c h D 0 M := ⟨(0, 1), hq, Nat.one_pos, by show 0 * _ = 0 * 1; rw [Nat.zero_mul, Nat.zero_mul], ⟨_, (Nat.one_mul _).symm⟩⟩
theorem mSm.sk {t c h : Nat → Nat} {D n : Nat} (hx : mSm t c h D n M) (hc : c n = 0) : mSm t c h D (n + 1) M := by
  obtain ⟨p, h1, h2, h3, h4⟩ := hx
  refine ⟨p, h1, h2, ?_, ?_⟩
  · rw [qS]
    dsimp only
    rw [hc, Nat.mul_zero, Nat.zero_mul, Nat.add_zero]
    generalize (qS t c h n).1 = N at *
    generalize (qS t c h n).2 = H at *
    calc p.1 * (D * (H * h n)) = p.1 * (D * H) * h n := by ac_rfl
      _ = N * h n * p.2 := by rw [h3]; ac_rfl
  · rw [qS]
    dsimp only
    rw [← Nat.mul_assoc]
    exact Nat.dvd_trans h4 (Nat.dvd_mul_right _ _)
theorem mSm.ad {t c h : Nat → Nat} {D n a b : Nat} (hx : mSm t c h D n M) (hD : 0 < D) (hp : ∀ k, k < n → 0 < h k) (hl : D * (qS t c h n).2 < 2 ^ 63) (hb : b < 2 ^ 63) (h0 : 0 < b) (hab : a * (h n * D) = t n * c n * b) (hbd : b ∣ h n * D) : ∃ M', am_e X 182 0 [some (.ref (59 : Nat)), some (.long (lI a)), none, some (.long (lI b)), none, none, none] [] kS M = some (none, kS, M') ∧ mSm t c h D (n + 1) M' ∧ am_of pmQ M M' := by
  obtain ⟨p, h1, h2, h3, h4⟩ := hx
  have hH : 0 < (qS t c h n).2 := qS_pos n hp
  have p63 : p.2 < 2 ^ 63 := Nat.lt_of_le_of_lt (Nat.le_of_dvd (Nat.mul_pos hD hH) h4) hl
  obtain ⟨M', r1, r2, r3⟩ := m_adds (X := X) (a := a) h1 p63 hb h0
  have key := adq_ok (a := a) (b := b) (h := h n) (D := D) (H := (qS t c h n).2) h3 h4 h2 h0 hab hbd rfl rfl
  refine ⟨M', r1, ⟨adq p a b, r2, ?_, ?_, ?_⟩, r3⟩
  · have hg : 0 < Nat.gcd p.2 b := Nat.gcd_pos_of_pos_right p.2 h0
    exact Nat.mul_pos (Nat.div_pos (Nat.le_of_dvd h2 (Nat.gcd_dvd_left p.2 b)) hg) h0
  · rw [qS]
    exact key
  · rw [qS]
    show p.2 / Nat.gcd p.2 b * b ∣ D * ((qS t c h n).2 * h n)
    generalize (qS t c h n).2 = H at *
    have e : p.2 / Nat.gcd p.2 b * b = Nat.lcm p.2 b := by
      unfold Nat.lcm
      obtain ⟨u, hu⟩ := Nat.gcd_dvd_left p.2 b
      have hg : 0 < Nat.gcd p.2 b := Nat.gcd_pos_of_pos_right p.2 h0
      generalize Nat.gcd p.2 b = g at *
      rw [hu, Nat.mul_div_cancel_left u hg, Nat.mul_assoc, Nat.mul_div_cancel_left _ hg]
    rw [e]
    apply Nat.lcm_dvd
    · rw [← Nat.mul_assoc]
      exact Nat.dvd_trans h4 (Nat.dvd_mul_right _ _)
    · rw [show D * (H * h n) = h n * D * H by ac_rfl]
      exact Nat.dvd_trans hbd (Nat.dvd_mul_right _ _)
theorem mSm.fr {t c h : Nat → Nat} {D n : Nat} (hx : mSm t c h D n M) (hD : 0 < D) (hp : ∀ k, k < n → 0 < h k) : ∃ p : Nat × Nat, mQ p M ∧ 0 < p.2 ∧ p.2 ≤ D * (qS t c h n).2 ∧ fr p.1 p.2 = fr (qS t c h n).1 (D * (qS t c h n).2) ∧ p.1 * (D * (qS t c h n).2) = (qS t c h n).1 * p.2 := by
  obtain ⟨p, h1, h2, h3, h4⟩ := hx
  have hH : 0 < D * (qS t c h n).2 := Nat.mul_pos hD (qS_pos n hp)
  exact ⟨p, h1, h2, Nat.le_of_dvd hH h4, fr_eq h2 hH h3, h3⟩
/-- above is not far over below -/
theorem sm_bd {p : Nat × Nat} {N L : Nat} (hL : 0 < L) (h1 : p.1 * L = N * p.2) (h2 : N ≤ 594 * L) : p.1 ≤ 594 * p.2 := by
  apply Nat.le_of_mul_le_mul_right _ hL
  rw [h1]
  calc N * p.2 ≤ 594 * L * p.2 := Nat.mul_le_mul_right _ h2
    _ = 594 * p.2 * L := by ac_rfl
theorem m_knowsOf {t : Nat} (hx : JM s M) (ho : okm s) (ht : t < 4) (w v : Int32) (hw : w = 0 ∨ w = 1) : ∃ M', am_e X 183 0 [some (.ref (59 : Nat)), some (.int (nI t)), some (.int w), some (.int v), none, none, none] [] kS M = some (some (.long (if w = 0 then fp (fr (sYe s.2.1.1 s.2.2.2.1 s.2.2.2.2 t 6) (gG s.2.1.1 s.2.2.2.1 s.2.2.2.2 t)) v else if hasA s.2.1.1 s.2.2.2.1 s.2.2.2.2 t 6 = true ∧ ¬ gD s.2.1.1 s.2.2.2.1 s.2.2.2.2 t = 0 then fp (fr (sKn s t s.2.1.1).1 (gD s.2.1.1 s.2.2.2.1 s.2.2.2.2 t * (sKn s t s.2.1.1).2)) v else nol (-3))), kS, M') ∧ JM s M' ∧ am_of (fun a k => pmT a k ∨ pmQ a k) M M' := by
  have d6 := ho.2.1.1
  obtain ⟨M1, r1, j1, mt, mf, of1⟩ := m_findTrue (X := X) hx ho ht
  have h40 := fun k => sAs_le d6 (l := s.2.2.2.1) (A := s.2.2.2.2) (t := t) (k := k)
  have hy := fun k => sYe_le (nb := s.2.1.1) (l := s.2.2.2.1) (A := s.2.2.2.2) (t := t) (k := k)
  rcases hw with rfl | rfl
  · rw [if_pos rfl]
    refine ⟨M1, ?_, j1.1, of1.mo fun a k q => Or.inl q⟩
    have c0 : (nI (sAs s.2.1.1 s.2.2.2.1 s.2.2.2.2 t 6) = 0) = (sAs s.2.1.1 s.2.2.2.1 s.2.2.2.2 t 6 = 0) := nI_0e (by have := h40 6; omega)
    by_cases h0 : sAs s.2.1.1 s.2.2.2.1 s.2.2.2.2 t 6 = 0
    · have y0 : sYe s.2.1.1 s.2.2.2.1 s.2.2.2.2 t 6 = 0 := by have := hy 6; omega
      have g1 : gG s.2.1.1 s.2.2.2.1 s.2.2.2.2 t = 1 := by unfold gG; rw [h0]; rfl
      rw [y0, g1]
      have p := m_part2 (X := X) (S := kS) (M := M1) (a := 0) (b := 1) (w := v) (by decide) (by decide) (by decide)
      rw [lI_0, lI_1] at p
      have f1z : M1.1 59 20 = 0 := by rw [mf.1, h0]; rfl
      simp only [e183_0, e183_1, e183_2, e183_5, e183_7, e183_8, e183_11, e183_12, e183_15, e183_18, e183_19, e183_20, e183_21, e183_24, e183_27, e183_28, e183_31, e183_32, e183_33, e183_36, e183_37, e183_38, e183_41, e183_42, e183_43, e183_44, e183_47, e183_48, e183_49, e183_52, e183_53, e183_55, e183_56, e183_60, e183_61, e183_64, e183_67, e183_69, e183_72, e183_73, e183_76, e183_78, e183_79, e183_80, e183_81, e183_84, e183_85, e183_87, e183_88, e183_89, e183_92, e183_94, e183_95, e183_96, e183_99, e183_101, e183_102, e183_103, e183_104, e183_105, e183_108, e183_110, e183_111, e183_114, e183_117, e183_120, e183_122, e183_125, e183_126, e183_129, e183_130, e183_133, e183_134, e183_137, e183_140, e183_142, e183_145, s59, s59_0, s59_1, s59_2, s59_3, s59_4, s59_5, s59_6, s59_7, s59_8, s59_9, s59_10, s59_11, s59_12, s59_13, s59_14, s59_15, s59_16, s59_17, s59_18, s59_19, s59_20, s59_21, s59_22, s59_23, s59_24, s59_25, s59_26, s59_27, s59_28, s59_29, s59_30, s59_31, r59_0, r59_1, r59_2, r59_3, r59_6, r59_8, r59_9, r59_13, r59_15, r59_16, r59_17, r59_19, r59_22, r59_23, r59_26, r59_30, r59_31, s60, s61, s62, s63, s64, s65, s66, s67, s68, s69, s70, s71, s72, s73, s74, s75, s76, r1, f1z, p, am_bv_s, am_bw_s, eq_self, true_or, or_true, am_b0, am_b1, am_em, if_true, if_false, true_and, and_true, false_and, and_false, not_true_eq_false, not_false_eq_true, false_or, or_false, Bool.false_eq_true]
    · have g1 : gG s.2.1.1 s.2.2.2.1 s.2.2.2.2 t = sAs s.2.1.1 s.2.2.2.1 s.2.2.2.2 t 6 := Nat.max_eq_right (by omega)
      rw [g1]
      have l1 := lI_w (n := sAs s.2.1.1 s.2.2.2.1 s.2.2.2.2 t 6) (by have := h40 6; omega)
      have l2 := lI_w (n := sYe s.2.1.1 s.2.2.2.1 s.2.2.2.2 t 6) (by have := hy 6; have := h40 6; omega)
      have p := m_part2 (X := X) (S := kS) (M := M1) (a := sYe s.2.1.1 s.2.2.2.1 s.2.2.2.2 t 6) (b := sAs s.2.1.1 s.2.2.2.1 s.2.2.2.2 t 6) (w := v) (by have := hy 6; have := h40 6; omega) (by have := h40 6; omega) (by omega)
      simp only [e183_0, e183_1, e183_2, e183_5, e183_7, e183_8, e183_11, e183_12, e183_15, e183_18, e183_19, e183_20, e183_21, e183_24, e183_27, e183_28, e183_31, e183_32, e183_33, e183_36, e183_37, e183_38, e183_41, e183_42, e183_43, e183_44, e183_47, e183_48, e183_49, e183_52, e183_53, e183_55, e183_56, e183_60, e183_61, e183_64, e183_67, e183_69, e183_72, e183_73, e183_76, e183_78, e183_79, e183_80, e183_81, e183_84, e183_85, e183_87, e183_88, e183_89, e183_92, e183_94, e183_95, e183_96, e183_99, e183_101, e183_102, e183_103, e183_104, e183_105, e183_108, e183_110, e183_111, e183_114, e183_117, e183_120, e183_122, e183_125, e183_126, e183_129, e183_130, e183_133, e183_134, e183_137, e183_140, e183_142, e183_145, s59, s59_0, s59_1, s59_2, s59_3, s59_4, s59_5, s59_6, s59_7, s59_8, s59_9, s59_10, s59_11, s59_12, s59_13, s59_14, s59_15, s59_16, s59_17, s59_18, s59_19, s59_20, s59_21, s59_22, s59_23, s59_24, s59_25, s59_26, s59_27, s59_28, s59_29, s59_30, s59_31, r59_0, r59_1, r59_2, r59_3, r59_6, r59_8, r59_9, r59_13, r59_15, r59_16, r59_17, r59_19, r59_22, r59_23, r59_26, r59_30, r59_31, s60, s61, s62, s63, s64, s65, s66, s67, s68, s69, s70, s71, s72, s73, s74, s75, s76, r1, mf.1, mf.2, c0, h0, l1, l2, p, am_bv_s, am_bw_s, eq_self, true_or, or_true, am_b0, am_b1, am_em, if_true, if_false, true_and, and_true, false_and, and_false, not_true_eq_false, not_false_eq_true, false_or, or_false, Bool.false_eq_true]
  · rw [if_neg (by decide)]
    generalize hM2 : am_setL (am_setL M1 59 24 (lI 0)) 59 25 (lI 1) = M2
    rw [lI_0, lI_1] at hM2
    have of2 : am_of pmQ M1 M2 := by rw [← hM2]; exact am_of.sL (am_of.sL am_of.rf ⟨rfl, Or.inl rfl⟩) ⟨rfl, Or.inr rfl⟩
    have q2 : mQ (0, 1) M2 := ⟨by rw [← hM2, gL, if_neg (by omega), gL, if_pos ⟨rfl, rfl⟩]; rfl, by rw [← hM2, gL, if_pos ⟨rfl, rfl⟩]; rfl⟩
    have pj : ∀ {Mb : am_Me}, am_of pmQ M1 Mb → JM s Mb := fun o => j1.1.of o (fun a k q => by unfold pmQ at q; unfold pR; omega)
    have pt : ∀ {Mb : am_Me}, am_of pmQ M1 Mb → mT s t Mb := fun o b hb => ⟨((o _ _ (by unfold pmQ; omega)).2).trans (mt b hb).1, ((o _ _ (by unfold pmQ; omega)).2).trans (mt b hb).2⟩
    have hd0 := am_b0 (p := ¬ gD s.2.1.1 s.2.2.2.1 s.2.2.2.2 t = 0)
    by_cases h7 : gD s.2.1.1 s.2.2.2.1 s.2.2.2.2 t = 0
    · rw [if_neg (fun q => q.2 h7)]
      refine ⟨M2, ?_, pj of2, (of1.mo fun a k q => Or.inl q).tr (of2.mo fun a k q => Or.inr q)⟩
      rw [am_bf (fun q => q h7)] at r1
      have dd := (pj of2).2.1.1
      have head : am_e X 183 58 [some (.ref (59 : Nat)), none, none, some (.int v), some (.int 0), some (.int 0), some (.int 0)] [] kS M2 = some (some (.long (nol (-3))), kS, M2) := by
        rw [e183_58]
        by_cases hb : (0 : Int32) < nI s.2.1.1
        · simp only [e183_0, e183_1, e183_2, e183_5, e183_7, e183_8, e183_11, e183_12, e183_15, e183_18, e183_19, e183_20, e183_21, e183_24, e183_27, e183_28, e183_31, e183_32, e183_33, e183_36, e183_37, e183_38, e183_41, e183_42, e183_43, e183_44, e183_47, e183_48, e183_49, e183_52, e183_53, e183_55, e183_56, e183_60, e183_61, e183_64, e183_67, e183_69, e183_72, e183_73, e183_76, e183_78, e183_79, e183_80, e183_81, e183_84, e183_85, e183_87, e183_88, e183_89, e183_92, e183_94, e183_95, e183_96, e183_99, e183_101, e183_102, e183_103, e183_104, e183_105, e183_108, e183_110, e183_111, e183_114, e183_117, e183_120, e183_122, e183_125, e183_126, e183_129, e183_130, e183_133, e183_134, e183_137, e183_140, e183_142, e183_145, s59, s59_0, s59_1, s59_2, s59_3, s59_4, s59_5, s59_6, s59_7, s59_8, s59_9, s59_10, s59_11, s59_12, s59_13, s59_14, s59_15, s59_16, s59_17, s59_18, s59_19, s59_20, s59_21, s59_22, s59_23, s59_24, s59_25, s59_26, s59_27, s59_28, s59_29, s59_30, s59_31, r59_0, r59_1, r59_2, r59_3, r59_6, r59_8, r59_9, r59_13, r59_15, r59_16, r59_17, r59_19, r59_22, r59_23, r59_26, r59_30, r59_31, s60, s61, s62, s63, s64, s65, s66, s67, s68, s69, s70, s71, s72, s73, s74, s75, s76, dd, hb, m_no2, am_bv_s, am_bw_s, eq_self, true_or, or_true, am_b0, am_b1, am_em, if_true, if_false, true_and, and_true, false_and, and_false, not_true_eq_false, not_false_eq_true, false_or, or_false, Bool.false_eq_true]
        · simp only [e183_0, e183_1, e183_2, e183_5, e183_7, e183_8, e183_11, e183_12, e183_15, e183_18, e183_19, e183_20, e183_21, e183_24, e183_27, e183_28, e183_31, e183_32, e183_33, e183_36, e183_37, e183_38, e183_41, e183_42, e183_43, e183_44, e183_47, e183_48, e183_49, e183_52, e183_53, e183_55, e183_56, e183_60, e183_61, e183_64, e183_67, e183_69, e183_72, e183_73, e183_76, e183_78, e183_79, e183_80, e183_81, e183_84, e183_85, e183_87, e183_88, e183_89, e183_92, e183_94, e183_95, e183_96, e183_99, e183_101, e183_102, e183_103, e183_104, e183_105, e183_108, e183_110, e183_111, e183_114, e183_117, e183_120, e183_122, e183_125, e183_126, e183_129, e183_130, e183_133, e183_134, e183_137, e183_140, e183_142, e183_145, s59, s59_0, s59_1, s59_2, s59_3, s59_4, s59_5, s59_6, s59_7, s59_8, s59_9, s59_10, s59_11, s59_12, s59_13, s59_14, s59_15, s59_16, s59_17, s59_18, s59_19, s59_20, s59_21, s59_22, s59_23, s59_24, s59_25, s59_26, s59_27, s59_28, s59_29, s59_30, s59_31, r59_0, r59_1, r59_2, r59_3, r59_6, r59_8, r59_9, r59_13, r59_15, r59_16, r59_17, r59_19, r59_22, r59_23, r59_26, r59_30, r59_31, s60, s61, s62, s63, s64, s65, s66, s67, s68, s69, s70, s71, s72, s73, s74, s75, s76, dd, hb, m_no2, am_bv_s, am_bw_s, eq_self, true_or, or_true, am_b0, am_b1, am_em, if_true, if_false, true_and, and_true, false_and, and_false, not_true_eq_false, not_false_eq_true, false_or, or_false, Bool.false_eq_true]
      simp only [e183_0, e183_1, e183_2, e183_5, e183_7, e183_8, e183_11, e183_12, e183_15, e183_18, e183_19, e183_20, e183_21, e183_24, e183_27, e183_28, e183_31, e183_32, e183_33, e183_36, e183_37, e183_38, e183_41, e183_42, e183_43, e183_44, e183_47, e183_48, e183_49, e183_52, e183_53, e183_55, e183_56, e183_60, e183_61, e183_64, e183_67, e183_69, e183_72, e183_73, e183_76, e183_78, e183_79, e183_80, e183_81, e183_84, e183_85, e183_87, e183_88, e183_89, e183_92, e183_94, e183_95, e183_96, e183_99, e183_101, e183_102, e183_103, e183_104, e183_105, e183_108, e183_110, e183_111, e183_114, e183_117, e183_120, e183_122, e183_125, e183_126, e183_129, e183_130, e183_133, e183_134, e183_137, e183_140, e183_142, e183_145, s59, s59_0, s59_1, s59_2, s59_3, s59_4, s59_5, s59_6, s59_7, s59_8, s59_9, s59_10, s59_11, s59_12, s59_13, s59_14, s59_15, s59_16, s59_17, s59_18, s59_19, s59_20, s59_21, s59_22, s59_23, s59_24, s59_25, s59_26, s59_27, s59_28, s59_29, s59_30, s59_31, r59_0, r59_1, r59_2, r59_3, r59_6, r59_8, r59_9, r59_13, r59_15, r59_16, r59_17, r59_19, r59_22, r59_23, r59_26, r59_30, r59_31, s60, s61, s62, s63, s64, s65, s66, s67, s68, s69, s70, s71, s72, s73, s74, s75, s76, r1, z10, z01, z1m, zm1, z0m, zm0, hM2, head, am_bv_s, am_bw_s, eq_self, true_or, or_true, am_b0, am_b1, am_em, if_true, if_false, true_and, and_true, false_and, and_false, not_true_eq_false, not_false_eq_true, false_or, or_false, Bool.false_eq_true]
    · have hD : 0 < gD s.2.1.1 s.2.2.2.1 s.2.2.2.2 t := by omega
      have hn : ¬ gD s.2.1.1 s.2.2.2.1 s.2.2.2.2 t = 0 := h7
      rw [am_bt hn] at r1
      have d40 : gD s.2.1.1 s.2.2.2.1 s.2.2.2.2 t ≤ 40 := by have := h40 6; unfold gD gG; omega
      have hpos : ∀ n k, k < n → 0 < tH s.2.1.1 s.2.2.2.1 s.2.2.2.2 t k := fun _ _ _ => tH_pos
      obtain ⟨M3, e3, ⟨g3, of3⟩⟩ := am_lp (X := X) (S := kS) (mi := 183) (pc := 58) s.2.1.1 (fun i => [some (.ref (59 : Nat)), none, none, some (.int v), some (.int 1), some (.int (am_b (hasA s.2.1.1 s.2.2.2.1 s.2.2.2.2 t i = true))), some (.int (nI i))])
        (fun i M' => mSm s.2.1.2 (tC s.2.1.1 s.2.2.2.1 s.2.2.2.2 t) (tH s.2.1.1 s.2.2.2.1 s.2.2.2.2 t) (gD s.2.1.1 s.2.2.2.1 s.2.2.2.2 t) i M' ∧ am_of pmQ M1 M') (M := M2) ⟨mSm.st q2, of2⟩ (by
          intro j M4 hj hI
          obtain ⟨i1, i2⟩ := hI
          have dd := (pj i2).2.1
          have c1 : (nI j < nI s.2.1.1) = True := eq_true (nI_lt hj (by omega))
          have cj : (nI j).toNatClampNeg = j := nI_clamp (by omega)
          obtain ⟨u1, u2⟩ := pt i2 j (by omega)
          have q1 : sAs s.2.1.1 s.2.2.2.1 s.2.2.2.2 t j * gD s.2.1.1 s.2.2.2.1 s.2.2.2.2 t ≤ 40 * 40 := Nat.mul_le_mul (h40 j) d40
          have c2 : (0 < lI (sAs s.2.1.1 s.2.2.2.1 s.2.2.2.2 t j * gD s.2.1.1 s.2.2.2.1 s.2.2.2.2 t)) = (0 < sAs s.2.1.1 s.2.2.2.1 s.2.2.2.2 t j * gD s.2.1.1 s.2.2.2.1 s.2.2.2.2 t) := by rw [← lI_0]; exact lI_lt (by decide) (by omega)
          by_cases h0 : sAs s.2.1.1 s.2.2.2.1 s.2.2.2.2 t j = 0
          · have hA : hasA s.2.1.1 s.2.2.2.1 s.2.2.2.2 t (j + 1) = hasA s.2.1.1 s.2.2.2.1 s.2.2.2.2 t j := by rw [hasA, h0]; simp
            have c3 : (0 < sAs s.2.1.1 s.2.2.2.1 s.2.2.2.2 t j * gD s.2.1.1 s.2.2.2.1 s.2.2.2.2 t) = False := eq_false (by rw [h0, Nat.zero_mul]; omega)
            refine ⟨M4, ?_, i1.sk (tC_out h0), i2⟩
            rw [hA, e183_58]
            simp only [e183_0, e183_1, e183_2, e183_5, e183_7, e183_8, e183_11, e183_12, e183_15, e183_18, e183_19, e183_20, e183_21, e183_24, e183_27, e183_28, e183_31, e183_32, e183_33, e183_36, e183_37, e183_38, e183_41, e183_42, e183_43, e183_44, e183_47, e183_48, e183_49, e183_52, e183_53, e183_55, e183_56, e183_60, e183_61, e183_64, e183_67, e183_69, e183_72, e183_73, e183_76, e183_78, e183_79, e183_80, e183_81, e183_84, e183_85, e183_87, e183_88, e183_89, e183_92, e183_94, e183_95, e183_96, e183_99, e183_101, e183_102, e183_103, e183_104, e183_105, e183_108, e183_110, e183_111, e183_114, e183_117, e183_120, e183_122, e183_125, e183_126, e183_129, e183_130, e183_133, e183_134, e183_137, e183_140, e183_142, e183_145, s59, s59_0, s59_1, s59_2, s59_3, s59_4, s59_5, s59_6, s59_7, s59_8, s59_9, s59_10, s59_11, s59_12, s59_13, s59_14, s59_15, s59_16, s59_17, s59_18, s59_19, s59_20, s59_21, s59_22, s59_23, s59_24, s59_25, s59_26, s59_27, s59_28, s59_29, s59_30, s59_31, r59_0, r59_1, r59_2, r59_3, r59_6, r59_8, r59_9, r59_13, r59_15, r59_16, r59_17, r59_19, r59_22, r59_23, r59_26, r59_30, r59_31, s60, s61, s62, s63, s64, s65, s66, s67, s68, s69, s70, s71, s72, s73, s74, s75, s76, dd.1, c1, cj, u1, u2, lc_gt, c2, c3, z10, z01, z1m, zm1, z0m, zm0, nI_1, a73 (show j < 6 by omega), am_bv_s, am_bw_s, eq_self, true_or, or_true, am_b0, am_b1, am_em, if_true, if_false, true_and, and_true, false_and, and_false, not_true_eq_false, not_false_eq_true, false_or, or_false, Bool.false_eq_true]
          · have hA : hasA s.2.1.1 s.2.2.2.1 s.2.2.2.2 t (j + 1) = true := by rw [hasA]; simp; omega
            have c3 : (0 < sAs s.2.1.1 s.2.2.2.1 s.2.2.2.2 t j * gD s.2.1.1 s.2.2.2.1 s.2.2.2.2 t) = True := eq_true (Nat.mul_pos (by omega) hD)
            have e3 : tH s.2.1.1 s.2.2.2.1 s.2.2.2.2 t j = sAs s.2.1.1 s.2.2.2.1 s.2.2.2.2 t j := Nat.max_eq_right (by omega)
            have dl := den_lt d6 (l := s.2.2.2.1) (A := s.2.2.2.2) (t := t) (c := tC s.2.1.1 s.2.2.2.1 s.2.2.2.2 t) (tt := s.2.1.2) (h := tH s.2.1.1 s.2.2.2.1 s.2.2.2.2 t) (n := j) (by omega) (fun k _ => Nat.le_refl _)
            have lw := lI_w (n := s.2.1.2 j) (by have := (ho.2.1.2 j hj).2; omega)
            obtain ⟨M5, b1, b2, b3⟩ := i1.ad (X := X) (a := tC s.2.1.1 s.2.2.2.1 s.2.2.2.2 t j * s.2.1.2 j) (b := sAs s.2.1.1 s.2.2.2.1 s.2.2.2.2 t j * gD s.2.1.1 s.2.2.2.1 s.2.2.2.2 t) hD (hpos j) (by omega) (by omega) (Nat.mul_pos (by omega) hD) (by rw [e3]; ac_rfl) (by rw [e3]; exact Nat.dvd_refl _)
            refine ⟨M5, ?_, b2, i2.tr b3⟩
            rw [hA, am_bt rfl, e183_58]
            simp only [e183_0, e183_1, e183_2, e183_5, e183_7, e183_8, e183_11, e183_12, e183_15, e183_18, e183_19, e183_20, e183_21, e183_24, e183_27, e183_28, e183_31, e183_32, e183_33, e183_36, e183_37, e183_38, e183_41, e183_42, e183_43, e183_44, e183_47, e183_48, e183_49, e183_52, e183_53, e183_55, e183_56, e183_60, e183_61, e183_64, e183_67, e183_69, e183_72, e183_73, e183_76, e183_78, e183_79, e183_80, e183_81, e183_84, e183_85, e183_87, e183_88, e183_89, e183_92, e183_94, e183_95, e183_96, e183_99, e183_101, e183_102, e183_103, e183_104, e183_105, e183_108, e183_110, e183_111, e183_114, e183_117, e183_120, e183_122, e183_125, e183_126, e183_129, e183_130, e183_133, e183_134, e183_137, e183_140, e183_142, e183_145, s59, s59_0, s59_1, s59_2, s59_3, s59_4, s59_5, s59_6, s59_7, s59_8, s59_9, s59_10, s59_11, s59_12, s59_13, s59_14, s59_15, s59_16, s59_17, s59_18, s59_19, s59_20, s59_21, s59_22, s59_23, s59_24, s59_25, s59_26, s59_27, s59_28, s59_29, s59_30, s59_31, r59_0, r59_1, r59_2, r59_3, r59_6, r59_8, r59_9, r59_13, r59_15, r59_16, r59_17, r59_19, r59_22, r59_23, r59_26, r59_30, r59_31, s60, s61, s62, s63, s64, s65, s66, s67, s68, s69, s70, s71, s72, s73, s74, s75, s76, dd.1, dd.2 j hj, c1, cj, u1, u2, lc_gt, c2, c3, z10, z01, z1m, zm1, z0m, zm0, lw, lI_mul, b1, nI_1, a72 (show j < 6 by omega), a73 (show j < 6 by omega), a64 (show j < 6 by omega), am_bv_s, am_bw_s, eq_self, true_or, or_true, am_b0, am_b1, am_em, if_true, if_false, true_and, and_true, false_and, and_false, not_true_eq_false, not_false_eq_true, false_or, or_false, Bool.false_eq_true])
      refine ⟨M3, ?_, pj of3, (of1.mo fun a k q => Or.inl q).tr (of3.mo fun a k q => Or.inr q)⟩
      have dd := (pj of3).2.1.1
      have cn : (nI s.2.1.1 < nI s.2.1.1) = False := eq_false (nI_nlt (Nat.le_refl _) (by omega))
      have h00 : hasA s.2.1.1 s.2.2.2.1 s.2.2.2.2 t 0 = false := rfl
      have e0 := am_b0 (p := hasA s.2.1.1 s.2.2.2.1 s.2.2.2.2 t 0 = true)
      rw [am_bf (p := hasA s.2.1.1 s.2.2.2.1 s.2.2.2.2 t 0 = true) (by rw [h00]; decide), nI_0] at e3
      have fin : am_e X 183 58 [some (.ref (59 : Nat)), none, none, some (.int v), some (.int 1), some (.int (am_b (hasA s.2.1.1 s.2.2.2.1 s.2.2.2.2 t s.2.1.1 = true))), some (.int (nI s.2.1.1))] [] kS M3 = some (some (.long (if hasA s.2.1.1 s.2.2.2.1 s.2.2.2.2 t 6 = true ∧ ¬ gD s.2.1.1 s.2.2.2.1 s.2.2.2.2 t = 0 then fp (fr (sKn s t s.2.1.1).1 (gD s.2.1.1 s.2.2.2.1 s.2.2.2.2 t * (sKn s t s.2.1.1).2)) v else nol (-3))), kS, M3) := by
        rw [hasA_6 d6]
        by_cases hA : hasA s.2.1.1 s.2.2.2.1 s.2.2.2.2 t s.2.1.1 = true
        · rw [if_pos ⟨hA, h7⟩, am_bt hA, e183_58]
          obtain ⟨p, p1, p2, p3, p4, p5⟩ := g3.fr hD (hpos s.2.1.1)
          have dl := den_lt d6 (l := s.2.2.2.1) (A := s.2.2.2.2) (t := t) (c := tC s.2.1.1 s.2.2.2.1 s.2.2.2.2 t) (tt := s.2.1.2) (h := tH s.2.1.1 s.2.2.2.1 s.2.2.2.2 t) (n := s.2.1.1) d6 (fun k _ => Nat.le_refl _)
          have hN := qS_le (t := s.2.1.2) (c := tC s.2.1.1 s.2.2.2.1 s.2.2.2.2 t) (h := tH s.2.1.1 s.2.2.2.1 s.2.2.2.2 t) (D := gD s.2.1.1 s.2.2.2.1 s.2.2.2.2 t) s.2.1.1 (fun k hk => ⟨tC_le, (ho.2.1.2 k hk).2⟩)
          have hN2 := Nat.le_trans hN (Nat.mul_le_mul_right _ (show 99 * s.2.1.1 ≤ 594 by omega))
          have p6 := sm_bd (Nat.mul_pos hD (qS_pos s.2.1.1 (hpos s.2.1.1))) p5 hN2
          have pp := m_part2 (X := X) (S := kS) (M := M3) (a := p.1) (b := p.2) (w := v) (by omega) (by omega) p2
          unfold sKn
          rw [← p4]
          simp only [e183_0, e183_1, e183_2, e183_5, e183_7, e183_8, e183_11, e183_12, e183_15, e183_18, e183_19, e183_20, e183_21, e183_24, e183_27, e183_28, e183_31, e183_32, e183_33, e183_36, e183_37, e183_38, e183_41, e183_42, e183_43, e183_44, e183_47, e183_48, e183_49, e183_52, e183_53, e183_55, e183_56, e183_60, e183_61, e183_64, e183_67, e183_69, e183_72, e183_73, e183_76, e183_78, e183_79, e183_80, e183_81, e183_84, e183_85, e183_87, e183_88, e183_89, e183_92, e183_94, e183_95, e183_96, e183_99, e183_101, e183_102, e183_103, e183_104, e183_105, e183_108, e183_110, e183_111, e183_114, e183_117, e183_120, e183_122, e183_125, e183_126, e183_129, e183_130, e183_133, e183_134, e183_137, e183_140, e183_142, e183_145, s59, s59_0, s59_1, s59_2, s59_3, s59_4, s59_5, s59_6, s59_7, s59_8, s59_9, s59_10, s59_11, s59_12, s59_13, s59_14, s59_15, s59_16, s59_17, s59_18, s59_19, s59_20, s59_21, s59_22, s59_23, s59_24, s59_25, s59_26, s59_27, s59_28, s59_29, s59_30, s59_31, r59_0, r59_1, r59_2, r59_3, r59_6, r59_8, r59_9, r59_13, r59_15, r59_16, r59_17, r59_19, r59_22, r59_23, r59_26, r59_30, r59_31, s60, s61, s62, s63, s64, s65, s66, s67, s68, s69, s70, s71, s72, s73, s74, s75, s76, dd, cn, z10, z01, z1m, zm1, z0m, zm0, p1.1, p1.2, pp, am_bv_s, am_bw_s, eq_self, true_or, or_true, am_b0, am_b1, am_em, if_true, if_false, true_and, and_true, false_and, and_false, not_true_eq_false, not_false_eq_true, false_or, or_false, Bool.false_eq_true]
        · rw [if_neg (fun q => hA q.1), am_bf hA, e183_58]
          simp only [e183_0, e183_1, e183_2, e183_5, e183_7, e183_8, e183_11, e183_12, e183_15, e183_18, e183_19, e183_20, e183_21, e183_24, e183_27, e183_28, e183_31, e183_32, e183_33, e183_36, e183_37, e183_38, e183_41, e183_42, e183_43, e183_44, e183_47, e183_48, e183_49, e183_52, e183_53, e183_55, e183_56, e183_60, e183_61, e183_64, e183_67, e183_69, e183_72, e183_73, e183_76, e183_78, e183_79, e183_80, e183_81, e183_84, e183_85, e183_87, e183_88, e183_89, e183_92, e183_94, e183_95, e183_96, e183_99, e183_101, e183_102, e183_103, e183_104, e183_105, e183_108, e183_110, e183_111, e183_114, e183_117, e183_120, e183_122, e183_125, e183_126, e183_129, e183_130, e183_133, e183_134, e183_137, e183_140, e183_142, e183_145, s59, s59_0, s59_1, s59_2, s59_3, s59_4, s59_5, s59_6, s59_7, s59_8, s59_9, s59_10, s59_11, s59_12, s59_13, s59_14, s59_15, s59_16, s59_17, s59_18, s59_19, s59_20, s59_21, s59_22, s59_23, s59_24, s59_25, s59_26, s59_27, s59_28, s59_29, s59_30, s59_31, r59_0, r59_1, r59_2, r59_3, r59_6, r59_8, r59_9, r59_13, r59_15, r59_16, r59_17, r59_19, r59_22, r59_23, r59_26, r59_30, r59_31, s60, s61, s62, s63, s64, s65, s66, s67, s68, s69, s70, s71, s72, s73, s74, s75, s76, dd, cn, z10, z01, z1m, zm1, z0m, zm0, m_no2, am_bv_s, am_bw_s, eq_self, true_or, or_true, am_b0, am_b1, am_em, if_true, if_false, true_and, and_true, false_and, and_false, not_true_eq_false, not_false_eq_true, false_or, or_false, Bool.false_eq_true]
      rw [fin] at e3
      rw [← e3]
      simp only [e183_0, e183_1, e183_2, e183_5, e183_7, e183_8, e183_11, e183_12, e183_15, e183_18, e183_19, e183_20, e183_21, e183_24, e183_27, e183_28, e183_31, e183_32, e183_33, e183_36, e183_37, e183_38, e183_41, e183_42, e183_43, e183_44, e183_47, e183_48, e183_49, e183_52, e183_53, e183_55, e183_56, e183_60, e183_61, e183_64, e183_67, e183_69, e183_72, e183_73, e183_76, e183_78, e183_79, e183_80, e183_81, e183_84, e183_85, e183_87, e183_88, e183_89, e183_92, e183_94, e183_95, e183_96, e183_99, e183_101, e183_102, e183_103, e183_104, e183_105, e183_108, e183_110, e183_111, e183_114, e183_117, e183_120, e183_122, e183_125, e183_126, e183_129, e183_130, e183_133, e183_134, e183_137, e183_140, e183_142, e183_145, s59, s59_0, s59_1, s59_2, s59_3, s59_4, s59_5, s59_6, s59_7, s59_8, s59_9, s59_10, s59_11, s59_12, s59_13, s59_14, s59_15, s59_16, s59_17, s59_18, s59_19, s59_20, s59_21, s59_22, s59_23, s59_24, s59_25, s59_26, s59_27, s59_28, s59_29, s59_30, s59_31, r59_0, r59_1, r59_2, r59_3, r59_6, r59_8, r59_9, r59_13, r59_15, r59_16, r59_17, r59_19, r59_22, r59_23, r59_26, r59_30, r59_31, s60, s61, s62, s63, s64, s65, s66, s67, s68, s69, s70, s71, s72, s73, s74, s75, s76, r1, z10, z01, z1m, zm1, z0m, zm0, hM2, am_bv_s, am_bw_s, eq_self, true_or, or_true, am_b0, am_b1, am_em, if_true, if_false, true_and, and_true, false_and, and_false, not_true_eq_false, not_false_eq_true, false_or, or_false, Bool.false_eq_true]
theorem m_knows (hx : JM s M) (ho : okm s) (t w v : Int32) : ∃ M', am_e X 184 0 [some (.ref (59 : Nat)), some (.int t), some (.int w), some (.int v)] [] kS M = some (some (.long (sp_knows s t w v)), kS, M') ∧ JM s M' ∧ am_of pM M M' := by
  have i1 := m_isTaker (X := X) (S := kS) (M := M) t
  have i3 := m_isTwo (X := X) (S := kS) (M := M) w
  have i4 := m_isTwo (X := X) (S := kS) (M := M) v
  unfold sp_knows
  by_cases h1 : 0 ≤ t ∧ t ≤ 3
  · rw [am_bt h1] at i1
    by_cases h3 : 0 ≤ w ∧ w ≤ 1
    · rw [am_bt h3] at i3
      by_cases h4 : 0 ≤ v ∧ v ≤ 1
      · rw [am_bt h4] at i4
        rw [if_pos ⟨h1, h3, h4⟩]
        obtain ⟨tn, htn, rfl⟩ := in_n (n := 3) h1 (by decide)
        rw [nI_clamp (n := tn) (by omega)]
        obtain ⟨M', r1, r2, r3⟩ := m_knowsOf (X := X) hx ho (show tn < 4 by omega) w v (b01 h3)
        refine ⟨M', ?_, r2, r3.mo fun a k q => q.elim pmT_M (fun q => by unfold pmQ at q; unfold pM; omega)⟩
        simp only [e184_0, e184_1, e184_4, e184_7, e184_8, e184_11, e184_14, e184_15, e184_18, e184_21, e184_22, e184_23, e184_24, e184_25, e184_28, e184_31, e184_33, e184_36, s59, s59_0, s59_1, s59_2, s59_3, s59_4, s59_5, s59_6, s59_7, s59_8, s59_9, s59_10, s59_11, s59_12, s59_13, s59_14, s59_15, s59_16, s59_17, s59_18, s59_19, s59_20, s59_21, s59_22, s59_23, s59_24, s59_25, s59_26, s59_27, s59_28, s59_29, s59_30, s59_31, r59_0, r59_1, r59_2, r59_3, r59_6, r59_8, r59_9, r59_13, r59_15, r59_16, r59_17, r59_19, r59_22, r59_23, r59_26, r59_30, r59_31, s60, s61, s62, s63, s64, s65, s66, s67, s68, s69, s70, s71, s72, s73, s74, s75, s76, i1, i3, i4, z10, z01, z1m, zm1, z0m, zm0, r1, am_bv_s, am_bw_s, eq_self, true_or, or_true, am_b0, am_b1, am_em, if_true, if_false, true_and, and_true, false_and, and_false, not_true_eq_false, not_false_eq_true, false_or, or_false, Bool.false_eq_true]
      · rw [am_bf h4] at i4
        rw [if_neg (fun q => h4 q.2.2)]
        refine ⟨M, ?_, hx, am_of.rf⟩
        simp only [e184_0, e184_1, e184_4, e184_7, e184_8, e184_11, e184_14, e184_15, e184_18, e184_21, e184_22, e184_23, e184_24, e184_25, e184_28, e184_31, e184_33, e184_36, s59, s59_0, s59_1, s59_2, s59_3, s59_4, s59_5, s59_6, s59_7, s59_8, s59_9, s59_10, s59_11, s59_12, s59_13, s59_14, s59_15, s59_16, s59_17, s59_18, s59_19, s59_20, s59_21, s59_22, s59_23, s59_24, s59_25, s59_26, s59_27, s59_28, s59_29, s59_30, s59_31, r59_0, r59_1, r59_2, r59_3, r59_6, r59_8, r59_9, r59_13, r59_15, r59_16, r59_17, r59_19, r59_22, r59_23, r59_26, r59_30, r59_31, s60, s61, s62, s63, s64, s65, s66, s67, s68, s69, s70, s71, s72, s73, s74, s75, s76, i1, i3, i4, z10, z01, z1m, zm1, z0m, zm0, m_no2, am_bv_s, am_bw_s, eq_self, true_or, or_true, am_b0, am_b1, am_em, if_true, if_false, true_and, and_true, false_and, and_false, not_true_eq_false, not_false_eq_true, false_or, or_false, Bool.false_eq_true]
    · rw [am_bf h3] at i3
      rw [if_neg (fun q => h3 q.2.1)]
      refine ⟨M, ?_, hx, am_of.rf⟩
      simp only [e184_0, e184_1, e184_4, e184_7, e184_8, e184_11, e184_14, e184_15, e184_18, e184_21, e184_22, e184_23, e184_24, e184_25, e184_28, e184_31, e184_33, e184_36, s59, s59_0, s59_1, s59_2, s59_3, s59_4, s59_5, s59_6, s59_7, s59_8, s59_9, s59_10, s59_11, s59_12, s59_13, s59_14, s59_15, s59_16, s59_17, s59_18, s59_19, s59_20, s59_21, s59_22, s59_23, s59_24, s59_25, s59_26, s59_27, s59_28, s59_29, s59_30, s59_31, r59_0, r59_1, r59_2, r59_3, r59_6, r59_8, r59_9, r59_13, r59_15, r59_16, r59_17, r59_19, r59_22, r59_23, r59_26, r59_30, r59_31, s60, s61, s62, s63, s64, s65, s66, s67, s68, s69, s70, s71, s72, s73, s74, s75, s76, i1, i3, z10, z01, z1m, zm1, z0m, zm0, m_no2, am_bv_s, am_bw_s, eq_self, true_or, or_true, am_b0, am_b1, am_em, if_true, if_false, true_and, and_true, false_and, and_false, not_true_eq_false, not_false_eq_true, false_or, or_false, Bool.false_eq_true]
  · rw [am_bf h1] at i1
    rw [if_neg (fun q => h1 q.1)]
    refine ⟨M, ?_, hx, am_of.rf⟩
    simp only [e184_0, e184_1, e184_4, e184_7, e184_8, e184_11, e184_14, e184_15, e184_18, e184_21, e184_22, e184_23, e184_24, e184_25, e184_28, e184_31, e184_33, e184_36, s59, s59_0, s59_1, s59_2, s59_3, s59_4, s59_5, s59_6, s59_7, s59_8, s59_9, s59_10, s59_11, s59_12, s59_13, s59_14, s59_15, s59_16, s59_17, s59_18, s59_19, s59_20, s59_21, s59_22, s59_23, s59_24, s59_25, s59_26, s59_27, s59_28, s59_29, s59_30, s59_31, r59_0, r59_1, r59_2, r59_3, r59_6, r59_8, r59_9, r59_13, r59_15, r59_16, r59_17, r59_19, r59_22, r59_23, r59_26, r59_30, r59_31, s60, s61, s62, s63, s64, s65, s66, s67, s68, s69, s70, s71, s72, s73, s74, s75, s76, i1, z10, z01, z1m, zm1, z0m, zm0, m_no2, am_bv_s, am_bw_s, eq_self, true_or, or_true, am_b0, am_b1, am_em, if_true, if_false, true_and, and_true, false_and, and_false, not_true_eq_false, not_false_eq_true, false_or, or_false, Bool.false_eq_true]
end
