/-! the reference: read, write -/
section
variable {X : am_X} {S : am_Sh} {M M' : am_Me} {P : Nat → Nat → Prop} {s : sgm}
theorem m_answerN (hx : JM s M) (ho : okm s) {t w tm : Nat} {v : Int32} (ht : t < 4) (hw : w < 40) (htm : tm ≤ 999) (hl : aLt s.2.2.2.2 ≤ tm) (hv : -1 ≤ v ∧ v ≤ 1) (h120 : s.2.2.2.2.1 < 120) : ∃ M', am_e X 172 0 [some (.ref (59 : Nat)), some (.int (nI t)), some (.int (nI w)), some (.int v), some (.int (nI tm))] [] kS M = some (some (.int (nI (s.2.2.2.2.1 + 1))), kS, M') ∧ JM (s.1, s.2.1, s.2.2.1, s.2.2.2.1, aTl s.2.2.2.2 t w v tm) M' ∧ am_of pM M M' := by
  have q := m_answer (X := X) hx ho (nI t) (nI w) v (nI tm)
  have l9 := aLt_le ho.2.2.2.2
  have n0 : ∀ {k : Nat}, k < 2 ^ 31 → (0 : Int32) ≤ nI k := fun hk => Int32.not_lt.mp (by rw [← nI_0]; exact nI_nlt (by omega) hk)
  have n1 : ∀ {k n : Nat}, k ≤ n → n < 2 ^ 31 → nI k ≤ nI n := fun hk hn => Int32.not_lt.mp (nI_nlt hk hn)
  have hc : (0 ≤ nI t ∧ nI t ≤ 3) ∧ (0 ≤ nI w ∧ nI w ≤ 39) ∧ (-1 ≤ v ∧ v ≤ 1) ∧ ((0 ≤ nI tm ∧ nI tm ≤ 999) ∧ ¬ nI tm < nI (aLt s.2.2.2.2)) := ⟨⟨n0 (by omega), n1 (n := 3) (by omega) (by decide)⟩, ⟨n0 (by omega), n1 (n := 39) (by omega) (by decide)⟩, hv, ⟨n0 (by omega), n1 (n := 999) (by omega) (by decide)⟩, nI_nlt hl (by omega)⟩
  unfold sp_ans at q
  rw [if_pos hc, if_pos h120, nI_clamp (n := t) (by omega), nI_clamp (n := w) (by omega), nI_clamp (n := tm) (by omega)] at q
  exact q
/-- a refused one: its answer is below 0 -/
theorem m_answerB (hx : JM s M) (ho : okm s) {t w tm v : Int32} (h : ¬ ((0 ≤ w ∧ w ≤ 39) ∧ (-1 ≤ v ∧ v ≤ 1) ∧ s.2.2.2.2.1 < 120)) : ∃ r : Int32, r < 0 ∧ ∃ M', am_e X 172 0 [some (.ref (59 : Nat)), some (.int t), some (.int w), some (.int v), some (.int tm)] [] kS M = some (some (.int r), kS, M') ∧ JM s M' ∧ am_of pM M M' := by
  have q := m_answer (X := X) hx ho t w v tm
  unfold sp_ans at q
  split at q
  · rename_i hc
    rw [if_neg (fun z => h ⟨hc.2.1, hc.2.2.1, z⟩)] at q
    exact ⟨-4, by decide, q⟩
  · exact ⟨-2, by decide, q⟩
theorem aLt_tl {A : sgA} {t w tm : Nat} {v : Int32} : aLt (aTl A t w v tm) = tm := by
  unfold aLt aTl
  dsimp only
  rw [if_pos (by omega), if_pos (by omega)]
theorem m_readLoop {u t tm n : Nat} (hu : u < 4) (ht : t < 4) (htm : tm ≤ 999) (hl : s.1.1 u = false) : ∀ (k i : Nat) (A : sgA) (M : am_Me), i + k = n → n = sp_most s u → okm (s.1, s.2.1, s.2.2.1, s.2.2.2.1, A) → s.2.2.2.2.1 ≤ 120 → A.1 = s.2.2.2.2.1 + i → aLt A ≤ tm → JM (s.1, s.2.1, s.2.2.1, s.2.2.2.1, A) M →
    ∃ M', am_e X 173 50 [some (.ref (59 : Nat)), some (.int (nI u)), some (.int (nI t)), some (.int (nI tm)), some (.int (nI i))] [] kS M = some (some (.int (nI (rd (s.1.2.2.2.1 u) t tm k i A).1)), kS, M') ∧ JM (s.1, s.2.1, s.2.2.1, s.2.2.2.1, (rd (s.1.2.2.2.1 u) t tm k i A).2) M' ∧ am_of pM M M' := by
  intro k
  induction k with
  | zero =>
    intro i A M hk hn ho hA0 hA hlt hx
    obtain rfl : i = n := by omega
    have hz : s.1.2.2.1 u ≤ 60 := (ho.1.2 u hu).2
    have zq : M.1 61 u = nI (s.1.2.2.1 u) := ((hx.1.2 u hu).2 hl).1
    have cu : (nI u).toNatClampNeg = u := nI_clamp (by omega)
    have hmo : i = sp_most s u := hn
    have q := @sp_most_le s u
    by_cases h1 : i < s.1.2.2.1 u
    · have c1 : (nI i < nI (s.1.2.2.1 u)) = True := eq_true (nI_lt h1 (by omega))
      have e6 : (60 : Int32) * nI u + nI i = nI (60 * u + i) := by rw [c60, nI_add]
      have ce : (nI (60 * u + i)).toNatClampNeg = 60 * u + i := nI_clamp (by omega)
      have iq : M.1 62 (60 * u + i) = s.1.2.2.2.1 u i := ((hx.1.2 u hu).2 hl).2 i h1
      obtain ⟨r, hr, M', a1, a2, a3⟩ := m_answerB (X := X) (M := M) (s := (s.1, s.2.1, s.2.2.1, s.2.2.2.1, A)) (t := nI t) (w := nI i) (tm := nI tm) (v := s.1.2.2.2.1 u i) hx ho (fun z => by
        obtain ⟨k2, hk2, e2⟩ := in_n (n := 39) z.1 (by decide)
        have : i = k2 := (nI_eq (by omega) (by omega)).mp e2
        have z3 : A.1 < 120 := z.2.2
        unfold sp_most at hmo
        omega)
      refine ⟨M', ?_, a2, a3⟩
      have hr' : (r < 0) = True := eq_true hr
      rw [e173_50]
      simp only [e173_0, e173_1, e173_4, e173_7, e173_8, e173_11, e173_14, e173_15, e173_18, e173_21, e173_22, e173_23, e173_26, e173_29, e173_31, e173_32, e173_33, e173_36, e173_37, e173_38, e173_41, e173_42, e173_43, e173_46, e173_47, e173_48, e173_52, e173_53, e173_56, e173_57, e173_58, e173_61, e173_62, e173_63, e173_65, e173_66, e173_69, e173_71, e173_72, e173_73, e173_75, e173_76, e173_77, e173_78, e173_81, e173_84, e173_87, e173_90, e173_92, s59, s59_0, s59_1, s59_2, s59_3, s59_4, s59_5, s59_6, s59_7, s59_8, s59_9, s59_10, s59_11, s59_12, s59_13, s59_14, s59_15, s59_16, s59_17, s59_18, s59_19, s59_20, s59_21, s59_22, s59_23, s59_24, s59_25, s59_26, s59_27, s59_28, s59_29, s59_30, s59_31, r59_0, r59_1, r59_2, r59_3, r59_6, r59_8, r59_9, r59_13, r59_15, r59_16, r59_17, r59_19, r59_22, r59_23, r59_26, r59_30, r59_31, s60, s61, s62, s63, s64, s65, s66, s67, s68, s69, s70, s71, s72, s73, s74, s75, s76, zq, cu, c1, e6, ce, iq, a1, hr', rd, a61 hu, a62 (show 60 * u + i < 240 by omega), am_bv_s, am_bw_s, eq_self, true_or, or_true, am_b0, am_b1, am_em, if_true, if_false, true_and, and_true, false_and, and_false, not_true_eq_false, not_false_eq_true, false_or, or_false, Bool.false_eq_true]
    · have c1 : (nI i < nI (s.1.2.2.1 u)) = False := eq_false (nI_nlt (by omega) (by omega))
      refine ⟨M, ?_, hx, am_of.rf⟩
      rw [e173_50]
      simp only [e173_0, e173_1, e173_4, e173_7, e173_8, e173_11, e173_14, e173_15, e173_18, e173_21, e173_22, e173_23, e173_26, e173_29, e173_31, e173_32, e173_33, e173_36, e173_37, e173_38, e173_41, e173_42, e173_43, e173_46, e173_47, e173_48, e173_52, e173_53, e173_56, e173_57, e173_58, e173_61, e173_62, e173_63, e173_65, e173_66, e173_69, e173_71, e173_72, e173_73, e173_75, e173_76, e173_77, e173_78, e173_81, e173_84, e173_87, e173_90, e173_92, s59, s59_0, s59_1, s59_2, s59_3, s59_4, s59_5, s59_6, s59_7, s59_8, s59_9, s59_10, s59_11, s59_12, s59_13, s59_14, s59_15, s59_16, s59_17, s59_18, s59_19, s59_20, s59_21, s59_22, s59_23, s59_24, s59_25, s59_26, s59_27, s59_28, s59_29, s59_30, s59_31, r59_0, r59_1, r59_2, r59_3, r59_6, r59_8, r59_9, r59_13, r59_15, r59_16, r59_17, r59_19, r59_22, r59_23, r59_26, r59_30, r59_31, s60, s61, s62, s63, s64, s65, s66, s67, s68, s69, s70, s71, s72, s73, s74, s75, s76, zq, cu, c1, rd, a61 hu, am_bv_s, am_bw_s, eq_self, true_or, or_true, am_b0, am_b1, am_em, if_true, if_false, true_and, and_true, false_and, and_false, not_true_eq_false, not_false_eq_true, false_or, or_false, Bool.false_eq_true]
  | succ k ih =>
    intro i A M hk hn ho hA0 hA hlt hx
    have hz : s.1.2.2.1 u ≤ 60 := (ho.1.2 u hu).2
    have q := @sp_most_le s u
    have zq : M.1 61 u = nI (s.1.2.2.1 u) := ((hx.1.2 u hu).2 hl).1
    have cu : (nI u).toNatClampNeg = u := nI_clamp (by omega)
    have h1 : i < s.1.2.2.1 u := by omega
    have c1 : (nI i < nI (s.1.2.2.1 u)) = True := eq_true (nI_lt h1 (by omega))
    have e6 : (60 : Int32) * nI u + nI i = nI (60 * u + i) := by rw [c60, nI_add]
    have ce : (nI (60 * u + i)).toNatClampNeg = 60 * u + i := nI_clamp (by omega)
    have iq : M.1 62 (60 * u + i) = s.1.2.2.2.1 u i := ((hx.1.2 u hu).2 hl).2 i h1
    rw [rd]
    by_cases h3 : -1 ≤ s.1.2.2.2.1 u i ∧ s.1.2.2.2.1 u i ≤ 1
    · rw [if_pos h3]
      have h120 : A.1 < 120 := by have := q.2.1 hA0; omega
      obtain ⟨M1, a1, a2, a3⟩ := m_answerN (X := X) (M := M) (s := (s.1, s.2.1, s.2.2.1, s.2.2.2.1, A)) (t := t) (w := i) (tm := tm) (v := s.1.2.2.2.1 u i) hx ho ht (by omega) htm hlt h3 h120
      obtain ⟨M', r1, r2, r3⟩ := ih (i + 1) (aTl A t i (s.1.2.2.2.1 u i) tm) M1 (by omega) hn ⟨ho.1, ho.2.1, ho.2.2.1, ho.2.2.2.1, ho.2.2.2.2.tl h120 ht (by omega) (okS_of h3) htm⟩ hA0 (by show A.1 + 1 = _; omega) (by rw [aLt_tl]; exact Nat.le_refl _) a2
      refine ⟨M', ?_, r2, a3.tr r3⟩
      have c2 : (nI (A.1 + 1) < 0) = False := eq_false (by rw [← nI_0]; exact nI_nlt (by omega) (by omega))
      have a1' : am_e X 172 0 [some (.ref (59 : Nat)), some (.int (nI t)), some (.int (nI i)), some (.int (s.1.2.2.2.1 u i)), some (.int (nI tm))] [] kS M = some (some (.int (nI (A.1 + 1))), kS, M1) := a1
      rw [← r1, e173_50]
      simp only [e173_0, e173_1, e173_4, e173_7, e173_8, e173_11, e173_14, e173_15, e173_18, e173_21, e173_22, e173_23, e173_26, e173_29, e173_31, e173_32, e173_33, e173_36, e173_37, e173_38, e173_41, e173_42, e173_43, e173_46, e173_47, e173_48, e173_52, e173_53, e173_56, e173_57, e173_58, e173_61, e173_62, e173_63, e173_65, e173_66, e173_69, e173_71, e173_72, e173_73, e173_75, e173_76, e173_77, e173_78, e173_81, e173_84, e173_87, e173_90, e173_92, s59, s59_0, s59_1, s59_2, s59_3, s59_4, s59_5, s59_6, s59_7, s59_8, s59_9, s59_10, s59_11, s59_12, s59_13, s59_14, s59_15, s59_16, s59_17, s59_18, s59_19, s59_20, s59_21, s59_22, s59_23, s59_24, s59_25, s59_26, s59_27, s59_28, s59_29, s59_30, s59_31, r59_0, r59_1, r59_2, r59_3, r59_6, r59_8, r59_9, r59_13, r59_15, r59_16, r59_17, r59_19, r59_22, r59_23, r59_26, r59_30, r59_31, s60, s61, s62, s63, s64, s65, s66, s67, s68, s69, s70, s71, s72, s73, s74, s75, s76, zq, cu, c1, e6, ce, iq, a1', c2, nI_1, a61 hu, a62 (show 60 * u + i < 240 by omega), am_bv_s, am_bw_s, eq_self, true_or, or_true, am_b0, am_b1, am_em, if_true, if_false, true_and, and_true, false_and, and_false, not_true_eq_false, not_false_eq_true, false_or, or_false, Bool.false_eq_true]
    · rw [if_neg h3]
      obtain ⟨r, hr, M', a1, a2, a3⟩ := m_answerB (X := X) (M := M) (s := (s.1, s.2.1, s.2.2.1, s.2.2.2.1, A)) (t := nI t) (w := nI i) (tm := nI tm) (v := s.1.2.2.2.1 u i) hx ho (fun z => h3 z.2.1)
      refine ⟨M', ?_, a2, a3⟩
      have hr' : (r < 0) = True := eq_true hr
      rw [e173_50]
      simp only [e173_0, e173_1, e173_4, e173_7, e173_8, e173_11, e173_14, e173_15, e173_18, e173_21, e173_22, e173_23, e173_26, e173_29, e173_31, e173_32, e173_33, e173_36, e173_37, e173_38, e173_41, e173_42, e173_43, e173_46, e173_47, e173_48, e173_52, e173_53, e173_56, e173_57, e173_58, e173_61, e173_62, e173_63, e173_65, e173_66, e173_69, e173_71, e173_72, e173_73, e173_75, e173_76, e173_77, e173_78, e173_81, e173_84, e173_87, e173_90, e173_92, s59, s59_0, s59_1, s59_2, s59_3, s59_4, s59_5, s59_6, s59_7, s59_8, s59_9, s59_10, s59_11, s59_12, s59_13, s59_14, s59_15, s59_16, s59_17, s59_18, s59_19, s59_20, s59_21, s59_22, s59_23, s59_24, s59_25, s59_26, s59_27, s59_28, s59_29, s59_30, s59_31, r59_0, r59_1, r59_2, r59_3, r59_6, r59_8, r59_9, r59_13, r59_15, r59_16, r59_17, r59_19, r59_22, r59_23, r59_26, r59_30, r59_31, s60, s61, s62, s63, s64, s65, s66, s67, s68, s69, s70, s71, s72, s73, s74, s75, s76, zq, cu, c1, e6, ce, iq, a1, hr', a61 hu, a62 (show 60 * u + i < 240 by omega), am_bv_s, am_bw_s, eq_self, true_or, or_true, am_b0, am_b1, am_em, if_true, if_false, true_and, and_true, false_and, and_false, not_true_eq_false, not_false_eq_true, false_or, or_false, Bool.false_eq_true]
theorem m_lostQ {h : sgH} {u : Nat} (hx : mH h M) (ho : okH h) (hu : u < 4) : (M.1 60 u < 0) = (h.1 u = true) := by
  rw [(hx.2 u hu).1]
  have hz := (ho.2 u hu).1
  by_cases e : h.1 u = true
  · rw [if_pos e]
    exact propext ⟨fun _ => e, fun _ => by decide⟩
  · rw [if_neg e]
    exact propext ⟨fun q => absurd q (by rw [← nI_0]; exact nI_nlt (by omega) (by omega)), fun q => absurd q e⟩
theorem tf {b : Bool} (h : ¬ b = true) : b = false := by
  cases b
  · rfl
  · exact absurd rfl h
theorem nlt_le {a b : Nat} (hb : b < 2 ^ 31) (ha : a < 2 ^ 31) (h : ¬ nI b < nI a) : a ≤ b := by
  rw [ok_lt hb ha] at h
  omega
theorem m_read (hx : JM s M) (ho : okm s) (u t tm : Int32) : ∃ M', am_e X 173 0 [some (.ref (59 : Nat)), some (.int u), some (.int t), some (.int tm), none] [] kS M = some (some (.int (sp_read s u t tm).1), kS, M') ∧ JM (sp_read s u t tm).2 M' ∧ am_of pM M M' := by
  have i1 := m_isSheet (X := X) (S := kS) (M := M) u
  have i2 := m_isTaker (X := X) (S := kS) (M := M) t
  have i3 := m_isTime (X := X) (S := kS) (M := M) tm
  unfold sp_read
  by_cases h1 : 0 ≤ u ∧ u ≤ 3
  · rw [am_bt h1] at i1
    by_cases h2 : 0 ≤ t ∧ t ≤ 3
    · rw [am_bt h2] at i2
      by_cases h3 : 0 ≤ tm ∧ tm ≤ 999
      · rw [am_bt h3] at i3
        have i4 := m_isEarly (X := X) hx.2.2.2.2 ho.2.2.2.2 tm h3.1
        by_cases h4 : tm < nI (aLt s.2.2.2.2)
        · rw [am_bt h4] at i4
          rw [if_neg (fun q => q.2.2.2 h4)]
          refine ⟨M, ?_, hx, am_of.rf⟩
          simp only [e173_0, e173_1, e173_4, e173_7, e173_8, e173_11, e173_14, e173_15, e173_18, e173_21, e173_22, e173_23, e173_26, e173_29, e173_31, e173_32, e173_33, e173_36, e173_37, e173_38, e173_41, e173_42, e173_43, e173_46, e173_47, e173_48, e173_50, e173_52, e173_53, e173_56, e173_57, e173_58, e173_61, e173_62, e173_63, e173_65, e173_66, e173_69, e173_71, e173_72, e173_73, e173_75, e173_76, e173_77, e173_78, e173_81, e173_84, e173_87, e173_90, e173_92, s59, s59_0, s59_1, s59_2, s59_3, s59_4, s59_5, s59_6, s59_7, s59_8, s59_9, s59_10, s59_11, s59_12, s59_13, s59_14, s59_15, s59_16, s59_17, s59_18, s59_19, s59_20, s59_21, s59_22, s59_23, s59_24, s59_25, s59_26, s59_27, s59_28, s59_29, s59_30, s59_31, r59_0, r59_1, r59_2, r59_3, r59_6, r59_8, r59_9, r59_13, r59_15, r59_16, r59_17, r59_19, r59_22, r59_23, r59_26, r59_30, r59_31, s60, s61, s62, s63, s64, s65, s66, s67, s68, s69, s70, s71, s72, s73, s74, s75, s76, i1, i2, i3, i4, z10, z01, z1m, zm1, z0m, zm0, am_bv_s, am_bw_s, eq_self, true_or, or_true, am_b0, am_b1, am_em, if_true, if_false, true_and, and_true, false_and, and_false, not_true_eq_false, not_false_eq_true, false_or, or_false, Bool.false_eq_true]
        · rw [am_bf h4] at i4
          rw [if_pos ⟨h1, h2, h3, h4⟩]
          obtain ⟨a, ha, rfl⟩ := in_n (n := 3) h1 (by decide)
          obtain ⟨b, hb, rfl⟩ := in_n (n := 3) h2 (by decide)
          obtain ⟨c, hc, rfl⟩ := in_n (n := 999) h3 (by decide)
          have l9 := aLt_le ho.2.2.2.2
          have h4' := nlt_le (by omega) (by omega) h4
          rw [nI_clamp (n := a) (by omega), nI_clamp (n := b) (by omega), nI_clamp (n := c) (by omega)]
          have lq := m_lostQ hx.1 ho.1 (show a < 4 by omega)
          have ca : (nI a).toNatClampNeg = a := nI_clamp (by omega)
          by_cases hl : s.1.1 a = true
          · rw [if_pos hl]
            refine ⟨am_setI M 59 4 (nI 1), ?_, hx.setH (hx.1.fd (k := 1)) (am_of.rf.sI (Or.inl ⟨rfl, rfl⟩)), am_of.rf.sI (by unfold pM; omega)⟩
            simp only [e173_0, e173_1, e173_4, e173_7, e173_8, e173_11, e173_14, e173_15, e173_18, e173_21, e173_22, e173_23, e173_26, e173_29, e173_31, e173_32, e173_33, e173_36, e173_37, e173_38, e173_41, e173_42, e173_43, e173_46, e173_47, e173_48, e173_52, e173_53, e173_56, e173_57, e173_58, e173_61, e173_62, e173_63, e173_65, e173_66, e173_69, e173_71, e173_72, e173_73, e173_75, e173_76, e173_77, e173_78, e173_81, e173_84, e173_87, e173_90, e173_92, s59, s59_0, s59_1, s59_2, s59_3, s59_4, s59_5, s59_6, s59_7, s59_8, s59_9, s59_10, s59_11, s59_12, s59_13, s59_14, s59_15, s59_16, s59_17, s59_18, s59_19, s59_20, s59_21, s59_22, s59_23, s59_24, s59_25, s59_26, s59_27, s59_28, s59_29, s59_30, s59_31, r59_0, r59_1, r59_2, r59_3, r59_6, r59_8, r59_9, r59_13, r59_15, r59_16, r59_17, r59_19, r59_22, r59_23, r59_26, r59_30, r59_31, s60, s61, s62, s63, s64, s65, s66, s67, s68, s69, s70, s71, s72, s73, s74, s75, s76, i1, i2, i3, i4, z10, z01, z1m, zm1, z0m, zm0, lq, hl, ca, a60 (show a < 4 by omega), m_met, am_bv_s, am_bw_s, eq_self, true_or, or_true, am_b0, am_b1, am_em, if_true, if_false, true_and, and_true, false_and, and_false, not_true_eq_false, not_false_eq_true, false_or, or_false, Bool.false_eq_true]
            rfl
          · rw [if_neg hl]
            obtain ⟨M', r1, r2, r3⟩ := m_readLoop (X := X) (s := s) (u := a) (t := b) (tm := c) (n := sp_most s a) (by omega) (by omega) hc (tf hl) (sp_most s a) 0 s.2.2.2.2 M (by omega) rfl ho ho.2.2.2.2.1 rfl h4' hx
            refine ⟨M', ?_, r2, r3⟩
            rw [← r1]
            simp only [e173_0, e173_1, e173_4, e173_7, e173_8, e173_11, e173_14, e173_15, e173_18, e173_21, e173_22, e173_23, e173_26, e173_29, e173_31, e173_32, e173_33, e173_36, e173_37, e173_38, e173_41, e173_42, e173_43, e173_46, e173_47, e173_48, e173_52, e173_53, e173_56, e173_57, e173_58, e173_61, e173_62, e173_63, e173_65, e173_66, e173_69, e173_71, e173_72, e173_73, e173_75, e173_76, e173_77, e173_78, e173_81, e173_84, e173_87, e173_90, e173_92, s59, s59_0, s59_1, s59_2, s59_3, s59_4, s59_5, s59_6, s59_7, s59_8, s59_9, s59_10, s59_11, s59_12, s59_13, s59_14, s59_15, s59_16, s59_17, s59_18, s59_19, s59_20, s59_21, s59_22, s59_23, s59_24, s59_25, s59_26, s59_27, s59_28, s59_29, s59_30, s59_31, r59_0, r59_1, r59_2, r59_3, r59_6, r59_8, r59_9, r59_13, r59_15, r59_16, r59_17, r59_19, r59_22, r59_23, r59_26, r59_30, r59_31, s60, s61, s62, s63, s64, s65, s66, s67, s68, s69, s70, s71, s72, s73, s74, s75, s76, i1, i2, i3, i4, z10, z01, z1m, zm1, z0m, zm0, lq, hl, ca, a60 (show a < 4 by omega), nI_0, am_bv_s, am_bw_s, eq_self, true_or, or_true, am_b0, am_b1, am_em, if_true, if_false, true_and, and_true, false_and, and_false, not_true_eq_false, not_false_eq_true, false_or, or_false, Bool.false_eq_true]
      · rw [am_bf h3] at i3
        rw [if_neg (fun q => h3 q.2.2.1)]
        refine ⟨M, ?_, hx, am_of.rf⟩
        simp only [e173_0, e173_1, e173_4, e173_7, e173_8, e173_11, e173_14, e173_15, e173_18, e173_21, e173_22, e173_23, e173_26, e173_29, e173_31, e173_32, e173_33, e173_36, e173_37, e173_38, e173_41, e173_42, e173_43, e173_46, e173_47, e173_48, e173_50, e173_52, e173_53, e173_56, e173_57, e173_58, e173_61, e173_62, e173_63, e173_65, e173_66, e173_69, e173_71, e173_72, e173_73, e173_75, e173_76, e173_77, e173_78, e173_81, e173_84, e173_87, e173_90, e173_92, s59, s59_0, s59_1, s59_2, s59_3, s59_4, s59_5, s59_6, s59_7, s59_8, s59_9, s59_10, s59_11, s59_12, s59_13, s59_14, s59_15, s59_16, s59_17, s59_18, s59_19, s59_20, s59_21, s59_22, s59_23, s59_24, s59_25, s59_26, s59_27, s59_28, s59_29, s59_30, s59_31, r59_0, r59_1, r59_2, r59_3, r59_6, r59_8, r59_9, r59_13, r59_15, r59_16, r59_17, r59_19, r59_22, r59_23, r59_26, r59_30, r59_31, s60, s61, s62, s63, s64, s65, s66, s67, s68, s69, s70, s71, s72, s73, s74, s75, s76, i1, i2, i3, z10, z01, z1m, zm1, z0m, zm0, am_bv_s, am_bw_s, eq_self, true_or, or_true, am_b0, am_b1, am_em, if_true, if_false, true_and, and_true, false_and, and_false, not_true_eq_false, not_false_eq_true, false_or, or_false, Bool.false_eq_true]
    · rw [am_bf h2] at i2
      rw [if_neg (fun q => h2 q.2.1)]
      refine ⟨M, ?_, hx, am_of.rf⟩
      simp only [e173_0, e173_1, e173_4, e173_7, e173_8, e173_11, e173_14, e173_15, e173_18, e173_21, e173_22, e173_23, e173_26, e173_29, e173_31, e173_32, e173_33, e173_36, e173_37, e173_38, e173_41, e173_42, e173_43, e173_46, e173_47, e173_48, e173_50, e173_52, e173_53, e173_56, e173_57, e173_58, e173_61, e173_62, e173_63, e173_65, e173_66, e173_69, e173_71, e173_72, e173_73, e173_75, e173_76, e173_77, e173_78, e173_81, e173_84, e173_87, e173_90, e173_92, s59, s59_0, s59_1, s59_2, s59_3, s59_4, s59_5, s59_6, s59_7, s59_8, s59_9, s59_10, s59_11, s59_12, s59_13, s59_14, s59_15, s59_16, s59_17, s59_18, s59_19, s59_20, s59_21, s59_22, s59_23, s59_24, s59_25, s59_26, s59_27, s59_28, s59_29, s59_30, s59_31, r59_0, r59_1, r59_2, r59_3, r59_6, r59_8, r59_9, r59_13, r59_15, r59_16, r59_17, r59_19, r59_22, r59_23, r59_26, r59_30, r59_31, s60, s61, s62, s63, s64, s65, s66, s67, s68, s69, s70, s71, s72, s73, s74, s75, s76, i1, i2, z10, z01, z1m, zm1, z0m, zm0, am_bv_s, am_bw_s, eq_self, true_or, or_true, am_b0, am_b1, am_em, if_true, if_false, true_and, and_true, false_and, and_false, not_true_eq_false, not_false_eq_true, false_or, or_false, Bool.false_eq_true]
  · rw [am_bf h1] at i1
    rw [if_neg (fun q => h1 q.1)]
    refine ⟨M, ?_, hx, am_of.rf⟩
    simp only [e173_0, e173_1, e173_4, e173_7, e173_8, e173_11, e173_14, e173_15, e173_18, e173_21, e173_22, e173_23, e173_26, e173_29, e173_31, e173_32, e173_33, e173_36, e173_37, e173_38, e173_41, e173_42, e173_43, e173_46, e173_47, e173_48, e173_50, e173_52, e173_53, e173_56, e173_57, e173_58, e173_61, e173_62, e173_63, e173_65, e173_66, e173_69, e173_71, e173_72, e173_73, e173_75, e173_76, e173_77, e173_78, e173_81, e173_84, e173_87, e173_90, e173_92, i1, am_bv_s, am_bw_s, eq_self, true_or, or_true, am_b0, am_b1, am_em, if_true, if_false, true_and, and_true, false_and, and_false, not_true_eq_false, not_false_eq_true, false_or, or_false, Bool.false_eq_true]
theorem mWr_0 {h : sgH} {u : Nat} {f : Nat → Int32} (hx : mH h M) : mH (hWr h u 0 f) M := ⟨hx.1, fun t ht => ⟨(hx.2 t ht).1, fun hl => ⟨((hx.2 t ht).2 hl).1, fun i hi => by
  rw [((hx.2 t ht).2 hl).2 i hi]
  show _ = if t = u ∧ i < 0 then _ else _
  rw [if_neg (by omega)]⟩⟩⟩
theorem mWr_s {h : sgH} {u n : Nat} {f : Nat → Int32} (hx : mH (hWr h u n f) M) (ho : okH h) (hu : u < 4) (hn : n < 60) : mH (hWr h u (n + 1) f) (am_setI M 62 (60 * u + n) (f n)) := by
  have q := hx.put (t := u) (i := n) (v := f n) hu hn ⟨ho.1, ho.2⟩
  refine ⟨q.1, fun t ht => ⟨(q.2 t ht).1, fun hl => ⟨((q.2 t ht).2 hl).1, fun i hi => ?_⟩⟩⟩
  rw [((q.2 t ht).2 hl).2 i hi]
  show (if t = u ∧ i = n then f n else if t = u ∧ i < n then f i else _) = if t = u ∧ i < n + 1 then f i else _
  by_cases e : t = u ∧ i = n
  · rw [if_pos e, if_pos (by omega), e.2]
  · rw [if_neg e]
    by_cases e2 : t = u ∧ i < n
    · rw [if_pos e2, if_pos (by omega)]
    · rw [if_neg e2, if_neg (by omega)]
theorem m_write (hx : JM s M) (ho : okm s) (t u : Int32) : ∃ M', am_e X 212 0 [some (.ref (59 : Nat)), some (.int t), some (.int u), none, none] [] kS M = some (some (.int (sp_wr s t u).1), kS, M') ∧ JM (sp_wr s t u).2 M' ∧ am_of pM M M' := by
  have i1 := m_isTaker (X := X) (S := kS) (M := M) t
  have i2 := m_isSheet (X := X) (S := kS) (M := M) u
  unfold sp_wr
  by_cases h1 : 0 ≤ t ∧ t ≤ 3
  · rw [am_bt h1] at i1
    by_cases h2 : 0 ≤ u ∧ u ≤ 3
    · rw [am_bt h2] at i2
      rw [if_pos ⟨h1, h2⟩]
      obtain ⟨b, hb, rfl⟩ := in_n (n := 3) h1 (by decide)
      obtain ⟨a, ha, rfl⟩ := in_n (n := 3) h2 (by decide)
      rw [nI_clamp (n := a) (by omega), nI_clamp (n := b) (by omega)]
      have lq := m_lostQ hx.1 ho.1 (show a < 4 by omega)
      have ca : (nI a).toNatClampNeg = a := nI_clamp (by omega)
      have a4 : a < 4 := by omega
      have b4 : b < 4 := by omega
      by_cases hl : s.1.1 a = true
      · rw [if_pos hl]
        refine ⟨am_setI M 59 4 (nI 1), ?_, hx.setH (hx.1.fd (k := 1)) (am_of.rf.sI (Or.inl ⟨rfl, rfl⟩)), am_of.rf.sI (by unfold pM; omega)⟩
        simp only [e212_0, e212_1, e212_4, e212_7, e212_8, e212_11, e212_14, e212_16, e212_17, e212_18, e212_21, e212_22, e212_23, e212_26, e212_27, e212_28, e212_31, e212_32, e212_33, e212_34, e212_37, e212_40, e212_41, e212_44, e212_45, e212_46, e212_47, e212_50, e212_53, e212_54, e212_57, e212_58, e212_59, e212_62, e212_63, e212_66, e212_67, e212_68, e212_72, e212_73, e212_76, e212_77, e212_80, e212_82, e212_83, e212_84, e212_86, e212_87, e212_88, e212_91, e212_92, e212_93, e212_94, e212_97, e212_99, e212_100, e212_101, e212_103, e212_104, e212_105, e212_108, e212_109, e212_112, e212_115, e212_116, s59, s59_0, s59_1, s59_2, s59_3, s59_4, s59_5, s59_6, s59_7, s59_8, s59_9, s59_10, s59_11, s59_12, s59_13, s59_14, s59_15, s59_16, s59_17, s59_18, s59_19, s59_20, s59_21, s59_22, s59_23, s59_24, s59_25, s59_26, s59_27, s59_28, s59_29, s59_30, s59_31, r59_0, r59_1, r59_2, r59_3, r59_6, r59_8, r59_9, r59_13, r59_15, r59_16, r59_17, r59_19, r59_22, r59_23, r59_26, r59_30, r59_31, s60, s61, s62, s63, s64, s65, s66, s67, s68, s69, s70, s71, s72, s73, s74, s75, s76, i1, i2, z10, z01, z1m, zm1, z0m, zm0, lq, hl, ca, a60 a4, m_met, am_bv_s, am_bw_s, eq_self, true_or, or_true, am_b0, am_b1, am_em, if_true, if_false, true_and, and_true, false_and, and_false, not_true_eq_false, not_false_eq_true, false_or, or_false, Bool.false_eq_true]
        rfl
      · rw [if_neg hl]
        have hz := (ho.1.2 a (by omega)).2
        have h40 := (ps_le (l := s.2.2.2.1) ho.2.1.1).1
        obtain ⟨M1, r1, j1, of1⟩ := m_said (X := X) hx ho
        have y52 := hx.2.2.2.2.2.1
        have zq : M1.1 61 a = nI (s.1.2.2.1 a) := ((j1.1.1.2 a a4).2 (tf hl)).1
        have wq : M1.1 59 12 = nI (ps s.2.1.1 s.2.2.2.1).2.1 := j1.2.1.1
        have c0 : (nI (s.1.2.2.1 a) < nI (ps s.2.1.1 s.2.2.2.1).2.1) = (s.1.2.2.1 a < (ps s.2.1.1 s.2.2.2.1).2.1) := ok_lt (by omega) (by omega)
        generalize hn : min (s.1.2.2.1 a) (ps s.2.1.1 s.2.2.2.1).2.1 = n
        generalize hf : (fun j => sp_cut (nI (s.1.2.1 a)) (sd s.2.2.2.2 s.2.2.2.2.2.2.2.2.2 b j)) = f
        have run : am_e X 212 0 [some (.ref (59 : Nat)), some (.int (nI b)), some (.int (nI a)), none, none] [] kS M = am_e X 212 70 [some (.ref (59 : Nat)), some (.int (nI b)), some (.int (nI a)), some (.int (nI n)), some (.int (nI 0))] [] kS M1 := by
          by_cases h5 : s.1.2.2.1 a < (ps s.2.1.1 s.2.2.2.1).2.1
          · rw [← hn, Nat.min_eq_left (by omega)]
            simp only [e212_0, e212_1, e212_4, e212_7, e212_8, e212_11, e212_14, e212_16, e212_17, e212_18, e212_21, e212_22, e212_23, e212_26, e212_27, e212_28, e212_31, e212_32, e212_33, e212_34, e212_37, e212_40, e212_41, e212_44, e212_45, e212_46, e212_47, e212_50, e212_53, e212_54, e212_57, e212_58, e212_59, e212_62, e212_63, e212_66, e212_67, e212_68, e212_72, e212_73, e212_76, e212_77, e212_80, e212_82, e212_83, e212_84, e212_86, e212_87, e212_88, e212_91, e212_92, e212_93, e212_94, e212_97, e212_99, e212_100, e212_101, e212_103, e212_104, e212_105, e212_108, e212_109, e212_112, e212_115, e212_116, s59, s59_0, s59_1, s59_2, s59_3, s59_4, s59_5, s59_6, s59_7, s59_8, s59_9, s59_10, s59_11, s59_12, s59_13, s59_14, s59_15, s59_16, s59_17, s59_18, s59_19, s59_20, s59_21, s59_22, s59_23, s59_24, s59_25, s59_26, s59_27, s59_28, s59_29, s59_30, s59_31, r59_0, r59_1, r59_2, r59_3, r59_6, r59_8, r59_9, r59_13, r59_15, r59_16, r59_17, r59_19, r59_22, r59_23, r59_26, r59_30, r59_31, s60, s61, s62, s63, s64, s65, s66, s67, s68, s69, s70, s71, s72, s73, s74, s75, s76, i1, i2, z10, z01, z1m, zm1, z0m, zm0, lq, hl, ca, a60 a4, a61 a4, y52, r1, zq, wq, c0, h5, nI_0, am_bv_s, am_bw_s, eq_self, true_or, or_true, am_b0, am_b1, am_em, if_true, if_false, true_and, and_true, false_and, and_false, not_true_eq_false, not_false_eq_true, false_or, or_false, Bool.false_eq_true]
          · rw [← hn, Nat.min_eq_right (by omega)]
            simp only [e212_0, e212_1, e212_4, e212_7, e212_8, e212_11, e212_14, e212_16, e212_17, e212_18, e212_21, e212_22, e212_23, e212_26, e212_27, e212_28, e212_31, e212_32, e212_33, e212_34, e212_37, e212_40, e212_41, e212_44, e212_45, e212_46, e212_47, e212_50, e212_53, e212_54, e212_57, e212_58, e212_59, e212_62, e212_63, e212_66, e212_67, e212_68, e212_72, e212_73, e212_76, e212_77, e212_80, e212_82, e212_83, e212_84, e212_86, e212_87, e212_88, e212_91, e212_92, e212_93, e212_94, e212_97, e212_99, e212_100, e212_101, e212_103, e212_104, e212_105, e212_108, e212_109, e212_112, e212_115, e212_116, s59, s59_0, s59_1, s59_2, s59_3, s59_4, s59_5, s59_6, s59_7, s59_8, s59_9, s59_10, s59_11, s59_12, s59_13, s59_14, s59_15, s59_16, s59_17, s59_18, s59_19, s59_20, s59_21, s59_22, s59_23, s59_24, s59_25, s59_26, s59_27, s59_28, s59_29, s59_30, s59_31, r59_0, r59_1, r59_2, r59_3, r59_6, r59_8, r59_9, r59_13, r59_15, r59_16, r59_17, r59_19, r59_22, r59_23, r59_26, r59_30, r59_31, s60, s61, s62, s63, s64, s65, s66, s67, s68, s69, s70, s71, s72, s73, s74, s75, s76, i1, i2, z10, z01, z1m, zm1, z0m, zm0, lq, hl, ca, a60 a4, a61 a4, y52, r1, zq, wq, c0, h5, nI_0, am_bv_s, am_bw_s, eq_self, true_or, or_true, am_b0, am_b1, am_em, if_true, if_false, true_and, and_true, false_and, and_false, not_true_eq_false, not_false_eq_true, false_or, or_false, Bool.false_eq_true]
        obtain ⟨M', e1, g1, g2⟩ := am_lp (X := X) (S := kS) (mi := 212) (pc := 70) n (fun i => [some (.ref (59 : Nat)), some (.int (nI b)), some (.int (nI a)), some (.int (nI n)), some (.int (nI i))])
          (fun i M' => mH (hWr s.1 a i f) M' ∧ am_of (fun a _ => a = 62) M1 M') (M := M1) ⟨mWr_0 j1.1.1, am_of.rf⟩ (by
            intro j M2 hj hI
            obtain ⟨i1, i2⟩ := hI
            have c1 : (nI j < nI n) = True := eq_true (nI_lt hj (by omega))
            have cj : (nI j).toNatClampNeg = j := nI_clamp (by omega)
            have j40 : j < 40 := by omega
            have sv := (j1.2.2.of i2 (fun a k q => by omega)) b b4 j j40
            have fq : M2.1 60 a = nI (s.1.2.1 a) := by rw [(i1.2 a a4).1]; exact if_neg hl
            have e4 : (40 : Int32) * nI b + nI j = nI (40 * b + j) := by rw [show (40 : Int32) * nI b = nI (40 * b) from pk_mul 40 b, nI_add]
            have ce : (nI (40 * b + j)).toNatClampNeg = 40 * b + j := nI_clamp (by omega)
            have e6 : (60 : Int32) * nI a + nI j = nI (60 * a + j) := by rw [c60, nI_add]
            have cf : (nI (60 * a + j)).toNatClampNeg = 60 * a + j := nI_clamp (by omega)
            have fj : (if nI (s.1.2.1 a) = 0 then (sd s.2.2.2.2 s.2.2.2.2.2.2.2.2.2 b j).toInt8.toInt32 else if nI (s.1.2.1 a) = 1 then (sd s.2.2.2.2 s.2.2.2.2.2.2.2.2.2 b j).toInt16.toInt32 else sd s.2.2.2.2 s.2.2.2.2.2.2.2.2.2 b j) = f j := by rw [← hf]; rfl
            have cq := m_cut (X := X) (S := kS) (M := M2) (f := nI (s.1.2.1 a)) (v := sd s.2.2.2.2 s.2.2.2.2.2.2.2.2.2 b j)
            rw [fj] at cq
            refine ⟨am_setI M2 62 (60 * a + j) (f j), ?_, mWr_s i1 ho.1 a4 (by omega), i2.sI rfl⟩
            rw [e212_70]
            simp only [e212_0, e212_1, e212_4, e212_7, e212_8, e212_11, e212_14, e212_16, e212_17, e212_18, e212_21, e212_22, e212_23, e212_26, e212_27, e212_28, e212_31, e212_32, e212_33, e212_34, e212_37, e212_40, e212_41, e212_44, e212_45, e212_46, e212_47, e212_50, e212_53, e212_54, e212_57, e212_58, e212_59, e212_62, e212_63, e212_66, e212_67, e212_68, e212_72, e212_73, e212_76, e212_77, e212_80, e212_82, e212_83, e212_84, e212_86, e212_87, e212_88, e212_91, e212_92, e212_93, e212_94, e212_97, e212_99, e212_100, e212_101, e212_103, e212_104, e212_105, e212_108, e212_109, e212_112, e212_115, e212_116, s59, s59_0, s59_1, s59_2, s59_3, s59_4, s59_5, s59_6, s59_7, s59_8, s59_9, s59_10, s59_11, s59_12, s59_13, s59_14, s59_15, s59_16, s59_17, s59_18, s59_19, s59_20, s59_21, s59_22, s59_23, s59_24, s59_25, s59_26, s59_27, s59_28, s59_29, s59_30, s59_31, r59_0, r59_1, r59_2, r59_3, r59_6, r59_8, r59_9, r59_13, r59_15, r59_16, r59_17, r59_19, r59_22, r59_23, r59_26, r59_30, r59_31, s60, s61, s62, s63, s64, s65, s66, s67, s68, s69, s70, s71, s72, s73, s74, s75, s76, c1, cj, ca, fq, e4, ce, e6, cf, sv, cq, a60 a4, a71 (show 40 * b + j < 160 by omega), a62 (show 60 * a + j < 240 by omega), nI_1, am_bv_s, am_bw_s, eq_self, true_or, or_true, am_b0, am_b1, am_em, if_true, if_false, true_and, and_true, false_and, and_false, not_true_eq_false, not_false_eq_true, false_or, or_false, Bool.false_eq_true])
        refine ⟨M', ?_, ?_, (of1.mo fun a k q => pmS_M q).tr (g2.mo fun a k q => by unfold pM; omega)⟩
        · have c1 : (nI n < nI n) = False := eq_false (nI_nlt (Nat.le_refl _) (by omega))
          rw [run, e1, e212_70]
          simp only [e212_0, e212_1, e212_4, e212_7, e212_8, e212_11, e212_14, e212_16, e212_17, e212_18, e212_21, e212_22, e212_23, e212_26, e212_27, e212_28, e212_31, e212_32, e212_33, e212_34, e212_37, e212_40, e212_41, e212_44, e212_45, e212_46, e212_47, e212_50, e212_53, e212_54, e212_57, e212_58, e212_59, e212_62, e212_63, e212_66, e212_67, e212_68, e212_72, e212_73, e212_76, e212_77, e212_80, e212_82, e212_83, e212_84, e212_86, e212_87, e212_88, e212_91, e212_92, e212_93, e212_94, e212_97, e212_99, e212_100, e212_101, e212_103, e212_104, e212_105, e212_108, e212_109, e212_112, e212_115, e212_116, c1, am_bv_s, am_bw_s, eq_self, true_or, or_true, am_b0, am_b1, am_em, if_true, if_false, true_and, and_true, false_and, and_false, not_true_eq_false, not_false_eq_true, false_or, or_false, Bool.false_eq_true]
        · exact j1.1.setH g1 (g2.mo fun a k q => Or.inr (by omega))
    · rw [am_bf h2] at i2
      rw [if_neg (fun q => h2 q.2)]
      refine ⟨M, ?_, hx, am_of.rf⟩
      simp only [e212_0, e212_1, e212_4, e212_7, e212_8, e212_11, e212_14, e212_16, e212_17, e212_18, e212_21, e212_22, e212_23, e212_26, e212_27, e212_28, e212_31, e212_32, e212_33, e212_34, e212_37, e212_40, e212_41, e212_44, e212_45, e212_46, e212_47, e212_50, e212_53, e212_54, e212_57, e212_58, e212_59, e212_62, e212_63, e212_66, e212_67, e212_68, e212_70, e212_72, e212_73, e212_76, e212_77, e212_80, e212_82, e212_83, e212_84, e212_86, e212_87, e212_88, e212_91, e212_92, e212_93, e212_94, e212_97, e212_99, e212_100, e212_101, e212_103, e212_104, e212_105, e212_108, e212_109, e212_112, e212_115, e212_116, i1, i2, z10, z01, z1m, zm1, z0m, zm0, am_bv_s, am_bw_s, eq_self, true_or, or_true, am_b0, am_b1, am_em, if_true, if_false, true_and, and_true, false_and, and_false, not_true_eq_false, not_false_eq_true, false_or, or_false, Bool.false_eq_true]
  · rw [am_bf h1] at i1
    rw [if_neg (fun q => h1 q.1)]
    refine ⟨M, ?_, hx, am_of.rf⟩
    simp only [e212_0, e212_1, e212_4, e212_7, e212_8, e212_11, e212_14, e212_16, e212_17, e212_18, e212_21, e212_22, e212_23, e212_26, e212_27, e212_28, e212_31, e212_32, e212_33, e212_34, e212_37, e212_40, e212_41, e212_44, e212_45, e212_46, e212_47, e212_50, e212_53, e212_54, e212_57, e212_58, e212_59, e212_62, e212_63, e212_66, e212_67, e212_68, e212_70, e212_72, e212_73, e212_76, e212_77, e212_80, e212_82, e212_83, e212_84, e212_86, e212_87, e212_88, e212_91, e212_92, e212_93, e212_94, e212_97, e212_99, e212_100, e212_101, e212_103, e212_104, e212_105, e212_108, e212_109, e212_112, e212_115, e212_116, i1, am_bv_s, am_bw_s, eq_self, true_or, or_true, am_b0, am_b1, am_em, if_true, if_false, true_and, and_true, false_and, and_false, not_true_eq_false, not_false_eq_true, false_or, or_false, Bool.false_eq_true]
end
