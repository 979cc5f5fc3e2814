/-! the reference: asked, pair, read, write -/
section
variable {X : am_X} {S : am_Sh} {M M' : am_Me} {P : Nat → Nat → Prop} {s : sgm}
theorem pmS_R {a k : Nat} (h : pmS a k) : pR a k := by unfold pmS pmW at h; unfold pR; omega
theorem m_askedOf (hx : JM s M) (ho : okm s) {t : Nat} (ht : t < 4) (b w : Int32) (hb : b = -1 ∨ (0 ≤ b ∧ b ≤ nI s.2.1.1 - 1)) (hw : w = 0 ∨ w = 1) : ∃ M', am_e X 177 0 [some (.ref (59 : Nat)), some (.int (nI t)), some (.int b), some (.int w)] [] kS M = some (some (.int (if w = 0 then nI (sAs s.2.1.1 s.2.2.2.1 s.2.2.2.2 t (if b = -1 then 6 else b.toNatClampNeg)) else nI (sYe s.2.1.1 s.2.2.2.1 s.2.2.2.2 t (if b = -1 then 6 else b.toNatClampNeg)))), kS, M') ∧ JM s M' ∧ am_of pmS M M' := by
  obtain ⟨M', r1, r2, r3⟩ := m_said (X := X) hx ho
  have d6 := ho.2.1.1
  refine ⟨M', ?_, r2.1, r3⟩
  have y52 := hx.2.2.2.2.2.1
  have q0 := fun k (hk : k < 7) => r2.as (X := X) ho ht hk
  have q1 := fun k (hk : k < 7) => r2.ye (X := X) ho ht hk
  rcases hb with rfl | h
  · have a6 := q0 6 (by decide)
    have y6 := q1 6 (by decide)
    rw [show nI 6 = 6 from rfl] at a6 y6
    rcases hw with rfl | rfl
    · simp only [e177_0, e177_1, e177_2, e177_5, e177_8, e177_9, e177_10, e177_11, e177_12, e177_15, e177_17, e177_20, e177_21, e177_22, e177_25, s59, s59_0, s59_1, s59_2, s59_3, s59_4, s59_5, s59_6, s59_7, s59_8, s59_9, s59_10, s59_11, s59_12, s59_13, s59_14, s59_15, s59_16, s59_17, s59_18, s59_19, s59_20, s59_21, s59_22, s59_23, s59_24, s59_25, s59_26, s59_27, s59_28, s59_29, s59_30, s59_31, r59_0, r59_1, r59_2, r59_3, r59_6, r59_8, r59_9, r59_13, r59_15, r59_16, r59_17, r59_19, r59_22, r59_23, r59_26, r59_30, r59_31, s60, s61, s62, s63, s64, s65, s66, s67, s68, s69, s70, s71, s72, s73, s74, s75, s76, y52, r1, a6, z10, z01, z1m, zm1, z0m, zm0, am_bv_s, am_bw_s, eq_self, true_or, or_true, am_b0, am_b1, am_em, if_true, if_false, true_and, and_true, false_and, and_false, not_true_eq_false, not_false_eq_true, false_or, or_false, Bool.false_eq_true]
    · simp only [e177_0, e177_1, e177_2, e177_5, e177_8, e177_9, e177_10, e177_11, e177_12, e177_15, e177_17, e177_20, e177_21, e177_22, e177_25, s59, s59_0, s59_1, s59_2, s59_3, s59_4, s59_5, s59_6, s59_7, s59_8, s59_9, s59_10, s59_11, s59_12, s59_13, s59_14, s59_15, s59_16, s59_17, s59_18, s59_19, s59_20, s59_21, s59_22, s59_23, s59_24, s59_25, s59_26, s59_27, s59_28, s59_29, s59_30, s59_31, r59_0, r59_1, r59_2, r59_3, r59_6, r59_8, r59_9, r59_13, r59_15, r59_16, r59_17, r59_19, r59_22, r59_23, r59_26, r59_30, r59_31, s60, s61, s62, s63, s64, s65, s66, s67, s68, s69, s70, s71, s72, s73, s74, s75, s76, y52, r1, y6, z10, z01, z1m, zm1, z0m, zm0, am_bv_s, am_bw_s, eq_self, true_or, or_true, am_b0, am_b1, am_em, if_true, if_false, true_and, and_true, false_and, and_false, not_true_eq_false, not_false_eq_true, false_or, or_false, Bool.false_eq_true]
  · obtain ⟨k, hk, rfl⟩ := (pred_le (by omega)).mp h
    have n1 : (nI k = -1) = False := nI_n1 (by omega)
    have ck : (nI k).toNatClampNeg = k := nI_clamp (by omega)
    have ak := q0 k (by omega)
    have yk := q1 k (by omega)
    rcases hw with rfl | rfl
    · simp only [e177_0, e177_1, e177_2, e177_5, e177_8, e177_9, e177_10, e177_11, e177_12, e177_15, e177_17, e177_20, e177_21, e177_22, e177_25, s59, s59_0, s59_1, s59_2, s59_3, s59_4, s59_5, s59_6, s59_7, s59_8, s59_9, s59_10, s59_11, s59_12, s59_13, s59_14, s59_15, s59_16, s59_17, s59_18, s59_19, s59_20, s59_21, s59_22, s59_23, s59_24, s59_25, s59_26, s59_27, s59_28, s59_29, s59_30, s59_31, r59_0, r59_1, r59_2, r59_3, r59_6, r59_8, r59_9, r59_13, r59_15, r59_16, r59_17, r59_19, r59_22, r59_23, r59_26, r59_30, r59_31, s60, s61, s62, s63, s64, s65, s66, s67, s68, s69, s70, s71, s72, s73, s74, s75, s76, y52, r1, ak, n1, ck, z10, z01, z1m, zm1, z0m, zm0, am_bv_s, am_bw_s, eq_self, true_or, or_true, am_b0, am_b1, am_em, if_true, if_false, true_and, and_true, false_and, and_false, not_true_eq_false, not_false_eq_true, false_or, or_false, Bool.false_eq_true]
    · simp only [e177_0, e177_1, e177_2, e177_5, e177_8, e177_9, e177_10, e177_11, e177_12, e177_15, e177_17, e177_20, e177_21, e177_22, e177_25, s59, s59_0, s59_1, s59_2, s59_3, s59_4, s59_5, s59_6, s59_7, s59_8, s59_9, s59_10, s59_11, s59_12, s59_13, s59_14, s59_15, s59_16, s59_17, s59_18, s59_19, s59_20, s59_21, s59_22, s59_23, s59_24, s59_25, s59_26, s59_27, s59_28, s59_29, s59_30, s59_31, r59_0, r59_1, r59_2, r59_3, r59_6, r59_8, r59_9, r59_13, r59_15, r59_16, r59_17, r59_19, r59_22, r59_23, r59_26, r59_30, r59_31, s60, s61, s62, s63, s64, s65, s66, s67, s68, s69, s70, s71, s72, s73, s74, s75, s76, y52, r1, yk, n1, ck, z10, z01, z1m, zm1, z0m, zm0, am_bv_s, am_bw_s, eq_self, true_or, or_true, am_b0, am_b1, am_em, if_true, if_false, true_and, and_true, false_and, and_false, not_true_eq_false, not_false_eq_true, false_or, or_false, Bool.false_eq_true]
theorem b01 {w : Int32} (h : 0 ≤ w ∧ w ≤ 1) : w = 0 ∨ w = 1 := by
  obtain ⟨k, hk, rfl⟩ := in_n (n := 1) h (by decide)
  have : k = 0 ∨ k = 1 := by omega
  rcases this with rfl | rfl
  · exact Or.inl rfl
  · exact Or.inr rfl
theorem m_asked (hx : JM s M) (ho : okm s) (t b w : Int32) : ∃ M', am_e X 178 0 [some (.ref (59 : Nat)), some (.int t), some (.int b), some (.int w)] [] kS M = some (some (.int (sp_asked s t b w)), kS, M') ∧ JM s M' ∧ am_of pM M M' := by
  have i1 := m_isTaker (X := X) (S := kS) (M := M) t
  have i2 := m_isBand2 (X := X) (M := M) hx.2.1 b
  have i3 := m_isTwo (X := X) (S := kS) (M := M) w
  unfold sp_asked
  by_cases h1 : 0 ≤ t ∧ t ≤ 3
  · rw [am_bt h1] at i1
    by_cases h3 : 0 ≤ w ∧ w ≤ 1
    · rw [am_bt h3] at i3
      by_cases h2 : b = -1 ∨ (0 ≤ b ∧ b ≤ nI s.2.1.1 - 1)
      · rw [if_pos ⟨h1, h2, h3⟩]
        obtain ⟨a, ha, rfl⟩ := in_n (n := 3) h1 (by decide)
        rw [nI_clamp (n := a) (by omega)]
        obtain ⟨M', r1, r2, r3⟩ := m_askedOf (X := X) hx ho (show a < 4 by omega) b w h2 (b01 h3)
        refine ⟨M', ?_, r2, r3.mo fun a k q => pmS_M q⟩
        by_cases h4 : b = -1
        · subst h4
          simp only [e178_0, e178_1, e178_4, e178_7, e178_8, e178_9, e178_12, e178_13, e178_14, e178_17, e178_20, e178_21, e178_24, e178_27, e178_28, e178_29, e178_30, e178_31, e178_34, e178_37, e178_39, s59, s59_0, s59_1, s59_2, s59_3, s59_4, s59_5, s59_6, s59_7, s59_8, s59_9, s59_10, s59_11, s59_12, s59_13, s59_14, s59_15, s59_16, s59_17, s59_18, s59_19, s59_20, s59_21, s59_22, s59_23, s59_24, s59_25, s59_26, s59_27, s59_28, s59_29, s59_30, s59_31, r59_0, r59_1, r59_2, r59_3, r59_6, r59_8, r59_9, r59_13, r59_15, r59_16, r59_17, r59_19, r59_22, r59_23, r59_26, r59_30, r59_31, s60, s61, s62, s63, s64, s65, s66, s67, s68, s69, s70, s71, s72, s73, s74, s75, s76, i1, i3, r1, z10, z01, z1m, zm1, z0m, zm0, am_bv_s, am_bw_s, eq_self, true_or, or_true, am_b0, am_b1, am_em, if_true, if_false, true_and, and_true, false_and, and_false, not_true_eq_false, not_false_eq_true, false_or, or_false, Bool.false_eq_true]
        · have h5 := h2.resolve_left h4
          rw [am_bt h5] at i2
          simp only [e178_0, e178_1, e178_4, e178_7, e178_8, e178_9, e178_12, e178_13, e178_14, e178_17, e178_20, e178_21, e178_24, e178_27, e178_28, e178_29, e178_30, e178_31, e178_34, e178_37, e178_39, s59, s59_0, s59_1, s59_2, s59_3, s59_4, s59_5, s59_6, s59_7, s59_8, s59_9, s59_10, s59_11, s59_12, s59_13, s59_14, s59_15, s59_16, s59_17, s59_18, s59_19, s59_20, s59_21, s59_22, s59_23, s59_24, s59_25, s59_26, s59_27, s59_28, s59_29, s59_30, s59_31, r59_0, r59_1, r59_2, r59_3, r59_6, r59_8, r59_9, r59_13, r59_15, r59_16, r59_17, r59_19, r59_22, r59_23, r59_26, r59_30, r59_31, s60, s61, s62, s63, s64, s65, s66, s67, s68, s69, s70, s71, s72, s73, s74, s75, s76, i1, i2, i3, h4, r1, z10, z01, z1m, zm1, z0m, zm0, am_bv_s, am_bw_s, eq_self, true_or, or_true, am_b0, am_b1, am_em, if_true, if_false, true_and, and_true, false_and, and_false, not_true_eq_false, not_false_eq_true, false_or, or_false, Bool.false_eq_true]
      · rw [if_neg (fun q => h2 q.2.1)]
        refine ⟨M, ?_, hx, am_of.rf⟩
        have h4 : ¬ b = -1 := fun q => h2 (Or.inl q)
        have h5 : ¬ (0 ≤ b ∧ b ≤ nI s.2.1.1 - 1) := fun q => h2 (Or.inr q)
        rw [am_bf h5] at i2
        simp only [e178_0, e178_1, e178_4, e178_7, e178_8, e178_9, e178_12, e178_13, e178_14, e178_17, e178_20, e178_21, e178_24, e178_27, e178_28, e178_29, e178_30, e178_31, e178_34, e178_37, e178_39, s59, s59_0, s59_1, s59_2, s59_3, s59_4, s59_5, s59_6, s59_7, s59_8, s59_9, s59_10, s59_11, s59_12, s59_13, s59_14, s59_15, s59_16, s59_17, s59_18, s59_19, s59_20, s59_21, s59_22, s59_23, s59_24, s59_25, s59_26, s59_27, s59_28, s59_29, s59_30, s59_31, r59_0, r59_1, r59_2, r59_3, r59_6, r59_8, r59_9, r59_13, r59_15, r59_16, r59_17, r59_19, r59_22, r59_23, r59_26, r59_30, r59_31, s60, s61, s62, s63, s64, s65, s66, s67, s68, s69, s70, s71, s72, s73, s74, s75, s76, i1, i2, h4, z10, z01, z1m, zm1, z0m, zm0, am_bv_s, am_bw_s, eq_self, true_or, or_true, am_b0, am_b1, am_em, if_true, if_false, true_and, and_true, false_and, and_false, not_true_eq_false, not_false_eq_true, false_or, or_false, Bool.false_eq_true]
    · rw [am_bf h3] at i3
      rw [if_neg (fun q => h3 q.2.2)]
      refine ⟨M, ?_, hx, am_of.rf⟩
      by_cases h4 : b = -1
      · simp only [e178_0, e178_1, e178_4, e178_7, e178_8, e178_9, e178_12, e178_13, e178_14, e178_17, e178_20, e178_21, e178_24, e178_27, e178_28, e178_29, e178_30, e178_31, e178_34, e178_37, e178_39, s59, s59_0, s59_1, s59_2, s59_3, s59_4, s59_5, s59_6, s59_7, s59_8, s59_9, s59_10, s59_11, s59_12, s59_13, s59_14, s59_15, s59_16, s59_17, s59_18, s59_19, s59_20, s59_21, s59_22, s59_23, s59_24, s59_25, s59_26, s59_27, s59_28, s59_29, s59_30, s59_31, r59_0, r59_1, r59_2, r59_3, r59_6, r59_8, r59_9, r59_13, r59_15, r59_16, r59_17, r59_19, r59_22, r59_23, r59_26, r59_30, r59_31, s60, s61, s62, s63, s64, s65, s66, s67, s68, s69, s70, s71, s72, s73, s74, s75, s76, i1, i3, h4, z10, z01, z1m, zm1, z0m, zm0, am_bv_s, am_bw_s, eq_self, true_or, or_true, am_b0, am_b1, am_em, if_true, if_false, true_and, and_true, false_and, and_false, not_true_eq_false, not_false_eq_true, false_or, or_false, Bool.false_eq_true]
      · by_cases h5 : 0 ≤ b ∧ b ≤ nI s.2.1.1 - 1
        · rw [am_bt h5] at i2
          simp only [e178_0, e178_1, e178_4, e178_7, e178_8, e178_9, e178_12, e178_13, e178_14, e178_17, e178_20, e178_21, e178_24, e178_27, e178_28, e178_29, e178_30, e178_31, e178_34, e178_37, e178_39, s59, s59_0, s59_1, s59_2, s59_3, s59_4, s59_5, s59_6, s59_7, s59_8, s59_9, s59_10, s59_11, s59_12, s59_13, s59_14, s59_15, s59_16, s59_17, s59_18, s59_19, s59_20, s59_21, s59_22, s59_23, s59_24, s59_25, s59_26, s59_27, s59_28, s59_29, s59_30, s59_31, r59_0, r59_1, r59_2, r59_3, r59_6, r59_8, r59_9, r59_13, r59_15, r59_16, r59_17, r59_19, r59_22, r59_23, r59_26, r59_30, r59_31, s60, s61, s62, s63, s64, s65, s66, s67, s68, s69, s70, s71, s72, s73, s74, s75, s76, i1, i2, i3, h4, z10, z01, z1m, zm1, z0m, zm0, am_bv_s, am_bw_s, eq_self, true_or, or_true, am_b0, am_b1, am_em, if_true, if_false, true_and, and_true, false_and, and_false, not_true_eq_false, not_false_eq_true, false_or, or_false, Bool.false_eq_true]
        · rw [am_bf h5] at i2
          simp only [e178_0, e178_1, e178_4, e178_7, e178_8, e178_9, e178_12, e178_13, e178_14, e178_17, e178_20, e178_21, e178_24, e178_27, e178_28, e178_29, e178_30, e178_31, e178_34, e178_37, e178_39, s59, s59_0, s59_1, s59_2, s59_3, s59_4, s59_5, s59_6, s59_7, s59_8, s59_9, s59_10, s59_11, s59_12, s59_13, s59_14, s59_15, s59_16, s59_17, s59_18, s59_19, s59_20, s59_21, s59_22, s59_23, s59_24, s59_25, s59_26, s59_27, s59_28, s59_29, s59_30, s59_31, r59_0, r59_1, r59_2, r59_3, r59_6, r59_8, r59_9, r59_13, r59_15, r59_16, r59_17, r59_19, r59_22, r59_23, r59_26, r59_30, r59_31, s60, s61, s62, s63, s64, s65, s66, s67, s68, s69, s70, s71, s72, s73, s74, s75, s76, i1, i2, h4, z10, z01, z1m, zm1, z0m, zm0, am_bv_s, am_bw_s, eq_self, true_or, or_true, am_b0, am_b1, am_em, if_true, if_false, true_and, and_true, false_and, and_false, not_true_eq_false, not_false_eq_true, false_or, or_false, Bool.false_eq_true]
  · rw [am_bf h1] at i1
    rw [if_neg (fun q => h1 q.1)]
    refine ⟨M, ?_, hx, am_of.rf⟩
    simp only [e178_0, e178_1, e178_4, e178_7, e178_8, e178_9, e178_12, e178_13, e178_14, e178_17, e178_20, e178_21, e178_24, e178_27, e178_28, e178_29, e178_30, e178_31, e178_34, e178_37, e178_39, s59, s59_0, s59_1, s59_2, s59_3, s59_4, s59_5, s59_6, s59_7, s59_8, s59_9, s59_10, s59_11, s59_12, s59_13, s59_14, s59_15, s59_16, s59_17, s59_18, s59_19, s59_20, s59_21, s59_22, s59_23, s59_24, s59_25, s59_26, s59_27, s59_28, s59_29, s59_30, s59_31, r59_0, r59_1, r59_2, r59_3, r59_6, r59_8, r59_9, r59_13, r59_15, r59_16, r59_17, r59_19, r59_22, r59_23, r59_26, r59_30, r59_31, s60, s61, s62, s63, s64, s65, s66, s67, s68, s69, s70, s71, s72, s73, s74, s75, s76, i1, am_bv_s, am_bw_s, eq_self, true_or, or_true, am_b0, am_b1, am_em, if_true, if_false, true_and, and_true, false_and, and_false, not_true_eq_false, not_false_eq_true, false_or, or_false, Bool.false_eq_true]
theorem m_both {a b : Nat} {u v : Int32} (ho : okm s) (hx : JS s M) (ha : a < 4) (hb : b < 4) : am_e X 205 0 [some (.ref (59 : Nat)), some (.int (nI a)), some (.int (nI b)), some (.int u), some (.int v), none, none] [] kS M = some (some (.int (nI (bth s.2.1.1 s.2.2.2.1 (sd s.2.2.2.2 s.2.2.2.2.2.2.2.2.2 a) (sd s.2.2.2.2 s.2.2.2.2.2.2.2.2.2 b) u v))), kS, M) := by
  obtain ⟨_, hw, hs⟩ := hx
  have h40 := ps_le (l := s.2.2.2.1) ho.2.1.1
  generalize s.2.1.1 = nb at *
  generalize s.2.2.2.1 = l at *
  generalize s.2.2.2.2.2.2.2.2.2 = tm at *
  generalize s.2.2.2.2 = A at *
  obtain ⟨w1, w2⟩ := hw
  obtain ⟨M', e1, g1⟩ := am_lp (X := X) (S := kS) (mi := 205) (pc := 6) (ps nb l).2.1 (fun i => [some (.ref (59 : Nat)), some (.int (nI a)), some (.int (nI b)), some (.int u), some (.int v), some (.int (nI (cnt (fun w => (ps nb l).2.2 w ≠ 6 ∧ sd A tm a w = u ∧ sd A tm b w = v) i))), some (.int (nI i))])
    (fun i M' => M' = M) (M := M) rfl (by
      intro j M2 hj hI
      subst hI
      refine ⟨M2, ?_, rfl⟩
      have c1 : (nI j < nI (ps nb l).2.1) = True := eq_true (nI_lt hj (by omega))
      have cj : (nI j).toNatClampNeg = j := nI_clamp (by omega)
      have k6 := h40.2 j hj
      have j40 : j < 40 := by omega
      have e4 : (40 : Int32) * nI a + nI j = nI (40 * a + j) := by rw [show (40 : Int32) * nI a = nI (40 * a) from pk_mul 40 a, nI_add]
      have ce : (nI (40 * a + j)).toNatClampNeg = 40 * a + j := nI_clamp (by omega)
      have e5 : (40 : Int32) * nI b + nI j = nI (40 * b + j) := by rw [show (40 : Int32) * nI b = nI (40 * b) from pk_mul 40 b, nI_add]
      have cf : (nI (40 * b + j)).toNatClampNeg = 40 * b + j := nI_clamp (by omega)
      have ck : (nI ((ps nb l).2.2 j) = 6) = ((ps nb l).2.2 j = 6) := propext (nI_eq (b := 6) (by omega) (by decide))
      have sv := hs a ha j j40
      have sw := hs b hb j j40
      rw [e205_6]
      by_cases h1 : (ps nb l).2.2 j = 6
      · rw [cnt_s0 (fun q => q.1 h1)]
        have n6 : (nI 6 = 6) = True := eq_true rfl
        simp only [e205_0, e205_1, e205_3, e205_4, e205_8, e205_9, e205_12, e205_15, e205_17, e205_18, e205_21, e205_23, e205_24, e205_26, e205_29, e205_30, e205_33, e205_35, e205_36, e205_37, e205_39, e205_40, e205_41, e205_42, e205_45, e205_46, e205_49, e205_51, e205_52, e205_53, e205_55, e205_56, e205_57, e205_59, e205_62, e205_63, e205_66, e205_67, e205_68, e205_70, e205_73, e205_76, e205_78, s59, s59_0, s59_1, s59_2, s59_3, s59_4, s59_5, s59_6, s59_7, s59_8, s59_9, s59_10, s59_11, s59_12, s59_13, s59_14, s59_15, s59_16, s59_17, s59_18, s59_19, s59_20, s59_21, s59_22, s59_23, s59_24, s59_25, s59_26, s59_27, s59_28, s59_29, s59_30, s59_31, r59_0, r59_1, r59_2, r59_3, r59_6, r59_8, r59_9, r59_13, r59_15, r59_16, r59_17, r59_19, r59_22, r59_23, r59_26, r59_30, r59_31, s60, s61, s62, s63, s64, s65, s66, s67, s68, s69, s70, s71, s72, s73, s74, s75, s76, w1, w2 j hj, c1, cj, h1, n6, a67 (show j < 50 by omega), nI_1, Int32.add_zero, am_bv_s, am_bw_s, eq_self, true_or, or_true, am_b0, am_b1, am_em, if_true, if_false, true_and, and_true, false_and, and_false, not_true_eq_false, not_false_eq_true, false_or, or_false, Bool.false_eq_true]
      · by_cases h2 : sd A tm a j = u
        · by_cases h3 : sd A tm b j = v
          · rw [cnt_s1 ⟨h1, h2, h3⟩]
            simp only [e205_0, e205_1, e205_3, e205_4, e205_8, e205_9, e205_12, e205_15, e205_17, e205_18, e205_21, e205_23, e205_24, e205_26, e205_29, e205_30, e205_33, e205_35, e205_36, e205_37, e205_39, e205_40, e205_41, e205_42, e205_45, e205_46, e205_49, e205_51, e205_52, e205_53, e205_55, e205_56, e205_57, e205_59, e205_62, e205_63, e205_66, e205_67, e205_68, e205_70, e205_73, e205_76, e205_78, s59, s59_0, s59_1, s59_2, s59_3, s59_4, s59_5, s59_6, s59_7, s59_8, s59_9, s59_10, s59_11, s59_12, s59_13, s59_14, s59_15, s59_16, s59_17, s59_18, s59_19, s59_20, s59_21, s59_22, s59_23, s59_24, s59_25, s59_26, s59_27, s59_28, s59_29, s59_30, s59_31, r59_0, r59_1, r59_2, r59_3, r59_6, r59_8, r59_9, r59_13, r59_15, r59_16, r59_17, r59_19, r59_22, r59_23, r59_26, r59_30, r59_31, s60, s61, s62, s63, s64, s65, s66, s67, s68, s69, s70, s71, s72, s73, s74, s75, s76, w1, w2 j hj, c1, cj, ck, h1, e4, ce, e5, cf, sv, sw, h2, h3, a67 (show j < 50 by omega), a71 (show 40 * a + j < 160 by omega), a71 (show 40 * b + j < 160 by omega), nI_1, am_bv_s, am_bw_s, eq_self, true_or, or_true, am_b0, am_b1, am_em, if_true, if_false, true_and, and_true, false_and, and_false, not_true_eq_false, not_false_eq_true, false_or, or_false, Bool.false_eq_true]
          · rw [cnt_s0 (fun q => h3 q.2.2)]
            simp only [e205_0, e205_1, e205_3, e205_4, e205_8, e205_9, e205_12, e205_15, e205_17, e205_18, e205_21, e205_23, e205_24, e205_26, e205_29, e205_30, e205_33, e205_35, e205_36, e205_37, e205_39, e205_40, e205_41, e205_42, e205_45, e205_46, e205_49, e205_51, e205_52, e205_53, e205_55, e205_56, e205_57, e205_59, e205_62, e205_63, e205_66, e205_67, e205_68, e205_70, e205_73, e205_76, e205_78, s59, s59_0, s59_1, s59_2, s59_3, s59_4, s59_5, s59_6, s59_7, s59_8, s59_9, s59_10, s59_11, s59_12, s59_13, s59_14, s59_15, s59_16, s59_17, s59_18, s59_19, s59_20, s59_21, s59_22, s59_23, s59_24, s59_25, s59_26, s59_27, s59_28, s59_29, s59_30, s59_31, r59_0, r59_1, r59_2, r59_3, r59_6, r59_8, r59_9, r59_13, r59_15, r59_16, r59_17, r59_19, r59_22, r59_23, r59_26, r59_30, r59_31, s60, s61, s62, s63, s64, s65, s66, s67, s68, s69, s70, s71, s72, s73, s74, s75, s76, w1, w2 j hj, c1, cj, ck, h1, e4, ce, e5, cf, sv, sw, h2, h3, a67 (show j < 50 by omega), a71 (show 40 * a + j < 160 by omega), a71 (show 40 * b + j < 160 by omega), nI_1, Int32.add_zero, am_bv_s, am_bw_s, eq_self, true_or, or_true, am_b0, am_b1, am_em, if_true, if_false, true_and, and_true, false_and, and_false, not_true_eq_false, not_false_eq_true, false_or, or_false, Bool.false_eq_true]
        · rw [cnt_s0 (fun q => h2 q.2.1)]
          simp only [e205_0, e205_1, e205_3, e205_4, e205_8, e205_9, e205_12, e205_15, e205_17, e205_18, e205_21, e205_23, e205_24, e205_26, e205_29, e205_30, e205_33, e205_35, e205_36, e205_37, e205_39, e205_40, e205_41, e205_42, e205_45, e205_46, e205_49, e205_51, e205_52, e205_53, e205_55, e205_56, e205_57, e205_59, e205_62, e205_63, e205_66, e205_67, e205_68, e205_70, e205_73, e205_76, e205_78, s59, s59_0, s59_1, s59_2, s59_3, s59_4, s59_5, s59_6, s59_7, s59_8, s59_9, s59_10, s59_11, s59_12, s59_13, s59_14, s59_15, s59_16, s59_17, s59_18, s59_19, s59_20, s59_21, s59_22, s59_23, s59_24, s59_25, s59_26, s59_27, s59_28, s59_29, s59_30, s59_31, r59_0, r59_1, r59_2, r59_3, r59_6, r59_8, r59_9, r59_13, r59_15, r59_16, r59_17, r59_19, r59_22, r59_23, r59_26, r59_30, r59_31, s60, s61, s62, s63, s64, s65, s66, s67, s68, s69, s70, s71, s72, s73, s74, s75, s76, w1, w2 j hj, c1, cj, ck, h1, e4, ce, sv, h2, a67 (show j < 50 by omega), a71 (show 40 * a + j < 160 by omega), nI_1, Int32.add_zero, am_bv_s, am_bw_s, eq_self, true_or, or_true, am_b0, am_b1, am_em, if_true, if_false, true_and, and_true, false_and, and_false, not_true_eq_false, not_false_eq_true, false_or, or_false, Bool.false_eq_true])
  subst g1
  have c1 : (nI (ps nb l).2.1 < nI (ps nb l).2.1) = False := eq_false (nI_nlt (Nat.le_refl _) (by omega))
  have e2 : am_e X 205 6 [some (.ref (59 : Nat)), some (.int (nI a)), some (.int (nI b)), some (.int u), some (.int v), some (.int (nI (cnt (fun w => (ps nb l).2.2 w ≠ 6 ∧ sd A tm a w = u ∧ sd A tm b w = v) (ps nb l).2.1))), some (.int (nI (ps nb l).2.1))] [] kS M' = some (some (.int (nI (bth nb l (sd A tm a) (sd A tm b) u v))), kS, M') := by
    rw [e205_6]
    simp only [e205_0, e205_1, e205_3, e205_4, e205_8, e205_9, e205_12, e205_15, e205_17, e205_18, e205_21, e205_23, e205_24, e205_26, e205_29, e205_30, e205_33, e205_35, e205_36, e205_37, e205_39, e205_40, e205_41, e205_42, e205_45, e205_46, e205_49, e205_51, e205_52, e205_53, e205_55, e205_56, e205_57, e205_59, e205_62, e205_63, e205_66, e205_67, e205_68, e205_70, e205_73, e205_76, e205_78, s59, s59_0, s59_1, s59_2, s59_3, s59_4, s59_5, s59_6, s59_7, s59_8, s59_9, s59_10, s59_11, s59_12, s59_13, s59_14, s59_15, s59_16, s59_17, s59_18, s59_19, s59_20, s59_21, s59_22, s59_23, s59_24, s59_25, s59_26, s59_27, s59_28, s59_29, s59_30, s59_31, r59_0, r59_1, r59_2, r59_3, r59_6, r59_8, r59_9, r59_13, r59_15, r59_16, r59_17, r59_19, r59_22, r59_23, r59_26, r59_30, r59_31, s60, s61, s62, s63, s64, s65, s66, s67, s68, s69, s70, s71, s72, s73, s74, s75, s76, w1, c1, bth, am_bv_s, am_bw_s, eq_self, true_or, or_true, am_b0, am_b1, am_em, if_true, if_false, true_and, and_true, false_and, and_false, not_true_eq_false, not_false_eq_true, false_or, or_false, Bool.false_eq_true]
  rw [e2] at e1
  rw [← e1]
  simp only [e205_0, e205_1, e205_3, e205_4, e205_8, e205_9, e205_12, e205_15, e205_17, e205_18, e205_21, e205_23, e205_24, e205_26, e205_29, e205_30, e205_33, e205_35, e205_36, e205_37, e205_39, e205_40, e205_41, e205_42, e205_45, e205_46, e205_49, e205_51, e205_52, e205_53, e205_55, e205_56, e205_57, e205_59, e205_62, e205_63, e205_66, e205_67, e205_68, e205_70, e205_73, e205_76, e205_78, am_bv_s, am_bw_s, eq_self, true_or, or_true, am_b0, am_b1, am_em, if_true, if_false, true_and, and_true, false_and, and_false, not_true_eq_false, not_false_eq_true, false_or, or_false, Bool.false_eq_true]
  rfl
theorem m_pairOf (hx : JM s M) (ho : okm s) {a b c : Nat} (ha : a < 4) (hb : b < 4) (hc : c < 4) : ∃ M', am_e X 206 0 [some (.ref (59 : Nat)), some (.int (nI a)), some (.int (nI b)), some (.int (nI c))] [] kS M = some (some (.int (nI (sPr s a b c))), kS, M') ∧ JM s M' ∧ am_of pmS M M' := by
  obtain ⟨M', r1, r2, r3⟩ := m_said (X := X) hx ho
  refine ⟨M', ?_, r2.1, r3⟩
  have y52 := hx.2.2.2.2.2.1
  have q := fun u v => m_both (X := X) (u := u) (v := v) ho r2 ha hb
  have x0 : (nI c = 0) = (c = 0) := propext (nI_eq (b := 0) (by omega) (by decide))
  have x1 : (nI c = 1) = (c = 1) := propext (nI_eq (b := 1) (by omega) (by decide))
  have x2 : (nI c = 2) = (c = 2) := propext (nI_eq (b := 2) (by omega) (by decide))
  have q00 := q 0 0
  have q01 := q 0 1
  have q10 := q 1 0
  have q11 := q 1 1
  by_cases h0 : c = 0
  · subst h0
    simp only [e206_0, e206_1, e206_2, e206_5, e206_8, e206_9, e206_10, e206_11, e206_12, e206_15, e206_16, e206_17, e206_20, e206_21, e206_24, e206_25, e206_26, e206_29, e206_30, e206_31, e206_34, e206_35, e206_38, e206_39, e206_42, s59, s59_0, s59_1, s59_2, s59_3, s59_4, s59_5, s59_6, s59_7, s59_8, s59_9, s59_10, s59_11, s59_12, s59_13, s59_14, s59_15, s59_16, s59_17, s59_18, s59_19, s59_20, s59_21, s59_22, s59_23, s59_24, s59_25, s59_26, s59_27, s59_28, s59_29, s59_30, s59_31, r59_0, r59_1, r59_2, r59_3, r59_6, r59_8, r59_9, r59_13, r59_15, r59_16, r59_17, r59_19, r59_22, r59_23, r59_26, r59_30, r59_31, s60, s61, s62, s63, s64, s65, s66, s67, s68, s69, s70, s71, s72, s73, s74, s75, s76, y52, r1, x0, q11, am_bv_s, am_bw_s, eq_self, true_or, or_true, am_b0, am_b1, am_em, if_true, if_false, true_and, and_true, false_and, and_false, not_true_eq_false, not_false_eq_true, false_or, or_false, Bool.false_eq_true]
    rfl
  · by_cases h1 : c = 1
    · subst h1
      have n0 : ((1 : Nat) = 0) = False := eq_false (by decide)
      have n2 : ((1 : Nat) = 2) = False := eq_false (by decide)
      simp only [e206_0, e206_1, e206_2, e206_5, e206_8, e206_9, e206_10, e206_11, e206_12, e206_15, e206_16, e206_17, e206_20, e206_21, e206_24, e206_25, e206_26, e206_29, e206_30, e206_31, e206_34, e206_35, e206_38, e206_39, e206_42, s59, s59_0, s59_1, s59_2, s59_3, s59_4, s59_5, s59_6, s59_7, s59_8, s59_9, s59_10, s59_11, s59_12, s59_13, s59_14, s59_15, s59_16, s59_17, s59_18, s59_19, s59_20, s59_21, s59_22, s59_23, s59_24, s59_25, s59_26, s59_27, s59_28, s59_29, s59_30, s59_31, r59_0, r59_1, r59_2, r59_3, r59_6, r59_8, r59_9, r59_13, r59_15, r59_16, r59_17, r59_19, r59_22, r59_23, r59_26, r59_30, r59_31, s60, s61, s62, s63, s64, s65, s66, s67, s68, s69, s70, s71, s72, s73, s74, s75, s76, y52, r1, x0, x1, x2, n0, n2, q10, am_bv_s, am_bw_s, eq_self, true_or, or_true, am_b0, am_b1, am_em, if_true, if_false, true_and, and_true, false_and, and_false, not_true_eq_false, not_false_eq_true, false_or, or_false, Bool.false_eq_true]
      rfl
    · by_cases h2 : c = 2
      · subst h2
        have n0 : ((2 : Nat) = 0) = False := eq_false (by decide)
        have n2 : ((2 : Nat) = 1) = False := eq_false (by decide)
        simp only [e206_0, e206_1, e206_2, e206_5, e206_8, e206_9, e206_10, e206_11, e206_12, e206_15, e206_16, e206_17, e206_20, e206_21, e206_24, e206_25, e206_26, e206_29, e206_30, e206_31, e206_34, e206_35, e206_38, e206_39, e206_42, s59, s59_0, s59_1, s59_2, s59_3, s59_4, s59_5, s59_6, s59_7, s59_8, s59_9, s59_10, s59_11, s59_12, s59_13, s59_14, s59_15, s59_16, s59_17, s59_18, s59_19, s59_20, s59_21, s59_22, s59_23, s59_24, s59_25, s59_26, s59_27, s59_28, s59_29, s59_30, s59_31, r59_0, r59_1, r59_2, r59_3, r59_6, r59_8, r59_9, r59_13, r59_15, r59_16, r59_17, r59_19, r59_22, r59_23, r59_26, r59_30, r59_31, s60, s61, s62, s63, s64, s65, s66, s67, s68, s69, s70, s71, s72, s73, s74, s75, s76, y52, r1, x0, x1, x2, n0, n2, q01, am_bv_s, am_bw_s, eq_self, true_or, or_true, am_b0, am_b1, am_em, if_true, if_false, true_and, and_true, false_and, and_false, not_true_eq_false, not_false_eq_true, false_or, or_false, Bool.false_eq_true]
        rfl
      · obtain rfl : c = 3 := by omega
        have n0 : ((3 : Nat) = 0) = False := eq_false (by decide)
        have n1 : ((3 : Nat) = 1) = False := eq_false (by decide)
        have n2 : ((3 : Nat) = 2) = False := eq_false (by decide)
        simp only [e206_0, e206_1, e206_2, e206_5, e206_8, e206_9, e206_10, e206_11, e206_12, e206_15, e206_16, e206_17, e206_20, e206_21, e206_24, e206_25, e206_26, e206_29, e206_30, e206_31, e206_34, e206_35, e206_38, e206_39, e206_42, s59, s59_0, s59_1, s59_2, s59_3, s59_4, s59_5, s59_6, s59_7, s59_8, s59_9, s59_10, s59_11, s59_12, s59_13, s59_14, s59_15, s59_16, s59_17, s59_18, s59_19, s59_20, s59_21, s59_22, s59_23, s59_24, s59_25, s59_26, s59_27, s59_28, s59_29, s59_30, s59_31, r59_0, r59_1, r59_2, r59_3, r59_6, r59_8, r59_9, r59_13, r59_15, r59_16, r59_17, r59_19, r59_22, r59_23, r59_26, r59_30, r59_31, s60, s61, s62, s63, s64, s65, s66, s67, s68, s69, s70, s71, s72, s73, s74, s75, s76, y52, r1, x0, x1, x2, n0, n1, n2, q00, am_bv_s, am_bw_s, eq_self, true_or, or_true, am_b0, am_b1, am_em, if_true, if_false, true_and, and_true, false_and, and_false, not_true_eq_false, not_false_eq_true, false_or, or_false, Bool.false_eq_true]
        rfl
theorem m_areTwo2 {a b : Int32} : am_e X 204 0 [some (.int a), some (.int b)] [] S M = some (some (.int (am_b (two a b))), S, M) := m_areTwo a b
theorem m_pair (hx : JM s M) (ho : okm s) (a b c : Int32) : ∃ M', am_e X 207 0 [some (.ref (59 : Nat)), some (.int a), some (.int b), some (.int c)] [] kS M = some (some (.int (sp_pair s a b c)), kS, M') ∧ JM s M' ∧ am_of pM M M' := by
  have i1 := m_areTwo2 (X := X) (S := kS) (M := M) (a := a) (b := b)
  have i2 := q_in (X := X) (S := kS) (M := M) c 0 3 (by decide : (0 : Int32).toInt64 = 0) (by decide : (3 : Int32).toInt64 = 3)
  unfold sp_pair
  by_cases h1 : two a b
  · rw [am_bt h1] at i1
    by_cases h2 : 0 ≤ c ∧ c ≤ 3
    · rw [am_bt h2] at i2
      rw [if_pos ⟨h1, h2⟩]
      obtain ⟨x1, hx1, rfl⟩ := in_n (n := 3) h1.1 (by decide)
      obtain ⟨x2, hx2, rfl⟩ := in_n (n := 3) h1.2.1 (by decide)
      obtain ⟨x3, hx3, rfl⟩ := in_n (n := 3) h2 (by decide)
      rw [nI_clamp (n := x1) (by omega), nI_clamp (n := x2) (by omega), nI_clamp (n := x3) (by omega)]
      obtain ⟨M', r1, r2, r3⟩ := m_pairOf (X := X) hx ho (show x1 < 4 by omega) (show x2 < 4 by omega) (show x3 < 4 by omega)
      refine ⟨M', ?_, r2, r3.mo fun a k q => pmS_M q⟩
      simp only [e207_0, e207_1, e207_2, e207_5, e207_8, e207_9, e207_10, e207_11, e207_14, e207_17, e207_20, e207_21, e207_22, e207_23, e207_24, e207_27, e207_30, e207_32, s59, s59_0, s59_1, s59_2, s59_3, s59_4, s59_5, s59_6, s59_7, s59_8, s59_9, s59_10, s59_11, s59_12, s59_13, s59_14, s59_15, s59_16, s59_17, s59_18, s59_19, s59_20, s59_21, s59_22, s59_23, s59_24, s59_25, s59_26, s59_27, s59_28, s59_29, s59_30, s59_31, r59_0, r59_1, r59_2, r59_3, r59_6, r59_8, r59_9, r59_13, r59_15, r59_16, r59_17, r59_19, r59_22, r59_23, r59_26, r59_30, r59_31, s60, s61, s62, s63, s64, s65, s66, s67, s68, s69, s70, s71, s72, s73, s74, s75, s76, i1, i2, z10, z01, z1m, zm1, z0m, zm0, r1, am_bv_s, am_bw_s, eq_self, true_or, or_true, am_b0, am_b1, am_em, if_true, if_false, true_and, and_true, false_and, and_false, not_true_eq_false, not_false_eq_true, false_or, or_false, Bool.false_eq_true]
    · rw [am_bf h2] at i2
      rw [if_neg (fun q => h2 q.2)]
      refine ⟨M, ?_, hx, am_of.rf⟩
      simp only [e207_0, e207_1, e207_2, e207_5, e207_8, e207_9, e207_10, e207_11, e207_14, e207_17, e207_20, e207_21, e207_22, e207_23, e207_24, e207_27, e207_30, e207_32, i1, i2, z10, z01, z1m, zm1, z0m, zm0, am_bv_s, am_bw_s, eq_self, true_or, or_true, am_b0, am_b1, am_em, if_true, if_false, true_and, and_true, false_and, and_false, not_true_eq_false, not_false_eq_true, false_or, or_false, Bool.false_eq_true]
  · rw [am_bf h1] at i1
    rw [if_neg (fun q => h1 q.1)]
    refine ⟨M, ?_, hx, am_of.rf⟩
    simp only [e207_0, e207_1, e207_2, e207_5, e207_8, e207_9, e207_10, e207_11, e207_14, e207_17, e207_20, e207_21, e207_22, e207_23, e207_24, e207_27, e207_30, e207_32, i1, am_bv_s, am_bw_s, eq_self, true_or, or_true, am_b0, am_b1, am_em, if_true, if_false, true_and, and_true, false_and, and_false, not_true_eq_false, not_false_eq_true, false_or, or_false, Bool.false_eq_true]
end
