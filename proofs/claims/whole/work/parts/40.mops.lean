/-! the reference as a whole; bands, books, the list -/
def JM (s : sgm) (M : am_Me) : Prop := mH s.1 M ∧ mD s.2.1 M ∧ mB s.2.2.1 M ∧ mL s.2.2.2.1 M ∧ mA s.2.2.2.2 M
/-- cells and fields of the reference that hold nothing from call to call -/
def pR (a k : Nat) : Prop := a ≤ 58 ∨ a = 63 ∨ a = 67 ∨ (71 ≤ a) ∨ (a = 59 ∧ (k = 11 ∨ k = 12 ∨ (18 < k)))
section
variable {X : am_X} {S : am_Sh} {M M' : am_Me} {P : Nat → Nat → Prop} {s : sgm}
theorem mD.of {d : sgD} (hx : mD d M) (ho : am_of P M M') (hP : ∀ a k, P a k → ¬ ((a = 59 ∧ k = 5) ∨ a = 64)) : mD d M' := ⟨((ho _ _ (fun z => hP _ _ z (Or.inl ⟨rfl, rfl⟩))).1).trans hx.1, fun b hb => ((ho _ _ (fun z => hP _ _ z (Or.inr rfl))).1).trans (hx.2 b hb)⟩
theorem mB.of {b : sgB} (hx : mB b M) (ho : am_of P M M') (hP : ∀ a k, P a k → ¬ ((a = 59 ∧ k = 7) ∨ a = 65)) : mB b M' := ⟨((ho _ _ (fun z => hP _ _ z (Or.inl ⟨rfl, rfl⟩))).1).trans hx.1, fun k hk d hd => ((ho _ _ (fun z => hP _ _ z (Or.inr rfl))).1).trans (hx.2 k hk d hd)⟩
theorem mA.of {A : sgA} (hx : mA A M) (ho : am_of P M M') (hP : ∀ a k, P a k → ¬ ((a = 59 ∧ (k = 14 ∨ k = 18)) ∨ a = 68 ∨ a = 69 ∨ a = 70)) : mA A M' := by
  have key : ∀ a k, ((a = 59 ∧ (k = 14 ∨ k = 18)) ∨ a = 68 ∨ a = 69 ∨ a = 70) → M'.1 a k = M.1 a k := fun a k q => (ho a k (fun z => hP a k z q)).1
  obtain ⟨h1, h2, h3⟩ := hx
  exact ⟨(key _ _ (by omega)).trans h1, (key _ _ (by omega)).trans h2, fun i hi => by
    obtain ⟨q1, q2, q3⟩ := h3 i hi
    exact ⟨(key _ _ (by omega)).trans q1, (key _ _ (by omega)).trans q2, (key _ _ (by omega)).trans q3⟩⟩
theorem JM.of (hx : JM s M) (ho : am_of P M M') (hP : ∀ a k, P a k → pR a k) : JM s M' := by
  obtain ⟨h1, h2, h3, h4, h5⟩ := hx
  refine ⟨?_, h2.of ho ?_, h3.of ho ?_, h4.of ho ?_, h5.of ho ?_⟩
  · refine ⟨((ho _ _ (fun z => by have q := hP _ _ z; unfold pR at q; omega)).1).trans h1.1, fun t ht => ?_⟩
    obtain ⟨q1, q2⟩ := h1.2 t ht
    exact ⟨((ho _ _ (fun z => by have q := hP _ _ z; unfold pR at q; omega)).1).trans q1, fun hl => ⟨((ho _ _ (fun z => by have q := hP _ _ z; unfold pR at q; omega)).1).trans (q2 hl).1, fun i hi => ((ho _ _ (fun z => by have q := hP _ _ z; unfold pR at q; omega)).1).trans ((q2 hl).2 i hi)⟩⟩
  all_goals
    intro a k z
    have q := hP a k z
    unfold pR at q
    omega
theorem JM.setH {h : sgH} (hx : JM s M) (hh : mH h M') (ho : am_of pmH M M') : JM (h, s.2) M' := by
  obtain ⟨h1, h2, h3, h4, h5⟩ := hx
  refine ⟨hh, h2.of ho ?_, h3.of ho ?_, h4.of ho ?_, h5.of ho ?_⟩
  all_goals
    intro a k q
    unfold pmH at q
    omega
theorem pmH_M {a k : Nat} (h : pmH a k) : pM a k := by unfold pmH at h; unfold pM; omega
theorem pmW_M {a k : Nat} (h : pmW a k) : pM a k := by unfold pmW at h; unfold pM; omega
theorem pmW_R {a k : Nat} (h : pmW a k) : pR a k := by unfold pmW at h; unfold pR; omega
theorem m_isBand2 {d : sgD} (hx : mD d M) (v : Int32) : am_e X 155 0 [some (.ref (59 : Nat)), some (.int v)] [] kS M = some (some (.int (am_b (0 ≤ v ∧ v ≤ nI d.1 - 1))), kS, M) := by
  rw [m_isBand, hx.1]
theorem m_isBook {b : sgB} (hx : mB b M) (v : Int32) : am_e X 156 0 [some (.ref (59 : Nat)), some (.int v)] [] kS M = some (some (.int (am_b (0 ≤ v ∧ v ≤ nI b.1 - 1))), kS, M) := by
  simp only [e156_0, e156_1, e156_2, e156_3, e156_4, e156_7, e156_8, e156_9, e156_10, e156_13, s59, s59_0, s59_1, s59_2, s59_3, s59_4, s59_5, s59_6, s59_7, s59_8, s59_9, s59_10, s59_11, s59_12, s59_13, s59_14, s59_15, s59_16, s59_17, s59_18, s59_19, s59_20, s59_21, s59_22, s59_23, s59_24, s59_25, s59_26, s59_27, s59_28, s59_29, s59_30, s59_31, r59_0, r59_1, r59_2, r59_3, r59_6, r59_8, r59_9, r59_13, r59_15, r59_16, r59_17, r59_19, r59_22, r59_23, r59_26, r59_30, r59_31, s60, s61, s62, s63, s64, s65, s66, s67, s68, s69, s70, s71, s72, s73, s74, s75, s76, hx.1, q_in v 0 (nI b.1 - 1) (by decide : (0 : Int32).toInt64 = 0) rfl, am_bv_s, am_bw_s, eq_self, true_or, or_true, am_b0, am_b1, am_em, if_true, if_false, true_and, and_true, false_and, and_false, not_true_eq_false, not_false_eq_true, false_or, or_false, Bool.false_eq_true]
theorem eq6 {n k : Nat} (h : n ≤ k) (hk : k < 2 ^ 31) : (nI n = nI k) = ¬ n < k := propext ⟨fun e => by have := (nI_eq (by omega) hk).mp e; omega, fun e => by rw [show n = k by omega]⟩
theorem m_band (hx : JM s M) (ho : okm s) (v : Int32) : ∃ M', am_e X 158 0 [some (.ref (59 : Nat)), some (.int v)] [] kS M = some (some (.int (sp_band s v).1), kS, M') ∧ JM (sp_band s v).2 M' ∧ am_of pM M M' := by
  have h6 := ho.2.1.1
  obtain ⟨d1, d2⟩ := hx.2.1
  have i1 := q_in (X := X) (S := kS) (M := M) v 1 99 (by decide : (1 : Int32).toInt64 = 1) (by decide : (99 : Int32).toInt64 = 99)
  have c1 : (nI s.2.1.1 = 6) = ¬ (s.2.1.1 < 6) := eq6 (k := 6) h6 (by decide)
  unfold sp_band
  by_cases h : 1 ≤ v ∧ v ≤ 99
  · rw [am_bt h] at i1
    rw [if_pos h]
    by_cases h1 : s.2.1.1 < 6
    · rw [if_pos h1]
      obtain ⟨k, hk, rfl⟩ := in_nat (x := v) (n := 99) (Int32.le_trans (by decide) h.1) h.2 (by decide)
      rw [nI_clamp (n := k) (by omega)]
      generalize hM1 : am_setI (am_setI M 64 s.2.1.1 (nI k)) 59 5 (nI (s.2.1.1 + 1)) = M1
      have of1 : am_of (fun a k => a = 64 ∨ (a = 59 ∧ k = 5)) M M1 := by rw [← hM1]; exact (am_of.rf.sI (Or.inl rfl)).sI (Or.inr ⟨rfl, rfl⟩)
      obtain ⟨y1, y2, y3, y4, y5⟩ := hx
      have e1 : ∀ z, (am_setI M 64 s.2.1.1 z).1 59 5 = nI s.2.1.1 := fun z => by rw [gI, if_neg (by omega)]; exact d1
      have e2 : M1.1 59 5 = nI (s.2.1.1 + 1) := by rw [← hM1, gI, if_pos ⟨rfl, rfl⟩]
      have e3 : nI (s.2.1.1 + 1) - 1 = nI s.2.1.1 := nI_m1 (by omega)
      have cl : (nI s.2.1.1).toNatClampNeg = s.2.1.1 := nI_clamp (by omega)
      refine ⟨M1, ?_, ⟨y1.of of1 (fun a k q => by unfold pmH; omega), ⟨e2, fun b hb => ?_⟩, y3.of of1 (fun a k q => by omega), y4.of of1 (fun a k q => by omega), y5.of of1 (fun a k q => by omega)⟩, of1.mo (fun a k q => by unfold pM; omega)⟩
      · simp only [e158_0, e158_1, e158_2, e158_3, e158_6, e158_9, e158_12, e158_14, e158_15, e158_16, e158_19, e158_21, e158_24, e158_26, e158_27, e158_28, e158_31, e158_32, e158_35, e158_36, e158_37, e158_38, e158_39, e158_42, e158_43, e158_44, e158_47, e158_48, e158_51, e158_52, e158_53, s59, s59_0, s59_1, s59_2, s59_3, s59_4, s59_5, s59_6, s59_7, s59_8, s59_9, s59_10, s59_11, s59_12, s59_13, s59_14, s59_15, s59_16, s59_17, s59_18, s59_19, s59_20, s59_21, s59_22, s59_23, s59_24, s59_25, s59_26, s59_27, s59_28, s59_29, s59_30, s59_31, r59_0, r59_1, r59_2, r59_3, r59_6, r59_8, r59_9, r59_13, r59_15, r59_16, r59_17, r59_19, r59_22, r59_23, r59_26, r59_30, r59_31, s60, s61, s62, s63, s64, s65, s66, s67, s68, s69, s70, s71, s72, s73, s74, s75, s76, i1, z10, z01, z1m, zm1, z0m, zm0, d1, c1, h1, e1, e2, e3, cl, nI_1, hM1, a64 h1, am_bv_s, am_bw_s, eq_self, true_or, or_true, am_b0, am_b1, am_em, if_true, if_false, true_and, and_true, false_and, and_false, not_true_eq_false, not_false_eq_true, false_or, or_false, Bool.false_eq_true]
      · have hb' : b < s.2.1.1 + 1 := hb
        dsimp only
        rw [← hM1, gI, if_neg (by omega), gI]
        by_cases e : b = s.2.1.1
        · rw [if_pos ⟨rfl, e⟩, if_pos e]
        · rw [if_neg (fun q => e q.2), if_neg e]; exact d2 b (by omega)
    · rw [if_neg h1]
      refine ⟨M, ?_, hx, am_of.rf⟩
      simp only [e158_0, e158_1, e158_2, e158_3, e158_6, e158_9, e158_12, e158_14, e158_15, e158_16, e158_19, e158_21, e158_24, e158_26, e158_27, e158_28, e158_31, e158_32, e158_35, e158_36, e158_37, e158_38, e158_39, e158_42, e158_43, e158_44, e158_47, e158_48, e158_51, e158_52, e158_53, s59, s59_0, s59_1, s59_2, s59_3, s59_4, s59_5, s59_6, s59_7, s59_8, s59_9, s59_10, s59_11, s59_12, s59_13, s59_14, s59_15, s59_16, s59_17, s59_18, s59_19, s59_20, s59_21, s59_22, s59_23, s59_24, s59_25, s59_26, s59_27, s59_28, s59_29, s59_30, s59_31, r59_0, r59_1, r59_2, r59_3, r59_6, r59_8, r59_9, r59_13, r59_15, r59_16, r59_17, r59_19, r59_22, r59_23, r59_26, r59_30, r59_31, s60, s61, s62, s63, s64, s65, s66, s67, s68, s69, s70, s71, s72, s73, s74, s75, s76, i1, z10, z01, z1m, zm1, z0m, zm0, d1, c1, h1, am_bv_s, am_bw_s, eq_self, true_or, or_true, am_b0, am_b1, am_em, if_true, if_false, true_and, and_true, false_and, and_false, not_true_eq_false, not_false_eq_true, false_or, or_false, Bool.false_eq_true]
  · rw [am_bf h] at i1
    rw [if_neg h]
    refine ⟨M, ?_, hx, am_of.rf⟩
    simp only [e158_0, e158_1, e158_2, e158_3, e158_6, e158_9, e158_12, e158_14, e158_15, e158_16, e158_19, e158_21, e158_24, e158_26, e158_27, e158_28, e158_31, e158_32, e158_35, e158_36, e158_37, e158_38, e158_39, e158_42, e158_43, e158_44, e158_47, e158_48, e158_51, e158_52, e158_53, i1, am_bv_s, am_bw_s, eq_self, true_or, or_true, am_b0, am_b1, am_em, if_true, if_false, true_and, and_true, false_and, and_false, not_true_eq_false, not_false_eq_true, false_or, or_false, Bool.false_eq_true]
theorem m_book (hx : JM s M) (ho : okm s) : ∃ M', am_e X 159 0 [some (.ref (59 : Nat))] [] kS M = some (some (.int (sp_book s).1), kS, M') ∧ JM (sp_book s).2 M' ∧ am_of pM M M' := by
  have h6 := ho.2.2.1.1
  have hx0 := hx
  obtain ⟨y1, y2, y3, y4, y5⟩ := hx
  obtain ⟨d1, d2⟩ := y3
  have c1 : (nI s.2.2.1.1 = 6) = ¬ (s.2.2.1.1 < 6) := eq6 (k := 6) h6 (by decide)
  unfold sp_book
  by_cases h1 : s.2.2.1.1 < 6
  · rw [if_pos h1]
    generalize hM1 : am_setI M 59 7 (nI (s.2.2.1.1 + 1)) = M1
    have of1 : am_of (fun a k => a = 59 ∧ k = 7) M M1 := by rw [← hM1]; exact am_of.rf.sI ⟨rfl, rfl⟩
    have e2 : M1.1 59 7 = nI (s.2.2.1.1 + 1) := by rw [← hM1, gI, if_pos ⟨rfl, rfl⟩]
    have e3 : nI (s.2.2.1.1 + 1) - 1 = nI s.2.2.1.1 := nI_m1 (by omega)
    refine ⟨M1, ?_, ⟨y1.of of1 (fun a k q => by unfold pmH; omega), y2.of of1 (fun a k q => by omega), ⟨e2, fun k hk d hd => ?_⟩, y4.of of1 (fun a k q => by omega), y5.of of1 (fun a k q => by omega)⟩, of1.mo (fun a k q => by unfold pM; omega)⟩
    · simp only [e159_0, e159_1, e159_4, e159_6, e159_9, e159_11, e159_12, e159_13, e159_14, e159_17, e159_18, e159_19, e159_22, e159_23, e159_26, e159_27, e159_28, s59, s59_0, s59_1, s59_2, s59_3, s59_4, s59_5, s59_6, s59_7, s59_8, s59_9, s59_10, s59_11, s59_12, s59_13, s59_14, s59_15, s59_16, s59_17, s59_18, s59_19, s59_20, s59_21, s59_22, s59_23, s59_24, s59_25, s59_26, s59_27, s59_28, s59_29, s59_30, s59_31, r59_0, r59_1, r59_2, r59_3, r59_6, r59_8, r59_9, r59_13, r59_15, r59_16, r59_17, r59_19, r59_22, r59_23, r59_26, r59_30, r59_31, s60, s61, s62, s63, s64, s65, s66, s67, s68, s69, s70, s71, s72, s73, s74, s75, s76, d1, c1, h1, nI_1, hM1, e2, e3, am_bv_s, am_bw_s, eq_self, true_or, or_true, am_b0, am_b1, am_em, if_true, if_false, true_and, and_true, false_and, and_false, not_true_eq_false, not_false_eq_true, false_or, or_false, Bool.false_eq_true]
    · rw [(of1 _ _ (by omega)).1]; exact d2 k hk d hd
  · rw [if_neg h1]
    refine ⟨M, ?_, hx0, am_of.rf⟩
    simp only [e159_0, e159_1, e159_4, e159_6, e159_9, e159_11, e159_12, e159_13, e159_14, e159_17, e159_18, e159_19, e159_22, e159_23, e159_26, e159_27, e159_28, s59, s59_0, s59_1, s59_2, s59_3, s59_4, s59_5, s59_6, s59_7, s59_8, s59_9, s59_10, s59_11, s59_12, s59_13, s59_14, s59_15, s59_16, s59_17, s59_18, s59_19, s59_20, s59_21, s59_22, s59_23, s59_24, s59_25, s59_26, s59_27, s59_28, s59_29, s59_30, s59_31, r59_0, r59_1, r59_2, r59_3, r59_6, r59_8, r59_9, r59_13, r59_15, r59_16, r59_17, r59_19, r59_22, r59_23, r59_26, r59_30, r59_31, s60, s61, s62, s63, s64, s65, s66, s67, s68, s69, s70, s71, s72, s73, s74, s75, s76, d1, c1, h1, am_bv_s, am_bw_s, eq_self, true_or, or_true, am_b0, am_b1, am_em, if_true, if_false, true_and, and_true, false_and, and_false, not_true_eq_false, not_false_eq_true, false_or, or_false, Bool.false_eq_true]
theorem m_run (hx : JM s M) (ho : okm s) (k d v : Int32) : ∃ M', am_e X 160 0 [some (.ref (59 : Nat)), some (.int k), some (.int d), some (.int v), none] [] kS M = some (some (.int (sp_run s k d v).1), kS, M') ∧ JM (sp_run s k d v).2 M' ∧ am_of pM M M' := by
  have h6 := ho.2.2.1.1
  have hx0 := hx
  obtain ⟨y1, y2, y3, y4, y5⟩ := hx
  have i0 := m_isBook (X := X) y3 k
  have i1 := q_in (X := X) (S := kS) (M := M) d 0 5 (by decide : (0 : Int32).toInt64 = 0) (by decide : (5 : Int32).toInt64 = 5)
  have i2 := q_in (X := X) (S := kS) (M := M) v 0 99 (by decide : (0 : Int32).toInt64 = 0) (by decide : (99 : Int32).toInt64 = 99)
  unfold sp_run
  by_cases h1 : 0 ≤ k ∧ k ≤ nI s.2.2.1.1 - 1
  · rw [am_bt h1] at i0
    by_cases h2 : 0 ≤ d ∧ d ≤ 5
    · rw [am_bt h2] at i1
      by_cases h3 : 0 ≤ v ∧ v ≤ 99
      · rw [am_bt h3] at i2
        rw [if_pos ⟨h1, h2, h3⟩]
        obtain ⟨kn, hkn, rfl⟩ := (pred_le (by omega)).mp h1
        obtain ⟨dn, hdn, rfl⟩ := in_n (n := 5) h2 (by decide)
        obtain ⟨vn, hvn, rfl⟩ := in_n (n := 99) h3 (by decide)
        have k6 : kn < 6 := by omega
        have d6 : dn < 6 := by omega
        have e6 : (6 : Int32) * nI kn + nI dn = nI (6 * kn + dn) := by rw [show (6 : Int32) * nI kn = nI (6 * kn) from pk_mul 6 kn, nI_add]
        have ce : (nI (6 * kn + dn)).toNatClampNeg = 6 * kn + dn := nI_clamp (by omega)
        rw [nI_clamp (n := kn) (by omega), nI_clamp (n := dn) (by omega), nI_clamp (n := vn) (by omega)]
        have of1 : am_of (fun a _ => a = 65) M (am_setI M 65 (6 * kn + dn) (nI vn)) := am_of.rf.sI rfl
        refine ⟨am_setI M 65 (6 * kn + dn) (nI vn), ?_, ⟨y1.of of1 (fun a k q => by unfold pmH; omega), y2.of of1 (fun a k q => by omega), ⟨?_, fun a ha b hb => ?_⟩, y4.of of1 (fun a k q => by omega), y5.of of1 (fun a k q => by omega)⟩, of1.mo (fun a k q => by unfold pM; omega)⟩
        · simp only [e160_0, e160_1, e160_2, e160_5, e160_8, e160_9, e160_10, e160_11, e160_14, e160_17, e160_20, e160_21, e160_22, e160_23, e160_26, e160_29, e160_32, e160_34, e160_35, e160_36, e160_39, e160_41, e160_42, e160_43, e160_44, e160_45, e160_46, e160_48, e160_49, e160_52, e160_54, e160_55, e160_56, e160_57, e160_58, e160_59, e160_60, e160_62, s59, s59_0, s59_1, s59_2, s59_3, s59_4, s59_5, s59_6, s59_7, s59_8, s59_9, s59_10, s59_11, s59_12, s59_13, s59_14, s59_15, s59_16, s59_17, s59_18, s59_19, s59_20, s59_21, s59_22, s59_23, s59_24, s59_25, s59_26, s59_27, s59_28, s59_29, s59_30, s59_31, r59_0, r59_1, r59_2, r59_3, r59_6, r59_8, r59_9, r59_13, r59_15, r59_16, r59_17, r59_19, r59_22, r59_23, r59_26, r59_30, r59_31, s60, s61, s62, s63, s64, s65, s66, s67, s68, s69, s70, s71, s72, s73, s74, s75, s76, i0, i1, i2, z10, z01, z1m, zm1, z0m, zm0, e6, ce, y3.2 kn k6 dn d6, a65 (show 6 * kn + dn < 36 by omega), am_bv_s, am_bw_s, eq_self, true_or, or_true, am_b0, am_b1, am_em, if_true, if_false, true_and, and_true, false_and, and_false, not_true_eq_false, not_false_eq_true, false_or, or_false, Bool.false_eq_true]
        · rw [gI, if_neg (by omega)]; exact y3.1
        · rw [gI]
          dsimp only
          by_cases e : a = kn ∧ b = dn
          · rw [if_pos (by omega), if_pos e]
          · rw [if_neg (by omega), if_neg e]; exact y3.2 a ha b hb
      · rw [am_bf h3] at i2
        rw [if_neg (fun q => h3 q.2.2)]
        refine ⟨M, ?_, hx0, am_of.rf⟩
        simp only [e160_0, e160_1, e160_2, e160_5, e160_8, e160_9, e160_10, e160_11, e160_14, e160_17, e160_20, e160_21, e160_22, e160_23, e160_26, e160_29, e160_32, e160_34, e160_35, e160_36, e160_39, e160_41, e160_42, e160_43, e160_44, e160_45, e160_46, e160_48, e160_49, e160_52, e160_54, e160_55, e160_56, e160_57, e160_58, e160_59, e160_60, e160_62, s59, s59_0, s59_1, s59_2, s59_3, s59_4, s59_5, s59_6, s59_7, s59_8, s59_9, s59_10, s59_11, s59_12, s59_13, s59_14, s59_15, s59_16, s59_17, s59_18, s59_19, s59_20, s59_21, s59_22, s59_23, s59_24, s59_25, s59_26, s59_27, s59_28, s59_29, s59_30, s59_31, r59_0, r59_1, r59_2, r59_3, r59_6, r59_8, r59_9, r59_13, r59_15, r59_16, r59_17, r59_19, r59_22, r59_23, r59_26, r59_30, r59_31, s60, s61, s62, s63, s64, s65, s66, s67, s68, s69, s70, s71, s72, s73, s74, s75, s76, i0, i1, i2, z10, z01, z1m, zm1, z0m, zm0, am_bv_s, am_bw_s, eq_self, true_or, or_true, am_b0, am_b1, am_em, if_true, if_false, true_and, and_true, false_and, and_false, not_true_eq_false, not_false_eq_true, false_or, or_false, Bool.false_eq_true]
    · rw [am_bf h2] at i1
      rw [if_neg (fun q => h2 q.2.1)]
      refine ⟨M, ?_, hx0, am_of.rf⟩
      simp only [e160_0, e160_1, e160_2, e160_5, e160_8, e160_9, e160_10, e160_11, e160_14, e160_17, e160_20, e160_21, e160_22, e160_23, e160_26, e160_29, e160_32, e160_34, e160_35, e160_36, e160_39, e160_41, e160_42, e160_43, e160_44, e160_45, e160_46, e160_48, e160_49, e160_52, e160_54, e160_55, e160_56, e160_57, e160_58, e160_59, e160_60, e160_62, s59, s59_0, s59_1, s59_2, s59_3, s59_4, s59_5, s59_6, s59_7, s59_8, s59_9, s59_10, s59_11, s59_12, s59_13, s59_14, s59_15, s59_16, s59_17, s59_18, s59_19, s59_20, s59_21, s59_22, s59_23, s59_24, s59_25, s59_26, s59_27, s59_28, s59_29, s59_30, s59_31, r59_0, r59_1, r59_2, r59_3, r59_6, r59_8, r59_9, r59_13, r59_15, r59_16, r59_17, r59_19, r59_22, r59_23, r59_26, r59_30, r59_31, s60, s61, s62, s63, s64, s65, s66, s67, s68, s69, s70, s71, s72, s73, s74, s75, s76, i0, i1, z10, z01, z1m, zm1, z0m, zm0, am_bv_s, am_bw_s, eq_self, true_or, or_true, am_b0, am_b1, am_em, if_true, if_false, true_and, and_true, false_and, and_false, not_true_eq_false, not_false_eq_true, false_or, or_false, Bool.false_eq_true]
  · rw [am_bf h1] at i0
    rw [if_neg (fun q => h1 q.1)]
    refine ⟨M, ?_, hx0, am_of.rf⟩
    simp only [e160_0, e160_1, e160_2, e160_5, e160_8, e160_9, e160_10, e160_11, e160_14, e160_17, e160_20, e160_21, e160_22, e160_23, e160_26, e160_29, e160_32, e160_34, e160_35, e160_36, e160_39, e160_41, e160_42, e160_43, e160_44, e160_45, e160_46, e160_48, e160_49, e160_52, e160_54, e160_55, e160_56, e160_57, e160_58, e160_59, e160_60, e160_62, s59, s59_0, s59_1, s59_2, s59_3, s59_4, s59_5, s59_6, s59_7, s59_8, s59_9, s59_10, s59_11, s59_12, s59_13, s59_14, s59_15, s59_16, s59_17, s59_18, s59_19, s59_20, s59_21, s59_22, s59_23, s59_24, s59_25, s59_26, s59_27, s59_28, s59_29, s59_30, s59_31, r59_0, r59_1, r59_2, r59_3, r59_6, r59_8, r59_9, r59_13, r59_15, r59_16, r59_17, r59_19, r59_22, r59_23, r59_26, r59_30, r59_31, s60, s61, s62, s63, s64, s65, s66, s67, s68, s69, s70, s71, s72, s73, s74, s75, s76, i0, am_bv_s, am_bw_s, eq_self, true_or, or_true, am_b0, am_b1, am_em, if_true, if_false, true_and, and_true, false_and, and_false, not_true_eq_false, not_false_eq_true, false_or, or_false, Bool.false_eq_true]
end
