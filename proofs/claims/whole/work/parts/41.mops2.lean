/-! the reference: type, wipe, fault, word, answer, asOf -/
section
variable {X : am_X} {S : am_Sh} {M M' : am_Me} {P : Nat → Nat → Prop} {s : sgm}
theorem m_type (hx : JM s M) (ho : okm s) (v : Int32) : ∃ M', am_e X 161 0 [some (.ref (59 : Nat)), some (.int v)] [] kS M = some (some (.int (sp_type s v).1), kS, M') ∧ JM (sp_type s v).2 M' ∧ am_of pM M M' := by
  have h80 := ho.2.2.2.1.1
  obtain ⟨d1, d2⟩ := hx.2.2.2.1
  have c1 : (nI s.2.2.2.1.1 = 80) = ¬ (s.2.2.2.1.1 < 80) := eq6 (k := 80) h80 (by decide)
  have ii := q_in (X := X) (S := kS) (M := M) v 0 255 (by decide : (0 : Int32).toInt64 = 0) (by decide : (255 : Int32).toInt64 = 255)
  unfold sp_type
  by_cases h : 0 ≤ v ∧ v ≤ 255
  · rw [am_bt h] at ii
    rw [if_pos h]
    by_cases h1 : s.2.2.2.1.1 < 80
    · rw [if_pos h1]
      obtain ⟨k, hk, rfl⟩ := in_n (n := 255) h (by decide)
      rw [nI_clamp (n := k) (by omega)]
      generalize hM1 : am_setI (am_setI M 66 s.2.2.2.1.1 (nI k)) 59 10 (nI (s.2.2.2.1.1 + 1)) = M1
      have of1 : am_of (fun a k => a = 66 ∨ (a = 59 ∧ k = 10)) M M1 := by rw [← hM1]; exact (am_of.rf.sI (Or.inl rfl)).sI (Or.inr ⟨rfl, rfl⟩)
      obtain ⟨y1, y2, y3, y4, y5⟩ := hx
      have e2 : M1.1 59 10 = nI (s.2.2.2.1.1 + 1) := by rw [← hM1, gI, if_pos ⟨rfl, rfl⟩]
      have e1 : ∀ z, (am_setI M 66 s.2.2.2.1.1 z).1 59 10 = nI s.2.2.2.1.1 := fun z => by rw [gI, if_neg (by omega)]; exact d1
      have cl : (nI s.2.2.2.1.1).toNatClampNeg = s.2.2.2.1.1 := nI_clamp (by omega)
      refine ⟨M1, ?_, ⟨y1.of of1 (fun a k q => by unfold pmH; omega), y2.of of1 (fun a k q => by omega), y3.of of1 (fun a k q => by omega), ⟨e2, fun b hb => ?_⟩, y5.of of1 (fun a k q => by omega)⟩, of1.mo (fun a k q => by unfold pM; omega)⟩
      · simp only [e161_0, e161_1, e161_2, e161_3, e161_6, e161_9, e161_12, e161_14, e161_15, e161_16, e161_19, e161_21, e161_24, e161_26, e161_27, e161_28, e161_31, e161_32, e161_35, e161_36, e161_37, e161_38, e161_39, e161_42, e161_43, e161_44, e161_47, e161_48, e161_51, s59, s59_0, s59_1, s59_2, s59_3, s59_4, s59_5, s59_6, s59_7, s59_8, s59_9, s59_10, s59_11, s59_12, s59_13, s59_14, s59_15, s59_16, s59_17, s59_18, s59_19, s59_20, s59_21, s59_22, s59_23, s59_24, s59_25, s59_26, s59_27, s59_28, s59_29, s59_30, s59_31, r59_0, r59_1, r59_2, r59_3, r59_6, r59_8, r59_9, r59_13, r59_15, r59_16, r59_17, r59_19, r59_22, r59_23, r59_26, r59_30, r59_31, s60, s61, s62, s63, s64, s65, s66, s67, s68, s69, s70, s71, s72, s73, s74, s75, s76, ii, z10, z01, z1m, zm1, z0m, zm0, d1, c1, h1, e1, e2, cl, nI_1, hM1, a66 h1, am_bv_s, am_bw_s, eq_self, true_or, or_true, am_b0, am_b1, am_em, if_true, if_false, true_and, and_true, false_and, and_false, not_true_eq_false, not_false_eq_true, false_or, or_false, Bool.false_eq_true]
      · have hb' : b < s.2.2.2.1.1 + 1 := hb
        dsimp only
        rw [← hM1, gI, if_neg (by omega), gI]
        by_cases e : b = s.2.2.2.1.1
        · rw [if_pos ⟨rfl, e⟩, if_pos e]
        · rw [if_neg (fun q => e q.2), if_neg e]; exact d2 b (by omega)
    · rw [if_neg h1]
      refine ⟨M, ?_, hx, am_of.rf⟩
      simp only [e161_0, e161_1, e161_2, e161_3, e161_6, e161_9, e161_12, e161_14, e161_15, e161_16, e161_19, e161_21, e161_24, e161_26, e161_27, e161_28, e161_31, e161_32, e161_35, e161_36, e161_37, e161_38, e161_39, e161_42, e161_43, e161_44, e161_47, e161_48, e161_51, s59, s59_0, s59_1, s59_2, s59_3, s59_4, s59_5, s59_6, s59_7, s59_8, s59_9, s59_10, s59_11, s59_12, s59_13, s59_14, s59_15, s59_16, s59_17, s59_18, s59_19, s59_20, s59_21, s59_22, s59_23, s59_24, s59_25, s59_26, s59_27, s59_28, s59_29, s59_30, s59_31, r59_0, r59_1, r59_2, r59_3, r59_6, r59_8, r59_9, r59_13, r59_15, r59_16, r59_17, r59_19, r59_22, r59_23, r59_26, r59_30, r59_31, s60, s61, s62, s63, s64, s65, s66, s67, s68, s69, s70, s71, s72, s73, s74, s75, s76, ii, z10, z01, z1m, zm1, z0m, zm0, d1, c1, h1, am_bv_s, am_bw_s, eq_self, true_or, or_true, am_b0, am_b1, am_em, if_true, if_false, true_and, and_true, false_and, and_false, not_true_eq_false, not_false_eq_true, false_or, or_false, Bool.false_eq_true]
  · rw [am_bf h] at ii
    rw [if_neg h]
    refine ⟨M, ?_, hx, am_of.rf⟩
    simp only [e161_0, e161_1, e161_2, e161_3, e161_6, e161_9, e161_12, e161_14, e161_15, e161_16, e161_19, e161_21, e161_24, e161_26, e161_27, e161_28, e161_31, e161_32, e161_35, e161_36, e161_37, e161_38, e161_39, e161_42, e161_43, e161_44, e161_47, e161_48, e161_51, ii, am_bv_s, am_bw_s, eq_self, true_or, or_true, am_b0, am_b1, am_em, if_true, if_false, true_and, and_true, false_and, and_false, not_true_eq_false, not_false_eq_true, false_or, or_false, Bool.false_eq_true]
theorem m_wipe (hx : JM s M) (ho : okm s) : ∃ M', am_e X 162 0 [some (.ref (59 : Nat)), none] [] kS M = some (some (.int (sp_wipe s).1), kS, M') ∧ JM (sp_wipe s).2 M' ∧ am_of pM M M' := by
  obtain ⟨y1, y2, y3, y4, y5⟩ := hx
  have of1 : am_of (fun a k => a = 59 ∧ k = 10) M (am_setI M 59 10 0) := am_of.rf.sI ⟨rfl, rfl⟩
  refine ⟨am_setI M 59 10 0, ?_, ⟨y1.of of1 (fun a k q => by unfold pmH; omega), y2.of of1 (fun a k q => by omega), y3.of of1 (fun a k q => by omega), ⟨by rw [gI, if_pos ⟨rfl, rfl⟩]; rfl, fun b hb => absurd hb (Nat.not_lt_zero _)⟩, y5.of of1 (fun a k q => by omega)⟩, of1.mo (fun a k q => by unfold pM; omega)⟩
  simp only [e162_0, e162_1, e162_4, e162_5, e162_6, e162_7, e162_10, e162_11, s59, s59_0, s59_1, s59_2, s59_3, s59_4, s59_5, s59_6, s59_7, s59_8, s59_9, s59_10, s59_11, s59_12, s59_13, s59_14, s59_15, s59_16, s59_17, s59_18, s59_19, s59_20, s59_21, s59_22, s59_23, s59_24, s59_25, s59_26, s59_27, s59_28, s59_29, s59_30, s59_31, r59_0, r59_1, r59_2, r59_3, r59_6, r59_8, r59_9, r59_13, r59_15, r59_16, r59_17, r59_19, r59_22, r59_23, r59_26, r59_30, r59_31, s60, s61, s62, s63, s64, s65, s66, s67, s68, s69, s70, s71, s72, s73, s74, s75, s76, y4.1, sp_wipe, am_bv_s, am_bw_s, eq_self, true_or, or_true, am_b0, am_b1, am_em, if_true, if_false, true_and, and_true, false_and, and_false, not_true_eq_false, not_false_eq_true, false_or, or_false, Bool.false_eq_true]
/-- the list read, and the state kept -/
theorem JM.reads (hx : JM s M) (ho : okm s) : ∃ M', am_e X 166 0 [some (.ref (59 : Nat)), none] [] kS M = some (some (.int (sp_fault s)), kS, M') ∧ JM s M' ∧ mW s.2.1.1 s.2.2.2.1 M' ∧ am_of pmW M M' := by
  obtain ⟨M', r1, r2, r3⟩ := m_reads (X := X) ho.2.1.1 ho.2.2.2.1 hx.2.2.2.1 hx.2.1.1
  exact ⟨M', r1, hx.of r3 (fun a k q => pmW_R q), r2, r3⟩
theorem m_fault (hx : JM s M) (ho : okm s) : ∃ M', am_e X 167 0 [some (.ref (59 : Nat))] [] kS M = some (some (.int (sp_fault s)), kS, M') ∧ JM s M' ∧ am_of pM M M' := by
  obtain ⟨M', r1, r2, r3, r4⟩ := JM.reads (X := X) hx ho
  refine ⟨M', ?_, r2, r4.mo fun a k q => pmW_M q⟩
  simp only [e167_0, e167_1, e167_4, s59, s59_0, s59_1, s59_2, s59_3, s59_4, s59_5, s59_6, s59_7, s59_8, s59_9, s59_10, s59_11, s59_12, s59_13, s59_14, s59_15, s59_16, s59_17, s59_18, s59_19, s59_20, s59_21, s59_22, s59_23, s59_24, s59_25, s59_26, s59_27, s59_28, s59_29, s59_30, s59_31, r59_0, r59_1, r59_2, r59_3, r59_6, r59_8, r59_9, r59_13, r59_15, r59_16, r59_17, r59_19, r59_22, r59_23, r59_26, r59_30, r59_31, s60, s61, s62, s63, s64, s65, s66, s67, s68, s69, s70, s71, s72, s73, s74, s75, s76, r1, am_bv_s, am_bw_s, eq_self, true_or, or_true, am_b0, am_b1, am_em, if_true, if_false, true_and, and_true, false_and, and_false, not_true_eq_false, not_false_eq_true, false_or, or_false, Bool.false_eq_true]
theorem m_word (hx : JM s M) (ho : okm s) (v : Int32) : ∃ M', am_e X 169 0 [some (.ref (59 : Nat)), some (.int v)] [] kS M = some (some (.int (sp_word s v)), kS, M') ∧ JM s M' ∧ am_of pM M M' := by
  have h40 := ps_le (l := s.2.2.2.1) ho.2.1.1
  have ii := m_isWord (X := X) (S := kS) (M := M) v
  unfold sp_word
  by_cases h : 0 ≤ v ∧ v ≤ 39
  · rw [am_bt h] at ii
    rw [if_pos h]
    obtain ⟨M', r1, r2, r3, r4⟩ := JM.reads (X := X) hx ho
    refine ⟨M', ?_, r2, r4.mo fun a k q => pmW_M q⟩
    obtain ⟨k, hk, rfl⟩ := in_n (n := 39) h (by decide)
    rw [nI_clamp (n := k) (by omega)]
    have cl : (nI k).toNatClampNeg = k := nI_clamp (by omega)
    have c1 : (nI k < nI (ps s.2.1.1 s.2.2.2.1).2.1) = (k < (ps s.2.1.1 s.2.2.2.1).2.1) := ok_lt (by omega) (by omega)
    by_cases h1 : k < (ps s.2.1.1 s.2.2.2.1).2.1
    · rw [if_pos h1]
      simp only [e169_0, e169_1, e169_4, e169_7, e169_9, e169_10, e169_11, e169_14, e169_15, e169_16, e169_17, e169_20, e169_23, e169_24, e169_27, e169_28, e169_29, e169_32, e169_33, s59, s59_0, s59_1, s59_2, s59_3, s59_4, s59_5, s59_6, s59_7, s59_8, s59_9, s59_10, s59_11, s59_12, s59_13, s59_14, s59_15, s59_16, s59_17, s59_18, s59_19, s59_20, s59_21, s59_22, s59_23, s59_24, s59_25, s59_26, s59_27, s59_28, s59_29, s59_30, s59_31, r59_0, r59_1, r59_2, r59_3, r59_6, r59_8, r59_9, r59_13, r59_15, r59_16, r59_17, r59_19, r59_22, r59_23, r59_26, r59_30, r59_31, s60, s61, s62, s63, s64, s65, s66, s67, s68, s69, s70, s71, s72, s73, s74, s75, s76, ii, z10, z01, z1m, zm1, z0m, zm0, r1, r3.1, c1, h1, cl, r3.2 k h1, a67 (show k < 50 by omega), am_bv_s, am_bw_s, eq_self, true_or, or_true, am_b0, am_b1, am_em, if_true, if_false, true_and, and_true, false_and, and_false, not_true_eq_false, not_false_eq_true, false_or, or_false, Bool.false_eq_true]
    · rw [if_neg h1]
      simp only [e169_0, e169_1, e169_4, e169_7, e169_9, e169_10, e169_11, e169_14, e169_15, e169_16, e169_17, e169_20, e169_23, e169_24, e169_27, e169_28, e169_29, e169_32, e169_33, s59, s59_0, s59_1, s59_2, s59_3, s59_4, s59_5, s59_6, s59_7, s59_8, s59_9, s59_10, s59_11, s59_12, s59_13, s59_14, s59_15, s59_16, s59_17, s59_18, s59_19, s59_20, s59_21, s59_22, s59_23, s59_24, s59_25, s59_26, s59_27, s59_28, s59_29, s59_30, s59_31, r59_0, r59_1, r59_2, r59_3, r59_6, r59_8, r59_9, r59_13, r59_15, r59_16, r59_17, r59_19, r59_22, r59_23, r59_26, r59_30, r59_31, s60, s61, s62, s63, s64, s65, s66, s67, s68, s69, s70, s71, s72, s73, s74, s75, s76, ii, z10, z01, z1m, zm1, z0m, zm0, r1, r3.1, c1, h1, am_bv_s, am_bw_s, eq_self, true_or, or_true, am_b0, am_b1, am_em, if_true, if_false, true_and, and_true, false_and, and_false, not_true_eq_false, not_false_eq_true, false_or, or_false, Bool.false_eq_true]
  · rw [am_bf h] at ii
    rw [if_neg h]
    refine ⟨M, ?_, hx, am_of.rf⟩
    simp only [e169_0, e169_1, e169_4, e169_7, e169_9, e169_10, e169_11, e169_14, e169_15, e169_16, e169_17, e169_20, e169_23, e169_24, e169_27, e169_28, e169_29, e169_32, e169_33, ii, am_bv_s, am_bw_s, eq_self, true_or, or_true, am_b0, am_b1, am_em, if_true, if_false, true_and, and_true, false_and, and_false, not_true_eq_false, not_false_eq_true, false_or, or_false, Bool.false_eq_true]
theorem m_isEarly {A : sgA} (hx : mA A M) (ho : okA A) (v : Int32) (hv : 0 ≤ v) : am_e X 171 0 [some (.ref (59 : Nat)), some (.int v)] [] kS M = some (some (.int (am_b (v < nI (aLt A)))), kS, M) := by
  obtain ⟨h1, h2, h3⟩ := hx
  have h120 := ho.1
  unfold aLt
  by_cases h : 0 < A.1
  · have c1 : ((0 : Int32) < nI A.1) = True := eq_true (by rw [← nI_0]; exact nI_lt h (by omega))
    have cl : (nI (A.1 - 1)).toNatClampNeg = A.1 - 1 := nI_clamp (by omega)
    rw [if_pos h]
    by_cases h4 : v < nI (A.2.2.2.2.1 (A.1 - 1))
    · rw [am_bt h4]
      simp only [e171_0, e171_1, e171_4, e171_7, e171_8, e171_9, e171_12, e171_13, e171_16, e171_17, e171_18, e171_19, e171_22, e171_23, e171_26, e171_27, s59, s59_0, s59_1, s59_2, s59_3, s59_4, s59_5, s59_6, s59_7, s59_8, s59_9, s59_10, s59_11, s59_12, s59_13, s59_14, s59_15, s59_16, s59_17, s59_18, s59_19, s59_20, s59_21, s59_22, s59_23, s59_24, s59_25, s59_26, s59_27, s59_28, s59_29, s59_30, s59_31, r59_0, r59_1, r59_2, r59_3, r59_6, r59_8, r59_9, r59_13, r59_15, r59_16, r59_17, r59_19, r59_22, r59_23, r59_26, r59_30, r59_31, s60, s61, s62, s63, s64, s65, s66, s67, s68, s69, s70, s71, s72, s73, s74, s75, s76, h1, c1, nI_m1 h, cl, a70 (show A.1 - 1 < 120 by omega), (h3 (A.1 - 1) (by omega)).2.2, h4, am_bv_s, am_bw_s, eq_self, true_or, or_true, am_b0, am_b1, am_em, if_true, if_false, true_and, and_true, false_and, and_false, not_true_eq_false, not_false_eq_true, false_or, or_false, Bool.false_eq_true]
    · rw [am_bf h4]
      simp only [e171_0, e171_1, e171_4, e171_7, e171_8, e171_9, e171_12, e171_13, e171_16, e171_17, e171_18, e171_19, e171_22, e171_23, e171_26, e171_27, s59, s59_0, s59_1, s59_2, s59_3, s59_4, s59_5, s59_6, s59_7, s59_8, s59_9, s59_10, s59_11, s59_12, s59_13, s59_14, s59_15, s59_16, s59_17, s59_18, s59_19, s59_20, s59_21, s59_22, s59_23, s59_24, s59_25, s59_26, s59_27, s59_28, s59_29, s59_30, s59_31, r59_0, r59_1, r59_2, r59_3, r59_6, r59_8, r59_9, r59_13, r59_15, r59_16, r59_17, r59_19, r59_22, r59_23, r59_26, r59_30, r59_31, s60, s61, s62, s63, s64, s65, s66, s67, s68, s69, s70, s71, s72, s73, s74, s75, s76, h1, c1, nI_m1 h, cl, a70 (show A.1 - 1 < 120 by omega), (h3 (A.1 - 1) (by omega)).2.2, h4, am_bv_s, am_bw_s, eq_self, true_or, or_true, am_b0, am_b1, am_em, if_true, if_false, true_and, and_true, false_and, and_false, not_true_eq_false, not_false_eq_true, false_or, or_false, Bool.false_eq_true]
  · have c1 : ((0 : Int32) < nI A.1) = False := eq_false (by rw [← nI_0]; exact nI_nlt (by omega) (by omega))
    rw [if_neg h, nI_0, am_bf (Int32.not_lt.mpr hv)]
    simp only [e171_0, e171_1, e171_4, e171_7, e171_8, e171_9, e171_12, e171_13, e171_16, e171_17, e171_18, e171_19, e171_22, e171_23, e171_26, e171_27, s59, s59_0, s59_1, s59_2, s59_3, s59_4, s59_5, s59_6, s59_7, s59_8, s59_9, s59_10, s59_11, s59_12, s59_13, s59_14, s59_15, s59_16, s59_17, s59_18, s59_19, s59_20, s59_21, s59_22, s59_23, s59_24, s59_25, s59_26, s59_27, s59_28, s59_29, s59_30, s59_31, r59_0, r59_1, r59_2, r59_3, r59_6, r59_8, r59_9, r59_13, r59_15, r59_16, r59_17, r59_19, r59_22, r59_23, r59_26, r59_30, r59_31, s60, s61, s62, s63, s64, s65, s66, s67, s68, s69, s70, s71, s72, s73, s74, s75, s76, h1, c1, am_bv_s, am_bw_s, eq_self, true_or, or_true, am_b0, am_b1, am_em, if_true, if_false, true_and, and_true, false_and, and_false, not_true_eq_false, not_false_eq_true, false_or, or_false, Bool.false_eq_true]
theorem mA.tl {A : sgA} {t w tm : Nat} {v : Int32} (hx : mA A M) : mA (aTl A t w v tm) (am_setI (am_setI (am_setI (am_setI M 68 A.1 (nI (40 * t + w))) 69 A.1 v) 70 A.1 (nI tm)) 59 14 (nI (A.1 + 1))) := by
  obtain ⟨h1, h2, h3⟩ := hx
  refine ⟨by rw [gI, if_pos ⟨rfl, rfl⟩]; rfl, ?_, fun i hi => ?_⟩
  · rw [gI, if_neg (by omega), gI, if_neg (by omega), gI, if_neg (by omega), gI, if_neg (by omega)]
    exact h2
  · have hi' : i < A.1 + 1 := hi
    unfold aTl
    dsimp only
    by_cases e : i = A.1
    · simp only [gI, e]
      simp
    · obtain ⟨q1, q2, q3⟩ := h3 i (by omega)
      simp only [gI, e]
      simp [q1, q2, q3]
theorem m_answer (hx : JM s M) (ho : okm s) (t w v tm : Int32) : ∃ M', am_e X 172 0 [some (.ref (59 : Nat)), some (.int t), some (.int w), some (.int v), some (.int tm)] [] kS M = some (some (.int (sp_ans s t w v tm).1), kS, M') ∧ JM (sp_ans s t w v tm).2 M' ∧ am_of pM M M' := by
  have hx0 := hx
  obtain ⟨y1, y2, y3, y4, y5⟩ := hx
  have i1 := m_isTaker (X := X) (S := kS) (M := M) t
  have i2 := m_isWord (X := X) (S := kS) (M := M) w
  have i3 := q_in (X := X) (S := kS) (M := M) v (-1) 1 (by decide : (-1 : Int32).toInt64 = -1) (by decide : (1 : Int32).toInt64 = 1)
  have i4 := m_isTime (X := X) (S := kS) (M := M) tm
  have h120 := ho.2.2.2.2.1
  have bad : ¬ ((0 ≤ t ∧ t ≤ 3) ∧ (0 ≤ w ∧ w ≤ 39) ∧ (-1 ≤ v ∧ v ≤ 1) ∧ ((0 ≤ tm ∧ tm ≤ 999) ∧ ¬ tm < nI (aLt s.2.2.2.2))) → am_e X 172 0 [some (.ref (59 : Nat)), some (.int t), some (.int w), some (.int v), some (.int tm)] [] kS M = some (some (.int (-2)), kS, M) := by
    intro h
    by_cases h1 : 0 ≤ t ∧ t ≤ 3
    · rw [am_bt h1] at i1
      by_cases h2 : 0 ≤ w ∧ w ≤ 39
      · rw [am_bt h2] at i2
        by_cases h3 : -1 ≤ v ∧ v ≤ 1
        · rw [am_bt h3] at i3
          by_cases h4 : 0 ≤ tm ∧ tm ≤ 999
          · rw [am_bt h4] at i4
            have h5 : tm < nI (aLt s.2.2.2.2) := Classical.byContradiction fun q => h ⟨h1, h2, h3, h4, q⟩
            have i5 := m_isEarly (X := X) y5 ho.2.2.2.2 tm h4.1
            rw [am_bt h5] at i5
            simp only [e172_0, e172_1, e172_4, e172_7, e172_8, e172_11, e172_14, e172_15, e172_16, e172_19, e172_20, e172_23, e172_26, e172_28, e172_31, e172_34, e172_35, e172_37, e172_40, e172_43, e172_45, e172_46, e172_47, e172_50, e172_52, e172_55, e172_57, e172_58, e172_59, e172_62, e172_63, e172_66, e172_68, e172_69, e172_70, e172_71, e172_72, e172_73, e172_74, e172_77, e172_78, e172_81, e172_82, e172_83, e172_84, e172_87, e172_88, e172_91, e172_93, e172_94, e172_95, e172_96, e172_99, e172_100, e172_101, e172_104, e172_105, e172_108, s59, s59_0, s59_1, s59_2, s59_3, s59_4, s59_5, s59_6, s59_7, s59_8, s59_9, s59_10, s59_11, s59_12, s59_13, s59_14, s59_15, s59_16, s59_17, s59_18, s59_19, s59_20, s59_21, s59_22, s59_23, s59_24, s59_25, s59_26, s59_27, s59_28, s59_29, s59_30, s59_31, r59_0, r59_1, r59_2, r59_3, r59_6, r59_8, r59_9, r59_13, r59_15, r59_16, r59_17, r59_19, r59_22, r59_23, r59_26, r59_30, r59_31, s60, s61, s62, s63, s64, s65, s66, s67, s68, s69, s70, s71, s72, s73, s74, s75, s76, i1, i2, i3, i4, i5, z10, z01, z1m, zm1, z0m, zm0, am_bv_s, am_bw_s, eq_self, true_or, or_true, am_b0, am_b1, am_em, if_true, if_false, true_and, and_true, false_and, and_false, not_true_eq_false, not_false_eq_true, false_or, or_false, Bool.false_eq_true]
          · rw [am_bf h4] at i4
            simp only [e172_0, e172_1, e172_4, e172_7, e172_8, e172_11, e172_14, e172_15, e172_16, e172_19, e172_20, e172_23, e172_26, e172_28, e172_31, e172_34, e172_35, e172_37, e172_40, e172_43, e172_45, e172_46, e172_47, e172_50, e172_52, e172_55, e172_57, e172_58, e172_59, e172_62, e172_63, e172_66, e172_68, e172_69, e172_70, e172_71, e172_72, e172_73, e172_74, e172_77, e172_78, e172_81, e172_82, e172_83, e172_84, e172_87, e172_88, e172_91, e172_93, e172_94, e172_95, e172_96, e172_99, e172_100, e172_101, e172_104, e172_105, e172_108, s59, s59_0, s59_1, s59_2, s59_3, s59_4, s59_5, s59_6, s59_7, s59_8, s59_9, s59_10, s59_11, s59_12, s59_13, s59_14, s59_15, s59_16, s59_17, s59_18, s59_19, s59_20, s59_21, s59_22, s59_23, s59_24, s59_25, s59_26, s59_27, s59_28, s59_29, s59_30, s59_31, r59_0, r59_1, r59_2, r59_3, r59_6, r59_8, r59_9, r59_13, r59_15, r59_16, r59_17, r59_19, r59_22, r59_23, r59_26, r59_30, r59_31, s60, s61, s62, s63, s64, s65, s66, s67, s68, s69, s70, s71, s72, s73, s74, s75, s76, i1, i2, i3, i4, z10, z01, z1m, zm1, z0m, zm0, am_bv_s, am_bw_s, eq_self, true_or, or_true, am_b0, am_b1, am_em, if_true, if_false, true_and, and_true, false_and, and_false, not_true_eq_false, not_false_eq_true, false_or, or_false, Bool.false_eq_true]
        · rw [am_bf h3] at i3
          simp only [e172_0, e172_1, e172_4, e172_7, e172_8, e172_11, e172_14, e172_15, e172_16, e172_19, e172_20, e172_23, e172_26, e172_28, e172_31, e172_34, e172_35, e172_37, e172_40, e172_43, e172_45, e172_46, e172_47, e172_50, e172_52, e172_55, e172_57, e172_58, e172_59, e172_62, e172_63, e172_66, e172_68, e172_69, e172_70, e172_71, e172_72, e172_73, e172_74, e172_77, e172_78, e172_81, e172_82, e172_83, e172_84, e172_87, e172_88, e172_91, e172_93, e172_94, e172_95, e172_96, e172_99, e172_100, e172_101, e172_104, e172_105, e172_108, s59, s59_0, s59_1, s59_2, s59_3, s59_4, s59_5, s59_6, s59_7, s59_8, s59_9, s59_10, s59_11, s59_12, s59_13, s59_14, s59_15, s59_16, s59_17, s59_18, s59_19, s59_20, s59_21, s59_22, s59_23, s59_24, s59_25, s59_26, s59_27, s59_28, s59_29, s59_30, s59_31, r59_0, r59_1, r59_2, r59_3, r59_6, r59_8, r59_9, r59_13, r59_15, r59_16, r59_17, r59_19, r59_22, r59_23, r59_26, r59_30, r59_31, s60, s61, s62, s63, s64, s65, s66, s67, s68, s69, s70, s71, s72, s73, s74, s75, s76, i1, i2, i3, z10, z01, z1m, zm1, z0m, zm0, am_bv_s, am_bw_s, eq_self, true_or, or_true, am_b0, am_b1, am_em, if_true, if_false, true_and, and_true, false_and, and_false, not_true_eq_false, not_false_eq_true, false_or, or_false, Bool.false_eq_true]
      · rw [am_bf h2] at i2
        simp only [e172_0, e172_1, e172_4, e172_7, e172_8, e172_11, e172_14, e172_15, e172_16, e172_19, e172_20, e172_23, e172_26, e172_28, e172_31, e172_34, e172_35, e172_37, e172_40, e172_43, e172_45, e172_46, e172_47, e172_50, e172_52, e172_55, e172_57, e172_58, e172_59, e172_62, e172_63, e172_66, e172_68, e172_69, e172_70, e172_71, e172_72, e172_73, e172_74, e172_77, e172_78, e172_81, e172_82, e172_83, e172_84, e172_87, e172_88, e172_91, e172_93, e172_94, e172_95, e172_96, e172_99, e172_100, e172_101, e172_104, e172_105, e172_108, i1, i2, z10, z01, z1m, zm1, z0m, zm0, am_bv_s, am_bw_s, eq_self, true_or, or_true, am_b0, am_b1, am_em, if_true, if_false, true_and, and_true, false_and, and_false, not_true_eq_false, not_false_eq_true, false_or, or_false, Bool.false_eq_true]
    · rw [am_bf h1] at i1
      simp only [e172_0, e172_1, e172_4, e172_7, e172_8, e172_11, e172_14, e172_15, e172_16, e172_19, e172_20, e172_23, e172_26, e172_28, e172_31, e172_34, e172_35, e172_37, e172_40, e172_43, e172_45, e172_46, e172_47, e172_50, e172_52, e172_55, e172_57, e172_58, e172_59, e172_62, e172_63, e172_66, e172_68, e172_69, e172_70, e172_71, e172_72, e172_73, e172_74, e172_77, e172_78, e172_81, e172_82, e172_83, e172_84, e172_87, e172_88, e172_91, e172_93, e172_94, e172_95, e172_96, e172_99, e172_100, e172_101, e172_104, e172_105, e172_108, i1, am_bv_s, am_bw_s, eq_self, true_or, or_true, am_b0, am_b1, am_em, if_true, if_false, true_and, and_true, false_and, and_false, not_true_eq_false, not_false_eq_true, false_or, or_false, Bool.false_eq_true]
  unfold sp_ans
  by_cases h : (0 ≤ t ∧ t ≤ 3) ∧ (0 ≤ w ∧ w ≤ 39) ∧ (-1 ≤ v ∧ v ≤ 1) ∧ ((0 ≤ tm ∧ tm ≤ 999) ∧ ¬ tm < nI (aLt s.2.2.2.2))
  · rw [if_pos h]
    obtain ⟨h1, h2, h3, h4, h5⟩ := h
    rw [am_bt h1] at i1
    rw [am_bt h2] at i2
    rw [am_bt h3] at i3
    rw [am_bt h4] at i4
    have i5 := m_isEarly (X := X) y5 ho.2.2.2.2 tm h4.1
    rw [am_bf h5] at i5
    have c1 : (nI s.2.2.2.2.1 = 120) = ¬ (s.2.2.2.2.1 < 120) := eq6 (k := 120) h120 (by decide)
    by_cases h6 : s.2.2.2.2.1 < 120
    · rw [if_pos h6]
      obtain ⟨a, ha, rfl⟩ := in_n (n := 3) h1 (by decide)
      obtain ⟨b, hb, rfl⟩ := in_n (n := 39) h2 (by decide)
      obtain ⟨c, hc, rfl⟩ := in_n (n := 999) h4 (by decide)
      rw [nI_clamp (n := a) (by omega), nI_clamp (n := b) (by omega), nI_clamp (n := c) (by omega)]
      have g := mA.tl (t := a) (w := b) (tm := c) (v := v) y5
      generalize hM1 : am_setI (am_setI (am_setI (am_setI M 68 s.2.2.2.2.1 (nI (40 * a + b))) 69 s.2.2.2.2.1 v) 70 s.2.2.2.2.1 (nI c)) 59 14 (nI (s.2.2.2.2.1 + 1)) = M1 at g
      have of1 : am_of (fun a k => a = 68 ∨ a = 69 ∨ a = 70 ∨ (a = 59 ∧ k = 14)) M M1 := by
        rw [← hM1]
        exact (((am_of.rf.sI (Or.inl rfl)).sI (Or.inr (Or.inl rfl))).sI (Or.inr (Or.inr (Or.inl rfl)))).sI (Or.inr (Or.inr (Or.inr ⟨rfl, rfl⟩)))
      have o1 : ∀ M' : am_Me, (am_setI M' 68 s.2.2.2.2.1 (nI (40 * a + b))).1 59 14 = M'.1 59 14 := fun M' => by rw [gI, if_neg (by omega)]
      have o2 : ∀ M' : am_Me, (am_setI M' 69 s.2.2.2.2.1 v).1 59 14 = M'.1 59 14 := fun M' => by rw [gI, if_neg (by omega)]
      have o3 : ∀ M' : am_Me, (am_setI M' 70 s.2.2.2.2.1 (nI c)).1 59 14 = M'.1 59 14 := fun M' => by rw [gI, if_neg (by omega)]
      have cl : (nI s.2.2.2.2.1).toNatClampNeg = s.2.2.2.2.1 := nI_clamp (by omega)
      have e4 : (40 : Int32) * nI a + nI b = nI (40 * a + b) := by rw [show (40 : Int32) * nI a = nI (40 * a) from pk_mul 40 a, nI_add]
      have e1 : M1.1 59 14 = nI (s.2.2.2.2.1 + 1) := g.1
      have y51 := y5.1
      refine ⟨M1, ?_, ⟨y1.of of1 (fun a k q => by unfold pmH; omega), y2.of of1 (fun a k q => by omega), y3.of of1 (fun a k q => by omega), y4.of of1 (fun a k q => by omega), g⟩, of1.mo (fun a k q => by unfold pM; omega)⟩
      simp only [e172_0, e172_1, e172_4, e172_7, e172_8, e172_11, e172_14, e172_15, e172_16, e172_19, e172_20, e172_23, e172_26, e172_28, e172_31, e172_34, e172_35, e172_37, e172_40, e172_43, e172_45, e172_46, e172_47, e172_50, e172_52, e172_55, e172_57, e172_58, e172_59, e172_62, e172_63, e172_66, e172_68, e172_69, e172_70, e172_71, e172_72, e172_73, e172_74, e172_77, e172_78, e172_81, e172_82, e172_83, e172_84, e172_87, e172_88, e172_91, e172_93, e172_94, e172_95, e172_96, e172_99, e172_100, e172_101, e172_104, e172_105, e172_108, s59, s59_0, s59_1, s59_2, s59_3, s59_4, s59_5, s59_6, s59_7, s59_8, s59_9, s59_10, s59_11, s59_12, s59_13, s59_14, s59_15, s59_16, s59_17, s59_18, s59_19, s59_20, s59_21, s59_22, s59_23, s59_24, s59_25, s59_26, s59_27, s59_28, s59_29, s59_30, s59_31, r59_0, r59_1, r59_2, r59_3, r59_6, r59_8, r59_9, r59_13, r59_15, r59_16, r59_17, r59_19, r59_22, r59_23, r59_26, r59_30, r59_31, s60, s61, s62, s63, s64, s65, s66, s67, s68, s69, s70, s71, s72, s73, s74, s75, s76, i1, i2, i3, i4, i5, z10, z01, z1m, zm1, z0m, zm0, y51, c1, h6, o1, o2, o3, cl, e4, nI_1, hM1, e1, a68 h6, a69 h6, a70 h6, am_bv_s, am_bw_s, eq_self, true_or, or_true, am_b0, am_b1, am_em, if_true, if_false, true_and, and_true, false_and, and_false, not_true_eq_false, not_false_eq_true, false_or, or_false, Bool.false_eq_true]
    · rw [if_neg h6]
      refine ⟨M, ?_, hx0, am_of.rf⟩
      have y51 := y5.1
      simp only [e172_0, e172_1, e172_4, e172_7, e172_8, e172_11, e172_14, e172_15, e172_16, e172_19, e172_20, e172_23, e172_26, e172_28, e172_31, e172_34, e172_35, e172_37, e172_40, e172_43, e172_45, e172_46, e172_47, e172_50, e172_52, e172_55, e172_57, e172_58, e172_59, e172_62, e172_63, e172_66, e172_68, e172_69, e172_70, e172_71, e172_72, e172_73, e172_74, e172_77, e172_78, e172_81, e172_82, e172_83, e172_84, e172_87, e172_88, e172_91, e172_93, e172_94, e172_95, e172_96, e172_99, e172_100, e172_101, e172_104, e172_105, e172_108, s59, s59_0, s59_1, s59_2, s59_3, s59_4, s59_5, s59_6, s59_7, s59_8, s59_9, s59_10, s59_11, s59_12, s59_13, s59_14, s59_15, s59_16, s59_17, s59_18, s59_19, s59_20, s59_21, s59_22, s59_23, s59_24, s59_25, s59_26, s59_27, s59_28, s59_29, s59_30, s59_31, r59_0, r59_1, r59_2, r59_3, r59_6, r59_8, r59_9, r59_13, r59_15, r59_16, r59_17, r59_19, r59_22, r59_23, r59_26, r59_30, r59_31, s60, s61, s62, s63, s64, s65, s66, s67, s68, s69, s70, s71, s72, s73, s74, s75, s76, i1, i2, i3, i4, i5, z10, z01, z1m, zm1, z0m, zm0, y51, c1, h6, am_bv_s, am_bw_s, eq_self, true_or, or_true, am_b0, am_b1, am_em, if_true, if_false, true_and, and_true, false_and, and_false, not_true_eq_false, not_false_eq_true, false_or, or_false, Bool.false_eq_true]
  · rw [if_neg h]
    exact ⟨M, bad h, hx0, am_of.rf⟩
theorem m_asOf (hx : JM s M) (ho : okm s) (tm : Int32) : ∃ M', am_e X 174 0 [some (.ref (59 : Nat)), some (.int tm), none] [] kS M = some (some (.int (sp_asOf s tm).1), kS, M') ∧ JM (sp_asOf s tm).2 M' ∧ am_of pM M M' := by
  have hx0 := hx
  obtain ⟨y1, y2, y3, y4, y5⟩ := hx
  have i1 := m_isTime (X := X) (S := kS) (M := M) tm
  unfold sp_asOf
  by_cases h : 0 ≤ tm ∧ tm ≤ 999
  · rw [if_pos h]
    rw [am_bt h] at i1
    obtain ⟨c, hc, rfl⟩ := in_n (n := 999) h (by decide)
    rw [nI_clamp (n := c) (by omega)]
    have of1 : am_of (fun a k => a = 59 ∧ k = 18) M (am_setI M 59 18 (nI c)) := am_of.rf.sI ⟨rfl, rfl⟩
    obtain ⟨h1, h2, h3⟩ := y5
    refine ⟨am_setI M 59 18 (nI c), ?_, ⟨y1.of of1 (fun a k q => by unfold pmH; omega), y2.of of1 (fun a k q => by omega), y3.of of1 (fun a k q => by omega), y4.of of1 (fun a k q => by omega), ⟨by rw [gI, if_neg (by omega)]; exact h1, by rw [gI, if_pos ⟨rfl, rfl⟩]; rfl, fun i hi => ?_⟩⟩, of1.mo (fun a k q => by unfold pM; omega)⟩
    · simp only [e174_0, e174_1, e174_4, e174_7, e174_9, e174_10, e174_11, e174_14, e174_15, e174_16, e174_17, e174_20, e174_21, s59, s59_0, s59_1, s59_2, s59_3, s59_4, s59_5, s59_6, s59_7, s59_8, s59_9, s59_10, s59_11, s59_12, s59_13, s59_14, s59_15, s59_16, s59_17, s59_18, s59_19, s59_20, s59_21, s59_22, s59_23, s59_24, s59_25, s59_26, s59_27, s59_28, s59_29, s59_30, s59_31, r59_0, r59_1, r59_2, r59_3, r59_6, r59_8, r59_9, r59_13, r59_15, r59_16, r59_17, r59_19, r59_22, r59_23, r59_26, r59_30, r59_31, s60, s61, s62, s63, s64, s65, s66, s67, s68, s69, s70, s71, s72, s73, s74, s75, s76, i1, z10, z01, z1m, zm1, z0m, zm0, h2, am_bv_s, am_bw_s, eq_self, true_or, or_true, am_b0, am_b1, am_em, if_true, if_false, true_and, and_true, false_and, and_false, not_true_eq_false, not_false_eq_true, false_or, or_false, Bool.false_eq_true]
    · obtain ⟨q1, q2, q3⟩ := h3 i hi
      exact ⟨by rw [gI, if_neg (by omega)]; exact q1, by rw [gI, if_neg (by omega)]; exact q2, by rw [gI, if_neg (by omega)]; exact q3⟩
  · rw [if_neg h]
    rw [am_bf h] at i1
    refine ⟨M, ?_, hx0, am_of.rf⟩
    simp only [e174_0, e174_1, e174_4, e174_7, e174_9, e174_10, e174_11, e174_14, e174_15, e174_16, e174_17, e174_20, e174_21, i1, am_bv_s, am_bw_s, eq_self, true_or, or_true, am_b0, am_b1, am_em, if_true, if_false, true_and, and_true, false_and, and_false, not_true_eq_false, not_false_eq_true, false_or, or_false, Bool.false_eq_true]
end
