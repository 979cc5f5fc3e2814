/-! the reference's sheet acts -/
section
variable {X : am_X} {S : am_Sh} {M : am_Me} {h : sgH}
theorem c60 (t : Nat) : (60 : Int32) * nI t = nI (60 * t) := pk_mul 60 t
theorem mH.fd {k : Nat} (hx : mH h M) : mH (hFd h k) (am_setI M 59 4 (nI k)) := by
  refine ⟨by rw [gI, if_pos ⟨rfl, rfl⟩]; rfl, fun u hu => ?_⟩
  obtain ⟨h1, h2⟩ := hx.2 u hu
  refine ⟨by rw [gI, if_neg (by omega)]; exact h1, fun hl => ⟨by rw [gI, if_neg (by omega)]; exact (h2 hl).1, fun i hi => by rw [gI, if_neg (by omega)]; exact (h2 hl).2 i hi⟩⟩
theorem mH.los {t : Nat} (hx : mH h M) (ht : t < 4) : mH (hLos h t) (am_setI M 60 t (-1)) := by
  refine ⟨by rw [gI, if_neg (by omega)]; exact hx.1, fun u hu => ?_⟩
  obtain ⟨h1, h2⟩ := hx.2 u hu
  by_cases e : u = t
  · subst e
    refine ⟨by rw [gI, if_pos ⟨rfl, rfl⟩]; simp [hLos], fun hl => ?_⟩
    simp [hLos] at hl
  · refine ⟨by rw [gI, if_neg (by omega)]; simpa [hLos, e] using h1, fun hl => ?_⟩
    have hl' : h.1 u = false := by simpa [hLos, e] using hl
    exact ⟨by rw [gI, if_neg (by omega)]; exact (h2 hl').1, fun i hi => by rw [gI, if_neg (by omega)]; exact (h2 hl').2 i hi⟩
theorem mH.new {t f n : Nat} (hx : mH h M) (ht : t < 4) (hn : n ≤ 60) (ho : okH h) : mH (hNew h t f n) (am_setA (am_setI (am_setI M 60 t (nI f)) 61 t (nI n)) 62 (fun j => if 60 * t + 0 ≤ j ∧ j < 60 * t + n then 0 else (am_setI (am_setI M 60 t (nI f)) 61 t (nI n)).1 62 j)) := by
  refine ⟨by rw [gA, if_neg (by omega), gI, if_neg (by omega), gI, if_neg (by omega)]; exact hx.1, fun u hu => ?_⟩
  obtain ⟨h1, h2⟩ := hx.2 u hu
  by_cases e : u = t
  · subst e
    refine ⟨by rw [gA, if_neg (by omega), gI, if_neg (by omega), gI, if_pos ⟨rfl, rfl⟩]; simp [hNew], fun hl => ⟨by rw [gA, if_neg (by omega), gI, if_pos ⟨rfl, rfl⟩]; simp [hNew], fun i hi => ?_⟩⟩
    have hi' : i < n := by simpa [hNew] using hi
    rw [gA, if_pos rfl, if_pos (by omega)]
    simp [hNew]
  · refine ⟨by rw [gA, if_neg (by omega), gI, if_neg (by omega), gI, if_neg (by omega)]; simpa [hNew, e] using h1, fun hl => ?_⟩
    have hl' : h.1 u = false := by simpa [hNew, e] using hl
    refine ⟨by rw [gA, if_neg (by omega), gI, if_neg (by omega), gI, if_neg (by omega)]; simpa [hNew, e] using (h2 hl').1, fun i hi => ?_⟩
    have hi' : i < h.2.2.1 u := by simpa [hNew, e] using hi
    have hz := (ho.2 u hu).2
    rw [gA, if_pos rfl, if_neg (by omega), gI, if_neg (by omega), gI, if_neg (by omega)]
    simpa [hNew, e] using (h2 hl').2 i hi'
theorem mH.put {t i : Nat} {v : Int32} (hx : mH h M) (ht : t < 4) (hi : i < 60) (ho : okH h) : mH (hPut h t i v) (am_setI M 62 (60 * t + i) v) := by
  refine ⟨by rw [gI, if_neg (by omega)]; exact hx.1, fun u hu => ?_⟩
  obtain ⟨h1, h2⟩ := hx.2 u hu
  refine ⟨by rw [gI, if_neg (by omega)]; exact h1, fun hl => ⟨by rw [gI, if_neg (by omega)]; exact (h2 hl).1, fun j hj => ?_⟩⟩
  have hj' : j < h.2.2.1 u := hj
  have hz := (ho.2 u hu).2
  rw [gI]
  by_cases e : u = t ∧ j = i
  · rw [if_pos (by omega)]
    simp [hPut, e]
  · rw [if_neg (by omega)]
    have := (h2 hl).2 j hj
    simpa [hPut, e] using this
theorem m_lacks {t : Nat} {f i : Int32} (hx : mH h M) (ho : okH h) (ht : t < 4) : am_e X 146 0 [some (.ref (59 : Nat)), some (.int (nI t)), some (.int f), some (.int i)] [] kS M = if sp_it h t f i = 0 then some (some (.int 0), kS, M) else some (some (.int (-10 - nI (sp_it h t f i))), kS, am_setI M 59 4 (nI (sp_it h t f i))) := by
  have hc : (nI t).toNatClampNeg = t := nI_clamp (by omega)
  obtain ⟨g1, g2⟩ := hx.2 t ht
  have hz := ho.2 t ht
  have hin := q_in (X := X) (S := kS) (M := M) i 0 (M.1 61 t - 1) (by decide : (0 : Int32).toInt64 = 0) rfl
  unfold sp_it
  by_cases h2 : h.1 t = true
  · rw [if_pos h2] at g1
    have c0 : ((-1 : Int32) < 0) = True := eq_true (by decide)
    simp only [e146_0, e146_1, e146_4, e146_5, e146_6, e146_9, e146_10, e146_11, e146_14, e146_15, e146_16, e146_19, e146_20, e146_21, e146_22, e146_25, e146_26, e146_27, e146_30, e146_31, e146_32, e146_33, e146_34, e146_35, e146_38, e146_39, e146_40, e146_41, e146_42, e146_43, e146_46, e146_49, e146_50, e146_53, e146_54, e146_55, e146_58, s59, s59_0, s59_1, s59_2, s59_3, s59_4, s59_5, s59_6, s59_7, s59_8, s59_9, s59_10, s59_11, s59_12, s59_13, s59_14, s59_15, s59_16, s59_17, s59_18, s59_19, s59_20, s59_21, s59_22, s59_23, s59_24, s59_25, s59_26, s59_27, s59_28, s59_29, s59_30, s59_31, r59_0, r59_1, r59_2, r59_3, r59_6, r59_8, r59_9, r59_13, r59_15, r59_16, r59_17, r59_19, r59_22, r59_23, r59_26, r59_30, r59_31, s60, s61, s62, s63, s64, s65, s66, s67, s68, s69, s70, s71, s72, s73, s74, s75, s76, a60 ht, hc, g1, c0, m_met, h2, am_bv_s, am_bw_s, eq_self, true_or, or_true, am_b0, am_b1, am_em, if_true, if_false, true_and, and_true, false_and, and_false, not_true_eq_false, not_false_eq_true, false_or, or_false, Bool.false_eq_true]
    rfl
  · rw [if_neg h2] at g1
    have h3 : h.1 t = false := by simpa using h2
    have c0 : (nI (h.2.1 t) < 0) = False := eq_false (nI_pos (by omega))
    by_cases h4 : nI (h.2.1 t) = f
    · have hle : (0 ≤ i ∧ i ≤ M.1 61 t - 1) ↔ (¬ i < 0 ∧ i < nI (h.2.2.1 t)) := by
        rw [(g2 h3).1]
        have q1 := nI_toInt (n := h.2.2.1 t) (by omega)
        have q2 : (nI (h.2.2.1 t) - 1).toInt = (h.2.2.1 t : Int) - 1 := by
          rw [Jvm.Kit.i32_sub (by rw [q1]; have : (1 : Int32).toInt = 1 := by decide
                                  omega) (by rw [q1]; have : (1 : Int32).toInt = 1 := by decide
                                             omega), q1]
          rfl
        rw [Int32.le_iff_toInt_le, Int32.le_iff_toInt_le, Int32.lt_iff_toInt_lt, Int32.lt_iff_toInt_lt, q1, q2, show (0 : Int32).toInt = 0 from rfl]
        omega
      subst h4
      by_cases h5 : i < 0
      · have hb : am_b (0 ≤ i ∧ i ≤ M.1 61 t - 1) = 0 := am_bf (fun q => (hle.mp q).1 h5)
        rw [hb] at hin
        simp only [e146_0, e146_1, e146_4, e146_5, e146_6, e146_9, e146_10, e146_11, e146_14, e146_15, e146_16, e146_19, e146_20, e146_21, e146_22, e146_25, e146_26, e146_27, e146_30, e146_31, e146_32, e146_33, e146_34, e146_35, e146_38, e146_39, e146_40, e146_41, e146_42, e146_43, e146_46, e146_49, e146_50, e146_53, e146_54, e146_55, e146_58, s59, s59_0, s59_1, s59_2, s59_3, s59_4, s59_5, s59_6, s59_7, s59_8, s59_9, s59_10, s59_11, s59_12, s59_13, s59_14, s59_15, s59_16, s59_17, s59_18, s59_19, s59_20, s59_21, s59_22, s59_23, s59_24, s59_25, s59_26, s59_27, s59_28, s59_29, s59_30, s59_31, r59_0, r59_1, r59_2, r59_3, r59_6, r59_8, r59_9, r59_13, r59_15, r59_16, r59_17, r59_19, r59_22, r59_23, r59_26, r59_30, r59_31, s60, s61, s62, s63, s64, s65, s66, s67, s68, s69, s70, s71, s72, s73, s74, s75, s76, a60 ht, a61 ht, hc, g1, c0, hin, m_met, h2, h5, am_bv_s, am_bw_s, eq_self, true_or, or_true, am_b0, am_b1, am_em, if_true, if_false, true_and, and_true, false_and, and_false, not_true_eq_false, not_false_eq_true, false_or, or_false, Bool.false_eq_true]
        rfl
      · by_cases h6 : i < nI (h.2.2.1 t)
        · have hb : am_b (0 ≤ i ∧ i ≤ M.1 61 t - 1) = 1 := am_bt (hle.mpr ⟨h5, h6⟩)
          rw [hb] at hin
          have e1 : ((1 : Int32) = 0) = False := eq_false (by decide)
          simp only [e146_0, e146_1, e146_4, e146_5, e146_6, e146_9, e146_10, e146_11, e146_14, e146_15, e146_16, e146_19, e146_20, e146_21, e146_22, e146_25, e146_26, e146_27, e146_30, e146_31, e146_32, e146_33, e146_34, e146_35, e146_38, e146_39, e146_40, e146_41, e146_42, e146_43, e146_46, e146_49, e146_50, e146_53, e146_54, e146_55, e146_58, s59, s59_0, s59_1, s59_2, s59_3, s59_4, s59_5, s59_6, s59_7, s59_8, s59_9, s59_10, s59_11, s59_12, s59_13, s59_14, s59_15, s59_16, s59_17, s59_18, s59_19, s59_20, s59_21, s59_22, s59_23, s59_24, s59_25, s59_26, s59_27, s59_28, s59_29, s59_30, s59_31, r59_0, r59_1, r59_2, r59_3, r59_6, r59_8, r59_9, r59_13, r59_15, r59_16, r59_17, r59_19, r59_22, r59_23, r59_26, r59_30, r59_31, s60, s61, s62, s63, s64, s65, s66, s67, s68, s69, s70, s71, s72, s73, s74, s75, s76, a60 ht, a61 ht, hc, g1, c0, hin, m_met, h2, h5, h6, e1, am_bv_s, am_bw_s, eq_self, true_or, or_true, am_b0, am_b1, am_em, if_true, if_false, true_and, and_true, false_and, and_false, not_true_eq_false, not_false_eq_true, false_or, or_false, Bool.false_eq_true]
        · have hb : am_b (0 ≤ i ∧ i ≤ M.1 61 t - 1) = 0 := am_bf (fun q => h6 (hle.mp q).2)
          rw [hb] at hin
          simp only [e146_0, e146_1, e146_4, e146_5, e146_6, e146_9, e146_10, e146_11, e146_14, e146_15, e146_16, e146_19, e146_20, e146_21, e146_22, e146_25, e146_26, e146_27, e146_30, e146_31, e146_32, e146_33, e146_34, e146_35, e146_38, e146_39, e146_40, e146_41, e146_42, e146_43, e146_46, e146_49, e146_50, e146_53, e146_54, e146_55, e146_58, s59, s59_0, s59_1, s59_2, s59_3, s59_4, s59_5, s59_6, s59_7, s59_8, s59_9, s59_10, s59_11, s59_12, s59_13, s59_14, s59_15, s59_16, s59_17, s59_18, s59_19, s59_20, s59_21, s59_22, s59_23, s59_24, s59_25, s59_26, s59_27, s59_28, s59_29, s59_30, s59_31, r59_0, r59_1, r59_2, r59_3, r59_6, r59_8, r59_9, r59_13, r59_15, r59_16, r59_17, r59_19, r59_22, r59_23, r59_26, r59_30, r59_31, s60, s61, s62, s63, s64, s65, s66, s67, s68, s69, s70, s71, s72, s73, s74, s75, s76, a60 ht, a61 ht, hc, g1, c0, hin, m_met, h2, h5, h6, am_bv_s, am_bw_s, eq_self, true_or, or_true, am_b0, am_b1, am_em, if_true, if_false, true_and, and_true, false_and, and_false, not_true_eq_false, not_false_eq_true, false_or, or_false, Bool.false_eq_true]
          rfl
    · simp only [e146_0, e146_1, e146_4, e146_5, e146_6, e146_9, e146_10, e146_11, e146_14, e146_15, e146_16, e146_19, e146_20, e146_21, e146_22, e146_25, e146_26, e146_27, e146_30, e146_31, e146_32, e146_33, e146_34, e146_35, e146_38, e146_39, e146_40, e146_41, e146_42, e146_43, e146_46, e146_49, e146_50, e146_53, e146_54, e146_55, e146_58, s59, s59_0, s59_1, s59_2, s59_3, s59_4, s59_5, s59_6, s59_7, s59_8, s59_9, s59_10, s59_11, s59_12, s59_13, s59_14, s59_15, s59_16, s59_17, s59_18, s59_19, s59_20, s59_21, s59_22, s59_23, s59_24, s59_25, s59_26, s59_27, s59_28, s59_29, s59_30, s59_31, r59_0, r59_1, r59_2, r59_3, r59_6, r59_8, r59_9, r59_13, r59_15, r59_16, r59_17, r59_19, r59_22, r59_23, r59_26, r59_30, r59_31, s60, s61, s62, s63, s64, s65, s66, s67, s68, s69, s70, s71, s72, s73, s74, s75, s76, a60 ht, a61 ht, hc, g1, c0, m_met, h2, h4, am_bv_s, am_bw_s, eq_self, true_or, or_true, am_b0, am_b1, am_em, if_true, if_false, true_and, and_true, false_and, and_false, not_true_eq_false, not_false_eq_true, false_or, or_false, Bool.false_eq_true]
      rfl
theorem m_sheetLoop {t n : Nat} (ht : t < 4) (hn : n ≤ 60) : ∀ (k i : Nat) (vi : Int32) (M : am_Me), i + k = n → vi = nI i → am_e X 144 55 [some (.ref (59 : Nat)), some (.int (nI t)), none, some (.int (nI n)), some (.int vi)] [] kS M = some (some (.int (nI n)), kS, am_setA M 62 (fun j => if 60 * t + i ≤ j ∧ j < 60 * t + n then 0 else M.1 62 j)) := by
  intro k
  induction k with
  | zero =>
    intro i vi M hk hv
    subst hv
    have hc : (nI i < nI n) = False := eq_false (nI_nlt (by omega) (by omega))
    rw [e144_55]
    simp only [e144_0, e144_1, e144_4, e144_7, e144_8, e144_9, e144_10, e144_13, e144_16, e144_19, e144_20, e144_22, e144_25, e144_27, e144_28, e144_29, e144_32, e144_33, e144_34, e144_37, e144_38, e144_39, e144_42, e144_43, e144_44, e144_45, e144_46, e144_49, e144_50, e144_51, e144_52, e144_53, e144_57, e144_58, e144_61, e144_62, e144_65, e144_67, e144_68, e144_69, e144_71, e144_72, e144_73, e144_74, e144_77, e144_80, e144_81, hc, am_bv_s, am_bw_s, eq_self, true_or, or_true, am_b0, am_b1, am_em, if_true, if_false, true_and, and_true, false_and, and_false, not_true_eq_false, not_false_eq_true, false_or, or_false, Bool.false_eq_true]
    refine congrArg (fun z => some (some (Value.int (nI n)), kS, z)) ?_
    refine Prod.ext (funext fun b => ?_) rfl
    unfold am_setA
    dsimp only
    by_cases hb : b = 62
    · rw [if_pos hb, hb]
      funext j
      rw [if_neg (by omega)]
    · rw [if_neg hb]
  | succ k ih =>
    intro i vi M hk hv
    subst hv
    have hc : (nI i < nI n) = True := eq_true (nI_lt (by omega) (by omega))
    have hcl : (nI (60 * t + i)).toNatClampNeg = 60 * t + i := nI_clamp (by omega)
    rw [e144_55]
    simp only [e144_0, e144_1, e144_4, e144_7, e144_8, e144_9, e144_10, e144_13, e144_16, e144_19, e144_20, e144_22, e144_25, e144_27, e144_28, e144_29, e144_32, e144_33, e144_34, e144_37, e144_38, e144_39, e144_42, e144_43, e144_44, e144_45, e144_46, e144_49, e144_50, e144_51, e144_52, e144_53, e144_57, e144_58, e144_61, e144_62, e144_65, e144_67, e144_68, e144_69, e144_71, e144_72, e144_73, e144_74, e144_77, e144_80, e144_81, s59, s59_0, s59_1, s59_2, s59_3, s59_4, s59_5, s59_6, s59_7, s59_8, s59_9, s59_10, s59_11, s59_12, s59_13, s59_14, s59_15, s59_16, s59_17, s59_18, s59_19, s59_20, s59_21, s59_22, s59_23, s59_24, s59_25, s59_26, s59_27, s59_28, s59_29, s59_30, s59_31, r59_0, r59_1, r59_2, r59_3, r59_6, r59_8, r59_9, r59_13, r59_15, r59_16, r59_17, r59_19, r59_22, r59_23, r59_26, r59_30, r59_31, s60, s61, s62, s63, s64, s65, s66, s67, s68, s69, s70, s71, s72, s73, s74, s75, s76, hc, c60, nI_add, nI_1, hcl, a62 (show 60 * t + i < 240 by omega), am_bv_s, am_bw_s, eq_self, true_or, or_true, am_b0, am_b1, am_em, if_true, if_false, true_and, and_true, false_and, and_false, not_true_eq_false, not_false_eq_true, false_or, or_false, Bool.false_eq_true]
    rw [ih (i + 1) _ _ (by omega) rfl]
    refine congrArg (fun z => some (some (Value.int (nI n)), kS, z)) ?_
    refine Prod.ext (funext fun b => funext fun j => ?_) rfl
    rw [gA, gA]
    by_cases hb : b = 62
    · subst hb
      rw [if_pos rfl, if_pos rfl]
      by_cases h1 : 60 * t + (i + 1) ≤ j ∧ j < 60 * t + n
      · rw [if_pos h1, if_pos (by omega)]
      · rw [if_neg h1, gI]
        by_cases h2 : j = 60 * t + i
        · rw [if_pos ⟨rfl, h2⟩, if_pos (by omega)]
        · rw [if_neg (fun q => h2 q.2), if_neg (by omega)]
    · rw [if_neg hb, if_neg hb, gI, if_neg (fun q => hb q.1)]
theorem m_sheet (hx : mH h M) (ho : okH h) (s f n : Int32) : ∃ M', am_e X 144 0 [some (.ref (59 : Nat)), some (.int s), some (.int f), some (.int n), none] [] kS M = some (some (.int (sp_sheet h s f n).1), kS, M') ∧ mH (sp_sheet h s f n).2 M' ∧ am_of pmH M M' := by
  have hin := q_in (X := X) (S := kS) (M := M) f 0 2 (by decide : (0 : Int32).toInt64 = 0) (by decide : (2 : Int32).toInt64 = 2)
  unfold sp_sheet
  by_cases h1 : 0 ≤ s ∧ s ≤ 3
  · by_cases h2 : 0 ≤ f ∧ f ≤ 2
    · by_cases h3 : 60 < n
      · rw [if_neg (fun q => q.2.2 h3)]
        exact ⟨M, by simp only [e144_0, e144_1, e144_4, e144_7, e144_8, e144_9, e144_10, e144_13, e144_16, e144_19, e144_20, e144_22, e144_25, e144_27, e144_28, e144_29, e144_32, e144_33, e144_34, e144_37, e144_38, e144_39, e144_42, e144_43, e144_44, e144_45, e144_46, e144_49, e144_50, e144_51, e144_52, e144_53, e144_57, e144_58, e144_61, e144_62, e144_65, e144_67, e144_68, e144_69, e144_71, e144_72, e144_73, e144_74, e144_77, e144_80, e144_81, m_isSheet, hin, h1, h2, h3, am_bv_s, am_bw_s, eq_self, true_or, or_true, am_b0, am_b1, am_em, if_true, if_false, true_and, and_true, false_and, and_false, not_true_eq_false, not_false_eq_true, false_or, or_false, Bool.false_eq_true], hx, am_of.rf⟩
      · rw [if_pos ⟨h1, h2, h3⟩]
        by_cases h4 : n < 0
        · rw [if_pos h4]
          exact ⟨am_setI M 59 4 (nI 5), by simp only [e144_0, e144_1, e144_4, e144_7, e144_8, e144_9, e144_10, e144_13, e144_16, e144_19, e144_20, e144_22, e144_25, e144_27, e144_28, e144_29, e144_32, e144_33, e144_34, e144_37, e144_38, e144_39, e144_42, e144_43, e144_44, e144_45, e144_46, e144_49, e144_50, e144_51, e144_52, e144_53, e144_57, e144_58, e144_61, e144_62, e144_65, e144_67, e144_68, e144_69, e144_71, e144_72, e144_73, e144_74, e144_77, e144_80, e144_81, s59, s59_0, s59_1, s59_2, s59_3, s59_4, s59_5, s59_6, s59_7, s59_8, s59_9, s59_10, s59_11, s59_12, s59_13, s59_14, s59_15, s59_16, s59_17, s59_18, s59_19, s59_20, s59_21, s59_22, s59_23, s59_24, s59_25, s59_26, s59_27, s59_28, s59_29, s59_30, s59_31, r59_0, r59_1, r59_2, r59_3, r59_6, r59_8, r59_9, r59_13, r59_15, r59_16, r59_17, r59_19, r59_22, r59_23, r59_26, r59_30, r59_31, s60, s61, s62, s63, s64, s65, s66, s67, s68, s69, s70, s71, s72, s73, s74, s75, s76, m_isSheet, hin, m_met, h1, h2, h3, h4, am_bv_s, am_bw_s, eq_self, true_or, or_true, am_b0, am_b1, am_em, if_true, if_false, true_and, and_true, false_and, and_false, not_true_eq_false, not_false_eq_true, false_or, or_false, Bool.false_eq_true]; rfl, hx.fd, am_of.rf.sI (Or.inl ⟨rfl, rfl⟩)⟩
        · rw [if_neg h4]
          obtain ⟨t, ht, rfl⟩ := in_nat (n := 3) h1.1 h1.2 (by decide)
          obtain ⟨g, hg, rfl⟩ := in_nat (n := 2) h2.1 h2.2 (by decide)
          obtain ⟨k, hk, rfl⟩ := in_nat (n := 60) (Int32.not_lt.mp h4) (Int32.not_lt.mp h3) (by decide)
          have hc := nI_clamp (n := t) (by omega)
          rw [hc, nI_clamp (n := g) (by omega), nI_clamp (n := k) (by omega)]
          have ht4 : t < 4 := by omega
          refine ⟨_, ?_, hx.new (f := g) ht4 hk ho, ?_⟩
          · simp only [e144_0, e144_1, e144_4, e144_7, e144_8, e144_9, e144_10, e144_13, e144_16, e144_19, e144_20, e144_22, e144_25, e144_27, e144_28, e144_29, e144_32, e144_33, e144_34, e144_37, e144_38, e144_39, e144_42, e144_43, e144_44, e144_45, e144_46, e144_49, e144_50, e144_51, e144_52, e144_53, e144_57, e144_58, e144_61, e144_62, e144_65, e144_67, e144_68, e144_69, e144_71, e144_72, e144_73, e144_74, e144_77, e144_80, e144_81, s59, s59_0, s59_1, s59_2, s59_3, s59_4, s59_5, s59_6, s59_7, s59_8, s59_9, s59_10, s59_11, s59_12, s59_13, s59_14, s59_15, s59_16, s59_17, s59_18, s59_19, s59_20, s59_21, s59_22, s59_23, s59_24, s59_25, s59_26, s59_27, s59_28, s59_29, s59_30, s59_31, r59_0, r59_1, r59_2, r59_3, r59_6, r59_8, r59_9, r59_13, r59_15, r59_16, r59_17, r59_19, r59_22, r59_23, r59_26, r59_30, r59_31, s60, s61, s62, s63, s64, s65, s66, s67, s68, s69, s70, s71, s72, s73, s74, s75, s76, m_isSheet, hin, a60 ht4, a61 ht4, hc, h1, h2, h3, h4, am_bv_s, am_bw_s, eq_self, true_or, or_true, am_b0, am_b1, am_em, if_true, if_false, true_and, and_true, false_and, and_false, not_true_eq_false, not_false_eq_true, false_or, or_false, Bool.false_eq_true]
            exact m_sheetLoop ht4 hk k 0 0 _ (by omega) nI_0.symm
          · exact ((am_of.rf.sI (Or.inr (by omega))).sI (Or.inr (by omega))).sA (fun j => Or.inl (Or.inr (by omega)))
    · rw [if_neg (fun q => h2 q.2.1)]
      exact ⟨M, by simp only [e144_0, e144_1, e144_4, e144_7, e144_8, e144_9, e144_10, e144_13, e144_16, e144_19, e144_20, e144_22, e144_25, e144_27, e144_28, e144_29, e144_32, e144_33, e144_34, e144_37, e144_38, e144_39, e144_42, e144_43, e144_44, e144_45, e144_46, e144_49, e144_50, e144_51, e144_52, e144_53, e144_57, e144_58, e144_61, e144_62, e144_65, e144_67, e144_68, e144_69, e144_71, e144_72, e144_73, e144_74, e144_77, e144_80, e144_81, m_isSheet, hin, h1, h2, am_bv_s, am_bw_s, eq_self, true_or, or_true, am_b0, am_b1, am_em, if_true, if_false, true_and, and_true, false_and, and_false, not_true_eq_false, not_false_eq_true, false_or, or_false, Bool.false_eq_true], hx, am_of.rf⟩
  · rw [if_neg (fun q => h1 q.1)]
    exact ⟨M, by simp only [e144_0, e144_1, e144_4, e144_7, e144_8, e144_9, e144_10, e144_13, e144_16, e144_19, e144_20, e144_22, e144_25, e144_27, e144_28, e144_29, e144_32, e144_33, e144_34, e144_37, e144_38, e144_39, e144_42, e144_43, e144_44, e144_45, e144_46, e144_49, e144_50, e144_51, e144_52, e144_53, e144_57, e144_58, e144_61, e144_62, e144_65, e144_67, e144_68, e144_69, e144_71, e144_72, e144_73, e144_74, e144_77, e144_80, e144_81, m_isSheet, h1, am_bv_s, am_bw_s, eq_self, true_or, or_true, am_b0, am_b1, am_em, if_true, if_false, true_and, and_true, false_and, and_false, not_true_eq_false, not_false_eq_true, false_or, or_false, Bool.false_eq_true], hx, am_of.rf⟩
theorem m_lose (hx : mH h M) (ho : okH h) (s : Int32) : ∃ M', am_e X 145 0 [some (.ref (59 : Nat)), some (.int s)] [] kS M = some (some (.int (sp_lose h s).1), kS, M') ∧ mH (sp_lose h s).2 M' ∧ am_of pmH M M' := by
  unfold sp_lose
  by_cases h1 : 0 ≤ s ∧ s ≤ 3
  · rw [if_pos h1]
    obtain ⟨t, ht, rfl⟩ := in_nat (n := 3) h1.1 h1.2 (by decide)
    have hc := nI_clamp (n := t) (by omega)
    rw [hc]
    have ht4 : t < 4 := by omega
    obtain ⟨g1, g2⟩ := hx.2 t ht4
    have hz := ho.2 t ht4
    by_cases h2 : h.1 t = true
    · rw [if_pos h2] at g1 ⊢
      have c0 : ((-1 : Int32) < 0) = True := eq_true (by decide)
      exact ⟨am_setI M 59 4 (nI 1), by simp only [e145_0, e145_1, e145_4, e145_7, e145_9, e145_10, e145_11, e145_14, e145_15, e145_16, e145_19, e145_20, e145_21, e145_24, e145_25, e145_26, e145_29, e145_30, e145_31, e145_32, e145_33, e145_36, e145_37, e145_38, s59, s59_0, s59_1, s59_2, s59_3, s59_4, s59_5, s59_6, s59_7, s59_8, s59_9, s59_10, s59_11, s59_12, s59_13, s59_14, s59_15, s59_16, s59_17, s59_18, s59_19, s59_20, s59_21, s59_22, s59_23, s59_24, s59_25, s59_26, s59_27, s59_28, s59_29, s59_30, s59_31, r59_0, r59_1, r59_2, r59_3, r59_6, r59_8, r59_9, r59_13, r59_15, r59_16, r59_17, r59_19, r59_22, r59_23, r59_26, r59_30, r59_31, s60, s61, s62, s63, s64, s65, s66, s67, s68, s69, s70, s71, s72, s73, s74, s75, s76, m_isSheet, a60 ht4, m_met, hc, g1, c0, h1, am_bv_s, am_bw_s, eq_self, true_or, or_true, am_b0, am_b1, am_em, if_true, if_false, true_and, and_true, false_and, and_false, not_true_eq_false, not_false_eq_true, false_or, or_false, Bool.false_eq_true]; rfl, hx.fd, am_of.rf.sI (Or.inl ⟨rfl, rfl⟩)⟩
    · rw [if_neg h2] at g1 ⊢
      have h3 : h.1 t = false := by simpa using h2
      have c0 : (nI (h.2.1 t) < 0) = False := eq_false (nI_pos (by omega))
      have e9 : (am_setI M 60 t (-1)).1 61 t = nI (h.2.2.1 t) := by rw [gI, if_neg (by omega)]; exact (g2 h3).1
      exact ⟨am_setI M 60 t (-1), by simp only [e145_0, e145_1, e145_4, e145_7, e145_9, e145_10, e145_11, e145_14, e145_15, e145_16, e145_19, e145_20, e145_21, e145_24, e145_25, e145_26, e145_29, e145_30, e145_31, e145_32, e145_33, e145_36, e145_37, e145_38, s59, s59_0, s59_1, s59_2, s59_3, s59_4, s59_5, s59_6, s59_7, s59_8, s59_9, s59_10, s59_11, s59_12, s59_13, s59_14, s59_15, s59_16, s59_17, s59_18, s59_19, s59_20, s59_21, s59_22, s59_23, s59_24, s59_25, s59_26, s59_27, s59_28, s59_29, s59_30, s59_31, r59_0, r59_1, r59_2, r59_3, r59_6, r59_8, r59_9, r59_13, r59_15, r59_16, r59_17, r59_19, r59_22, r59_23, r59_26, r59_30, r59_31, s60, s61, s62, s63, s64, s65, s66, s67, s68, s69, s70, s71, s72, s73, s74, s75, s76, m_isSheet, a60 ht4, a61 ht4, hc, g1, c0, e9, h1, am_bv_s, am_bw_s, eq_self, true_or, or_true, am_b0, am_b1, am_em, if_true, if_false, true_and, and_true, false_and, and_false, not_true_eq_false, not_false_eq_true, false_or, or_false, Bool.false_eq_true], hx.los ht4, am_of.rf.sI (Or.inr (by omega))⟩
  · rw [if_neg h1]
    exact ⟨M, by simp only [e145_0, e145_1, e145_4, e145_7, e145_9, e145_10, e145_11, e145_14, e145_15, e145_16, e145_19, e145_20, e145_21, e145_24, e145_25, e145_26, e145_29, e145_30, e145_31, e145_32, e145_33, e145_36, e145_37, e145_38, m_isSheet, h1, am_bv_s, am_bw_s, eq_self, true_or, or_true, am_b0, am_b1, am_em, if_true, if_false, true_and, and_true, false_and, and_false, not_true_eq_false, not_false_eq_true, false_or, or_false, Bool.false_eq_true], hx, am_of.rf⟩
theorem sp_it_m {t : Nat} {f i : Int32} (h0 : ¬ sp_it h t f i = 0) : (-10 - nI (sp_it h t f i) = 0) = False := by
  have := sp_it_le (h := h) (t := t) (f := f) (i := i)
  refine eq_false ?_
  rcases (show sp_it h t f i = 1 ∨ sp_it h t f i = 2 ∨ sp_it h t f i = 3 by omega) with q | q | q <;> rw [q] <;> decide
theorem m_lay (hx : mH h M) (ho : okH h) (s f i v : Int32) : ∃ M', am_e X 148 0 [some (.ref (59 : Nat)), some (.int s), some (.int f), some (.int i), some (.int v), none] [] kS M = some (some (.int (sp_lay h s f i v).1), kS, M') ∧ mH (sp_lay h s f i v).2 M' ∧ am_of pmH M M' := by
  have hin := q_in (X := X) (S := kS) (M := M) f 0 2 (by decide : (0 : Int32).toInt64 = 0) (by decide : (2 : Int32).toInt64 = 2)
  unfold sp_lay
  by_cases h1 : 0 ≤ s ∧ s ≤ 3
  · by_cases h2 : 0 ≤ f ∧ f ≤ 2
    · rw [if_pos ⟨h1, h2⟩]
      obtain ⟨t, ht, rfl⟩ := in_nat (n := 3) h1.1 h1.2 (by decide)
      have hc := nI_clamp (n := t) (by omega)
      rw [hc]
      have ht4 : t < 4 := by omega
      have hf := m_lacks (X := X) (f := f) (i := i) hx ho ht4
      by_cases h0 : sp_it h t f i = 0
      · rw [if_pos h0] at hf ⊢
        obtain ⟨k1, k2, k, hk, rfl⟩ := sp_it_0 ho ht4 h0
        have hz := (ho.2 t ht4).2
        rw [nI_clamp (n := k) (by omega)]
        have hcl : (nI (60 * t + k)).toNatClampNeg = 60 * t + k := nI_clamp (by omega)
        refine ⟨am_setI M 62 (60 * t + k) (sp_cut f v), ?_, hx.put ht4 (by omega) ho, am_of.rf.sI (Or.inr (by omega))⟩
        simp only [e148_0, e148_1, e148_4, e148_7, e148_8, e148_9, e148_10, e148_13, e148_16, e148_19, e148_21, e148_22, e148_23, e148_24, e148_25, e148_26, e148_29, e148_31, e148_33, e148_36, e148_38, e148_39, e148_40, e148_43, e148_45, e148_46, e148_47, e148_48, e148_49, e148_50, e148_52, e148_55, e148_56, e148_57, s59, s59_0, s59_1, s59_2, s59_3, s59_4, s59_5, s59_6, s59_7, s59_8, s59_9, s59_10, s59_11, s59_12, s59_13, s59_14, s59_15, s59_16, s59_17, s59_18, s59_19, s59_20, s59_21, s59_22, s59_23, s59_24, s59_25, s59_26, s59_27, s59_28, s59_29, s59_30, s59_31, r59_0, r59_1, r59_2, r59_3, r59_6, r59_8, r59_9, r59_13, r59_15, r59_16, r59_17, r59_19, r59_22, r59_23, r59_26, r59_30, r59_31, s60, s61, s62, s63, s64, s65, s66, s67, s68, s69, s70, s71, s72, s73, s74, s75, s76, m_isSheet, hin, hf, m_cut, c60, nI_add, hcl, a62 (show 60 * t + k < 240 by omega), h1, h2, am_bv_s, am_bw_s, eq_self, true_or, or_true, am_b0, am_b1, am_em, if_true, if_false, true_and, and_true, false_and, and_false, not_true_eq_false, not_false_eq_true, false_or, or_false, Bool.false_eq_true]
        rfl
      · rw [if_neg h0] at hf ⊢
        exact ⟨am_setI M 59 4 (nI (sp_it h t f i)), by simp only [e148_0, e148_1, e148_4, e148_7, e148_8, e148_9, e148_10, e148_13, e148_16, e148_19, e148_21, e148_22, e148_23, e148_24, e148_25, e148_26, e148_29, e148_31, e148_33, e148_36, e148_38, e148_39, e148_40, e148_43, e148_45, e148_46, e148_47, e148_48, e148_49, e148_50, e148_52, e148_55, e148_56, e148_57, s59, s59_0, s59_1, s59_2, s59_3, s59_4, s59_5, s59_6, s59_7, s59_8, s59_9, s59_10, s59_11, s59_12, s59_13, s59_14, s59_15, s59_16, s59_17, s59_18, s59_19, s59_20, s59_21, s59_22, s59_23, s59_24, s59_25, s59_26, s59_27, s59_28, s59_29, s59_30, s59_31, r59_0, r59_1, r59_2, r59_3, r59_6, r59_8, r59_9, r59_13, r59_15, r59_16, r59_17, r59_19, r59_22, r59_23, r59_26, r59_30, r59_31, s60, s61, s62, s63, s64, s65, s66, s67, s68, s69, s70, s71, s72, s73, s74, s75, s76, m_isSheet, hin, hf, sp_it_m h0, h1, h2, am_bv_s, am_bw_s, eq_self, true_or, or_true, am_b0, am_b1, am_em, if_true, if_false, true_and, and_true, false_and, and_false, not_true_eq_false, not_false_eq_true, false_or, or_false, Bool.false_eq_true], hx.fd, am_of.rf.sI (Or.inl ⟨rfl, rfl⟩)⟩
    · rw [if_neg (fun q => h2 q.2)]
      exact ⟨M, by simp only [e148_0, e148_1, e148_4, e148_7, e148_8, e148_9, e148_10, e148_13, e148_16, e148_19, e148_21, e148_22, e148_23, e148_24, e148_25, e148_26, e148_29, e148_31, e148_33, e148_36, e148_38, e148_39, e148_40, e148_43, e148_45, e148_46, e148_47, e148_48, e148_49, e148_50, e148_52, e148_55, e148_56, e148_57, m_isSheet, hin, h1, h2, am_bv_s, am_bw_s, eq_self, true_or, or_true, am_b0, am_b1, am_em, if_true, if_false, true_and, and_true, false_and, and_false, not_true_eq_false, not_false_eq_true, false_or, or_false, Bool.false_eq_true], hx, am_of.rf⟩
  · rw [if_neg (fun q => h1 q.1)]
    exact ⟨M, by simp only [e148_0, e148_1, e148_4, e148_7, e148_8, e148_9, e148_10, e148_13, e148_16, e148_19, e148_21, e148_22, e148_23, e148_24, e148_25, e148_26, e148_29, e148_31, e148_33, e148_36, e148_38, e148_39, e148_40, e148_43, e148_45, e148_46, e148_47, e148_48, e148_49, e148_50, e148_52, e148_55, e148_56, e148_57, m_isSheet, h1, am_bv_s, am_bw_s, eq_self, true_or, or_true, am_b0, am_b1, am_em, if_true, if_false, true_and, and_true, false_and, and_false, not_true_eq_false, not_false_eq_true, false_or, or_false, Bool.false_eq_true], hx, am_of.rf⟩
theorem m_get (hx : mH h M) (ho : okH h) (s f i : Int32) : ∃ M', am_e X 149 0 [some (.ref (59 : Nat)), some (.int s), some (.int f), some (.int i)] [] kS M = some (some (.int (sp_get h s f i).1), kS, M') ∧ mH (sp_get h s f i).2 M' ∧ am_of pmH M M' := by
  have hin := q_in (X := X) (S := kS) (M := M) f 0 2 (by decide : (0 : Int32).toInt64 = 0) (by decide : (2 : Int32).toInt64 = 2)
  unfold sp_get
  by_cases h1 : 0 ≤ s ∧ s ≤ 3
  · by_cases h2 : 0 ≤ f ∧ f ≤ 2
    · rw [if_pos ⟨h1, h2⟩]
      obtain ⟨t, ht, rfl⟩ := in_nat (n := 3) h1.1 h1.2 (by decide)
      have hc := nI_clamp (n := t) (by omega)
      rw [hc]
      have ht4 : t < 4 := by omega
      have hf := m_lacks (X := X) (f := f) (i := i) hx ho ht4
      by_cases h0 : sp_it h t f i = 0
      · rw [if_pos h0] at hf ⊢
        obtain ⟨k1, k2, k, hk, rfl⟩ := sp_it_0 ho ht4 h0
        have hz := (ho.2 t ht4).2
        rw [nI_clamp (n := k) (by omega)]
        have hcl : (nI (60 * t + k)).toNatClampNeg = 60 * t + k := nI_clamp (by omega)
        refine ⟨M, ?_, hx, am_of.rf⟩
        simp only [e149_0, e149_1, e149_4, e149_7, e149_8, e149_9, e149_10, e149_13, e149_16, e149_19, e149_20, e149_21, e149_22, e149_23, e149_26, e149_29, e149_31, e149_32, e149_33, e149_36, e149_38, e149_39, e149_40, e149_41, e149_42, e149_43, s59, s59_0, s59_1, s59_2, s59_3, s59_4, s59_5, s59_6, s59_7, s59_8, s59_9, s59_10, s59_11, s59_12, s59_13, s59_14, s59_15, s59_16, s59_17, s59_18, s59_19, s59_20, s59_21, s59_22, s59_23, s59_24, s59_25, s59_26, s59_27, s59_28, s59_29, s59_30, s59_31, r59_0, r59_1, r59_2, r59_3, r59_6, r59_8, r59_9, r59_13, r59_15, r59_16, r59_17, r59_19, r59_22, r59_23, r59_26, r59_30, r59_31, s60, s61, s62, s63, s64, s65, s66, s67, s68, s69, s70, s71, s72, s73, s74, s75, s76, m_isSheet, hin, hf, c60, nI_add, hcl, a62 (show 60 * t + k < 240 by omega), ((hx.2 t ht4).2 k1).2 k hk, h1, h2, am_bv_s, am_bw_s, eq_self, true_or, or_true, am_b0, am_b1, am_em, if_true, if_false, true_and, and_true, false_and, and_false, not_true_eq_false, not_false_eq_true, false_or, or_false, Bool.false_eq_true]
      · rw [if_neg h0] at hf ⊢
        exact ⟨am_setI M 59 4 (nI (sp_it h t f i)), by simp only [e149_0, e149_1, e149_4, e149_7, e149_8, e149_9, e149_10, e149_13, e149_16, e149_19, e149_20, e149_21, e149_22, e149_23, e149_26, e149_29, e149_31, e149_32, e149_33, e149_36, e149_38, e149_39, e149_40, e149_41, e149_42, e149_43, s59, s59_0, s59_1, s59_2, s59_3, s59_4, s59_5, s59_6, s59_7, s59_8, s59_9, s59_10, s59_11, s59_12, s59_13, s59_14, s59_15, s59_16, s59_17, s59_18, s59_19, s59_20, s59_21, s59_22, s59_23, s59_24, s59_25, s59_26, s59_27, s59_28, s59_29, s59_30, s59_31, r59_0, r59_1, r59_2, r59_3, r59_6, r59_8, r59_9, r59_13, r59_15, r59_16, r59_17, r59_19, r59_22, r59_23, r59_26, r59_30, r59_31, s60, s61, s62, s63, s64, s65, s66, s67, s68, s69, s70, s71, s72, s73, s74, s75, s76, m_isSheet, hin, hf, sp_it_m h0, h1, h2, am_bv_s, am_bw_s, eq_self, true_or, or_true, am_b0, am_b1, am_em, if_true, if_false, true_and, and_true, false_and, and_false, not_true_eq_false, not_false_eq_true, false_or, or_false, Bool.false_eq_true], hx.fd, am_of.rf.sI (Or.inl ⟨rfl, rfl⟩)⟩
    · rw [if_neg (fun q => h2 q.2)]
      exact ⟨M, by simp only [e149_0, e149_1, e149_4, e149_7, e149_8, e149_9, e149_10, e149_13, e149_16, e149_19, e149_20, e149_21, e149_22, e149_23, e149_26, e149_29, e149_31, e149_32, e149_33, e149_36, e149_38, e149_39, e149_40, e149_41, e149_42, e149_43, m_isSheet, hin, h1, h2, am_bv_s, am_bw_s, eq_self, true_or, or_true, am_b0, am_b1, am_em, if_true, if_false, true_and, and_true, false_and, and_false, not_true_eq_false, not_false_eq_true, false_or, or_false, Bool.false_eq_true], hx, am_of.rf⟩
  · rw [if_neg (fun q => h1 q.1)]
    exact ⟨M, by simp only [e149_0, e149_1, e149_4, e149_7, e149_8, e149_9, e149_10, e149_13, e149_16, e149_19, e149_20, e149_21, e149_22, e149_23, e149_26, e149_29, e149_31, e149_32, e149_33, e149_36, e149_38, e149_39, e149_40, e149_41, e149_42, e149_43, m_isSheet, h1, am_bv_s, am_bw_s, eq_self, true_or, or_true, am_b0, am_b1, am_em, if_true, if_false, true_and, and_true, false_and, and_false, not_true_eq_false, not_false_eq_true, false_or, or_false, Bool.false_eq_true], hx, am_of.rf⟩
end
