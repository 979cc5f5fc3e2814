/-! both made: loops of the constructors, what is known at the start -/
section
variable {X : am_X} {S : am_Sh} {M M' M1 : am_Me} {P : Nat → Nat → Prop}
theorem gC {a b j : Nat} : (am_clr M a).1 b j = if b = a then 0 else M.1 b j := by
  show (if b = a then (fun _ => (0 : Int32)) else M.1 b) j = _
  by_cases e : b = a
  · rw [if_pos e, if_pos e]
  · rw [if_neg e, if_neg e]
theorem gCL {a b j : Nat} : (am_clr M a).2 b j = if b = a then 0 else M.2 b j := by
  show (if b = a then (fun _ => (0 : Int64)) else M.2 b) j = _
  by_cases e : b = a
  · rw [if_pos e, if_pos e]
  · rw [if_neg e, if_neg e]
theorem gCs {a b j : Nat} : ∀ n, (am_clrs M a n).1 b j = if a ≤ b ∧ b < a + n then 0 else M.1 b j
  | 0 => by rw [if_neg (by omega)]; rfl
  | n + 1 => by
    rw [am_clrs, gC, gCs n]
    by_cases e : b = a + n
    · rw [if_pos e, if_pos (by omega)]
    · rw [if_neg e]
      by_cases e2 : a ≤ b ∧ b < a + n
      · rw [if_pos e2, if_pos (by omega)]
      · rw [if_neg e2, if_neg (by omega)]
theorem gCsL {a b j : Nat} : ∀ n, (am_clrs M a n).2 b j = if a ≤ b ∧ b < a + n then 0 else M.2 b j
  | 0 => by rw [if_neg (by omega)]; rfl
  | n + 1 => by
    rw [am_clrs, gCL, gCsL n]
    by_cases e : b = a + n
    · rw [if_pos e, if_pos (by omega)]
    · rw [if_neg e]
      by_cases e2 : a ≤ b ∧ b < a + n
      · rw [if_pos e2, if_pos (by omega)]
      · rw [if_neg e2, if_neg (by omega)]
theorem am_of.cl {a : Nat} (h1 : am_of P M M1) (h : ∀ k, P a k) : am_of P M (am_clr M1 a) := by
  intro b j hn
  have e : ¬ b = a := fun q => hn (by rw [q]; exact h j)
  rw [gC, gCL, if_neg e, if_neg e]
  exact h1 b j hn
theorem am_of.cls {a n : Nat} (h1 : am_of P M M1) (h : ∀ b k, a ≤ b → b < a + n → P b k) : am_of P M (am_clrs M1 a n) := by
  intro b j hn
  have e : ¬ (a ≤ b ∧ b < a + n) := fun q => hn (h b j q.1 q.2)
  rw [gCs, gCsL, if_neg e, if_neg e]
  exact h1 b j hn
theorem ar_nS {a c n k : Nat} (h : am_is S a c = true) (hn : S.2.2.2.1 a = n) (hk : k < n) (hb : n < 2 ^ 31) : am_ar S a c (nI k) = true := by
  simp only [am_is, Bool.and_eq_true, decide_eq_true_eq, beq_iff_eq] at h
  unfold am_ar
  rw [nI_clamp (by omega)]
  simp only [Bool.and_eq_true, decide_eq_true_eq, beq_iff_eq, Bool.not_eq_true', decide_eq_false_iff_not]
  exact ⟨⟨⟨h.1, h.2⟩, nI_pos (by omega)⟩, by rw [hn]; exact hk⟩
theorem q_fillS {a n : Nat} {v : Int32} (ha : am_is S a 100 = true) (hl : S.2.2.2.1 a = n) (hn : n < 2 ^ 31) : ∃ M', am_e X 219 0 [some (.ref a), some (.int v), none, none] [] S M = some (none, S, M') ∧ (∀ j, j < n → M'.1 a j = v) ∧ am_of (fun b _ => b = a) M M' := by
  have hl2 : Int32.ofNat (S.2.2.2.1 a) = nI n := by rw [hl]; rfl
  obtain ⟨M', e1, g1, g2⟩ := am_lp (X := X) (S := S) (mi := 219) (pc := 5) n (fun i => [some (.ref a), some (.int v), some (.int (nI i)), some (.int (nI n))])
    (fun i M' => (∀ j, j < i → M'.1 a j = v) ∧ am_of (fun b _ => b = a) M M') (M := M) ⟨fun j hj => absurd hj (Nat.not_lt_zero _), am_of.rf⟩ (by
      intro j M2 hj hI
      obtain ⟨i1, i2⟩ := hI
      have hc : (nI j < nI n) = True := eq_true (nI_lt hj hn)
      have har : am_ar S a 100 (nI j) = true := ar_nS ha hl hj hn
      have hcl : (nI j).toNatClampNeg = j := nI_clamp (by omega)
      refine ⟨am_setI M2 a j v, ?_, fun k hk => ?_, am_of.sI (P := fun b _ => b = a) i2 rfl⟩
      · rw [e219_5]
        simp only [e219_0, e219_1, e219_2, e219_3, e219_4, e219_6, e219_7, e219_10, e219_11, e219_12, e219_13, e219_14, e219_17, e219_20, hc, har, hcl, nI_1, am_bv_s, am_bw_s, eq_self, true_or, or_true, am_b0, am_b1, am_em, if_true, if_false, true_and, and_true, false_and, and_false, not_true_eq_false, not_false_eq_true, false_or, or_false, Bool.false_eq_true]
      · rw [gI]
        by_cases e : k = j
        · rw [if_pos ⟨rfl, e⟩]
        · rw [if_neg (fun q => e q.2)]; exact i1 k (by omega))
  refine ⟨M', ?_, g1, g2⟩
  have hc : (nI n < nI n) = False := eq_false (nI_nlt (Nat.le_refl _) hn)
  have fin : am_e X 219 5 [some (.ref a), some (.int v), some (.int (nI n)), some (.int (nI n))] [] S M' = some (none, S, M') := by
    rw [e219_5]
    simp only [e219_0, e219_1, e219_2, e219_3, e219_4, e219_6, e219_7, e219_10, e219_11, e219_12, e219_13, e219_14, e219_17, e219_20, hc, am_bv_s, am_bw_s, eq_self, true_or, or_true, am_b0, am_b1, am_em, if_true, if_false, true_and, and_true, false_and, and_false, not_true_eq_false, not_false_eq_true, false_or, or_false, Bool.false_eq_true]
  rw [fin, nI_0] at e1
  rw [← e1]
  simp only [e219_0, e219_1, e219_2, e219_3, e219_4, e219_6, e219_7, e219_10, e219_11, e219_12, e219_13, e219_14, e219_17, e219_20, ha, hl2, am_bv_s, am_bw_s, eq_self, true_or, or_true, am_b0, am_b1, am_em, if_true, if_false, true_and, and_true, false_and, and_false, not_true_eq_false, not_false_eq_true, false_or, or_false, Bool.false_eq_true]
theorem fr_Dictionary : am_of (fun a _ => 1 ≤ a ∧ a < 6) M (mm_Dictionary M) := by
  unfold mm_Dictionary
  repeat' (first | exact am_of.rf | apply am_of.sI | apply am_of.sL | apply am_of.cls | apply am_of.cl)
  all_goals (try intros)
  all_goals omega
theorem fr_Shelf : am_of (fun a _ => 6 ≤ a ∧ a < 21) M (mm_Shelf M) := by
  unfold mm_Shelf
  repeat' (first | exact am_of.rf | apply am_of.sI | apply am_of.sL | apply am_of.cls | apply am_of.cl)
  all_goals (try intros)
  all_goals omega
theorem fr_WordList : am_of (fun a _ => 21 ≤ a ∧ a < 24) M (mm_WordList M) := by
  unfold mm_WordList
  repeat' (first | exact am_of.rf | apply am_of.sI | apply am_of.sL | apply am_of.cls | apply am_of.cl)
  all_goals (try intros)
  all_goals omega
theorem fr_Answers : am_of (fun a _ => 24 ≤ a ∧ a < 36) M (mm_Answers M) := by
  unfold mm_Answers
  repeat' (first | exact am_of.rf | apply am_of.sI | apply am_of.sL | apply am_of.cls | apply am_of.cl)
  all_goals (try intros)
  all_goals omega
theorem fr_Tallies : am_of (fun a _ => 36 ≤ a ∧ a < 48) M (mm_Tallies M) := by
  unfold mm_Tallies
  repeat' (first | exact am_of.rf | apply am_of.sI | apply am_of.sL | apply am_of.cls | apply am_of.cl)
  all_goals (try intros)
  all_goals omega
theorem fr_Model : am_of (fun a k => (a = 59 ∧ k = 18) ∨ (60 ≤ a ∧ a < 77)) M (mm_Model M) := by
  unfold mm_Model
  repeat' (first | exact am_of.rf | apply am_of.sI | apply am_of.sL | apply am_of.cls | apply am_of.cl)
  all_goals (try intros)
  all_goals omega
theorem vl_Dictionary : (mm_Dictionary M).1 1 4 = 0 := by
  unfold mm_Dictionary
  rw [gI, if_pos ⟨rfl, rfl⟩]
theorem vl_Shelf : (mm_Shelf M).1 6 8 = 0 ∧ ∀ k, k < 6 → ∀ d, (mm_Shelf M).1 (8 + k) d = 0 := by
  unfold mm_Shelf
  refine ⟨by rw [gI, if_pos ⟨rfl, rfl⟩], fun k hk d => ?_⟩
  simp only [gI, gLI, gC, gCs]
  repeat rw [if_neg (by omega)]
  rw [if_pos (by omega)]
theorem vl_WordList : (mm_WordList M).1 21 2 = 0 ∧ (mm_WordList M).1 21 3 = 0 ∧ (mm_WordList M).1 21 4 = -1 := by
  unfold mm_WordList
  refine ⟨?_, ?_, ?_⟩ <;> simp [gI]
theorem vl_Answers : (mm_Answers M).1 24 7 = 0 ∧ (mm_Answers M).1 24 8 = 999 := by
  unfold mm_Answers
  refine ⟨?_, ?_⟩ <;> simp [gI]
theorem vl_Tallies : ∀ t, t < 4 → ∀ k, (mm_Tallies M).1 (38 + t) k = 0 ∧ (mm_Tallies M).1 (43 + t) k = 0 := by
  unfold mm_Tallies
  intro t ht k
  constructor
  · simp only [gI, gLI, gC, gCs]
    repeat rw [if_neg (by omega)]
    rw [if_pos (by omega)]
  · simp only [gI, gLI, gC, gCs]
    repeat rw [if_neg (by omega)]
    rw [if_pos (by omega)]
theorem vl_Model : (mm_Model M).1 59 18 = 999 ∧ ∀ k, (mm_Model M).1 65 k = 0 := by
  unfold mm_Model
  constructor
  · simp only [gI, gLI, gC, gCs]
    repeat rw [if_neg (by omega)]
    rw [if_pos ⟨trivial, trivial⟩]
  · intro k
    simp only [gI, gLI, gC, gCs]
    repeat rw [if_neg (by omega)]
    rw [if_pos trivial]
theorem x_Answers : ∃ M', am_e X 1 0 [some (.ref (24 : Nat)), none] [] h36 M = some (none, h50, M') ∧ M'.1 24 7 = 0 ∧ M'.1 24 8 = 999 ∧ (∀ t, t < 4 → ∀ w, w < 40 → M'.1 (30 + t) w = -1) ∧ am_of (fun a _ => 24 ≤ a ∧ a < 36) M M' := by
  have u1 : am_ob h50 24 0 4 = true := by decide +kernel
  have u2 : am_hs h50 24 4 = true := by decide +kernel
  have u3 : am_rf h50 24 4 = 29 := by decide +kernel
  have u4 : am_is h50 29 103 = true := by decide +kernel
  have u5 : h50.2.2.2.1 29 = 4 := by decide +kernel
  have u6 : ∀ t, t < 4 → am_hs h50 29 t = true ∧ am_rf h50 29 t = 30 + t ∧ am_is h50 (30 + t) 100 = true ∧ h50.2.2.2.1 (30 + t) = 40 := by decide +kernel
  obtain ⟨M', e1, g1, g2⟩ := am_lp (X := X) (S := h50) (mi := 1) (pc := 77) 4 (fun i => [some (.ref (24 : Nat)), some (.int (nI i))])
    (fun i M' => (∀ t, t < i → ∀ w, w < 40 → M'.1 (30 + t) w = -1) ∧ am_of (fun a _ => 30 ≤ a ∧ a < 34) (mm_Answers M) M') (M := mm_Answers M) ⟨fun t ht => absurd ht (Nat.not_lt_zero _), am_of.rf⟩ (by
      intro j M2 hj hI
      obtain ⟨i1, i2⟩ := hI
      obtain ⟨v1, v2, v3, v4⟩ := u6 j hj
      have c1 : (nI j < 4) = True := eq_true (nI_lt (b := 4) hj (by decide))
      have cj : (nI j).toNatClampNeg = j := nI_clamp (by omega)
      have ar : am_ar h50 29 103 (nI j) = true := ar_nS u4 u5 hj (by decide)
      obtain ⟨M3, r1, r2, r3⟩ := q_fillS (X := X) (M := M2) (v := -1) v3 v4 (by decide)
      refine ⟨M3, ?_, fun t ht w hw => ?_, i2.tr (r3.mo fun a k q => by omega)⟩
      · rw [e1_77]
        simp only [e1_0, e1_1, e1_4, e1_5, e1_7, e1_9, e1_12, e1_13, e1_15, e1_17, e1_20, e1_21, e1_23, e1_25, e1_28, e1_29, e1_31, e1_33, e1_36, e1_37, e1_38, e1_40, e1_44, e1_47, e1_48, e1_50, e1_52, e1_55, e1_56, e1_58, e1_60, e1_63, e1_64, e1_65, e1_68, e1_69, e1_72, e1_75, e1_76, e1_78, e1_79, e1_82, e1_83, e1_86, e1_87, e1_88, e1_89, e1_92, e1_95, e1_98, u1, u2, u3, c1, cj, ar, v1, v2, r1, nI_1, am_bv_s, am_bw_s, eq_self, true_or, or_true, am_b0, am_b1, am_em, if_true, if_false, true_and, and_true, false_and, and_false, not_true_eq_false, not_false_eq_true, false_or, or_false, Bool.false_eq_true]
      · by_cases e : t = j
        · subst e; exact r2 w hw
        · rw [(r3 _ _ (by omega)).1]; exact i1 t (by omega) w hw)
  refine ⟨M', ?_, ?_, ?_, g1, fr_Answers.tr (g2.mo fun a k q => by omega)⟩
  · have c4 : (nI 4 < 4) = False := eq_false (by decide)
    have fin : am_e X 1 77 [some (.ref (24 : Nat)), some (.int (nI 4))] [] h50 M' = some (none, h50, M') := by
      rw [e1_77]
      simp only [e1_0, e1_1, e1_4, e1_5, e1_7, e1_9, e1_12, e1_13, e1_15, e1_17, e1_20, e1_21, e1_23, e1_25, e1_28, e1_29, e1_31, e1_33, e1_36, e1_37, e1_38, e1_40, e1_44, e1_47, e1_48, e1_50, e1_52, e1_55, e1_56, e1_58, e1_60, e1_63, e1_64, e1_65, e1_68, e1_69, e1_72, e1_75, e1_76, e1_78, e1_79, e1_82, e1_83, e1_86, e1_87, e1_88, e1_89, e1_92, e1_95, e1_98, c4, am_bv_s, am_bw_s, eq_self, true_or, or_true, am_b0, am_b1, am_em, if_true, if_false, true_and, and_true, false_and, and_false, not_true_eq_false, not_false_eq_true, false_or, or_false, Bool.false_eq_true]
    rw [fin, nI_0] at e1
    rw [ci_Answers, e1]
  · rw [(g2 _ _ (by omega)).1]; exact vl_Answers.1
  · rw [(g2 _ _ (by omega)).1]; exact vl_Answers.2
theorem x_Sheets : ∃ M', am_e X 39 0 [some (.ref (50 : Nat))] [] h64 M = some (none, h70, M') ∧ M'.1 50 3 = 0 ∧ (∀ t, t < 4 → M'.1 57 t = -1) ∧ am_of (fun a _ => 50 ≤ a ∧ a < 58) M M' := by
  have u1 : am_ob h70 50 4 2 = true := by decide +kernel
  have u2 : am_hs h70 50 2 = true := by decide +kernel
  have u3 : am_rf h70 50 2 = 57 := by decide +kernel
  obtain ⟨M', r1, r2, r3⟩ := q_fillS (X := X) (S := h70) (a := 57) (n := 4) (M := am_setI (am_clr (am_clr (am_clrs (am_clr M 51) (51 + 1) 4) 56) 57) 50 3 0) (v := -1) (by decide +kernel) (by decide +kernel) (by decide)
  have ofa : am_of (fun a _ => 50 ≤ a ∧ a < 58) M (am_setI (am_clr (am_clr (am_clrs (am_clr M 51) (51 + 1) 4) 56) 57) 50 3 0) := by
    repeat' (first | exact am_of.rf | apply am_of.sI | apply am_of.sL | apply am_of.cls | apply am_of.cl)
    all_goals (try intros)
    all_goals omega
  refine ⟨M', ?_, ?_, r2, ofa.tr (r3.mo fun a k q => by omega)⟩
  · simp only [e39_0, e39_1, e39_4, e39_5, e39_6, e39_8, e39_12, e39_15, e39_16, e39_17, e39_19, e39_22, e39_23, e39_24, e39_26, e39_29, e39_30, e39_31, e39_34, e39_35, e39_38, e39_39, e39_42, hn64, ht64, ho65_50_0, ht65, hn66, ht66, ho67_50_1, ht67, hn68, ht68, ho69_50_2, ht69, ho70_50_3, il4, ic4, ib4, il6, ic6, ib6, il7, ic7, ib7, il36, ic36, ib36, il40, ic40, ib40, il50, ic50, ib50, il60, ic60, ib60, il80, ic80, ib80, il120, ic120, ib120, il160, ic160, ib160, il240, ic240, ib240, il900, ic900, ib900, u1, u2, u3, r1, am_bv_s, am_bw_s, eq_self, true_or, or_true, am_b0, am_b1, am_em, if_true, if_false, true_and, and_true, false_and, and_false, not_true_eq_false, not_false_eq_true, false_or, or_false, Bool.false_eq_true]
  · rw [(r3 _ _ (by omega)).1, gI, if_pos ⟨rfl, rfl⟩]
theorem x_Chances : ∃ M', am_e X 11 0 [some (.ref (48 : Nat)), none, none] [] h60 M = some (none, h62, M') ∧ xC M' ∧ am_of (fun a _ => a = 49) M M' := by
  have u1 : am_ob h62 48 1 0 = true := by decide +kernel
  have u2 : am_hs h62 48 0 = true := by decide +kernel
  have u3 : am_rf h62 48 0 = 49 := by decide +kernel
  have ar : ∀ q, q < 900 → am_ar h62 49 101 (nI q) = true := fun q hq => ar_nS (by decide +kernel) (by decide +kernel) hq (by decide)
  have of0 : am_of (fun a _ => a = 49) M (mm_Chances M) := am_of.cl (P := fun a _ => a = 49) am_of.rf (fun _ => rfl)
  have z0 : ∀ q, (mm_Chances M).2 49 q = 0 := fun q => by
    unfold mm_Chances
    rw [gCL, if_pos rfl]
  obtain ⟨M', e1, g1, g2, g3⟩ := am_lp (X := X) (S := h62) (mi := 11) (pc := 15) 100 (fun i => [some (.ref (48 : Nat)), some (.int (nI i)), none])
    (fun i M' => (∀ n, n < i → ∀ k, k < 9 → M'.2 49 (9 * n + k) = lI (ch n k)) ∧ (∀ q, 9 * i ≤ q → M'.2 49 q = 0) ∧ am_of (fun a _ => a = 49) M M') (M := mm_Chances M) ⟨fun n hn => absurd hn (Nat.not_lt_zero _), fun q _ => z0 q, of0⟩ (by
      intro n M2 hn hI
      obtain ⟨i1, i2, i3⟩ := hI
      have c1 : (99 < nI n) = False := eq_false (by rw [show (99 : Int32) = nI 99 from rfl]; exact nI_nlt (by omega) (by decide))
      have e9 : nI n * 9 = nI (9 * n) := by rw [show nI n * (9 : Int32) = nI (n * 9) from pk_mul n 9, Nat.mul_comm]
      have c9 : (nI (9 * n)).toNatClampNeg = 9 * n := nI_clamp (by omega)
      have st : am_e X 11 15 [some (.ref (48 : Nat)), some (.int (nI n)), none] [] h62 M2 = am_e X 11 33 [some (.ref (48 : Nat)), some (.int (nI n)), some (.int (nI 1))] [] h62 (am_setL M2 49 (9 * n) 1) := by
        rw [e11_15]
        simp only [e11_0, e11_1, e11_4, e11_5, e11_8, e11_10, e11_13, e11_14, e11_16, e11_18, e11_21, e11_22, e11_25, e11_26, e11_28, e11_29, e11_30, e11_31, e11_32, e11_34, e11_37, e11_38, e11_40, e11_43, e11_44, e11_47, e11_48, e11_50, e11_51, e11_52, e11_53, e11_54, e11_57, e11_58, e11_59, e11_60, e11_62, e11_63, e11_64, e11_65, e11_66, e11_67, e11_68, e11_69, e11_72, e11_73, e11_74, e11_75, e11_77, e11_78, e11_79, e11_80, e11_81, e11_82, e11_83, e11_86, e11_89, e11_92, e11_95, u1, u2, u3, c1, e9, c9, ar (9 * n) (by omega), am_bv_s, am_bw_s, eq_self, true_or, or_true, am_b0, am_b1, am_em, if_true, if_false, true_and, and_true, false_and, and_false, not_true_eq_false, not_false_eq_true, false_or, or_false, Bool.false_eq_true]
        rfl
      have of1 : am_of (fun a _ => a = 49) M (am_setL M2 49 (9 * n) 1) := am_of.sL (P := fun a _ => a = 49) i3 rfl
      have old : ∀ (T : am_Me), (∀ q, q < 9 * n → T.2 49 q = M2.2 49 q) → ∀ p, p < n → ∀ k, k < 9 → T.2 49 (9 * p + k) = lI (ch p k) := fun T hT p hp k hk => by rw [hT _ (by omega)]; exact i1 p hp k hk
      by_cases h0 : n = 0
      · subst h0
        refine ⟨am_setL M2 49 (9 * 0) 1, ?_, fun p hp k hk => ?_, fun q hq => ?_, of1⟩
        · have cz : (0 < nI 0) = False := eq_false (by decide)
          rw [st, e11_33]
          simp only [e11_0, e11_1, e11_4, e11_5, e11_8, e11_10, e11_13, e11_14, e11_16, e11_18, e11_21, e11_22, e11_25, e11_26, e11_28, e11_29, e11_30, e11_31, e11_32, e11_34, e11_37, e11_38, e11_40, e11_43, e11_44, e11_47, e11_48, e11_50, e11_51, e11_52, e11_53, e11_54, e11_57, e11_58, e11_59, e11_60, e11_62, e11_63, e11_64, e11_65, e11_66, e11_67, e11_68, e11_69, e11_72, e11_73, e11_74, e11_75, e11_77, e11_78, e11_79, e11_80, e11_81, e11_82, e11_83, e11_86, e11_89, e11_92, e11_95, cz, nI_1, am_bv_s, am_bw_s, eq_self, true_or, or_true, am_b0, am_b1, am_em, if_true, if_false, true_and, and_true, false_and, and_false, not_true_eq_false, not_false_eq_true, false_or, or_false, Bool.false_eq_true]
        · obtain rfl : p = 0 := by omega
          rw [gL]
          by_cases e : k = 0
          · subst e
            rw [if_pos ⟨rfl, rfl⟩]
            rfl
          · rw [if_neg (by omega), i2 _ (by omega)]
            obtain ⟨k', rfl⟩ := Nat.exists_eq_succ_of_ne_zero e
            rfl
        · rw [gL, if_neg (by omega)]; exact i2 q (by omega)
      · have cp : (0 < nI n) = True := eq_true (nI_ltI (a := 0) (by decide) (by omega) |>.mpr (by omega))
        have e91 : (nI n - 1) * 9 = nI (9 * (n - 1)) := by
          rw [show nI n - 1 = nI (n - 1) from pk_sub (b := 1) (by omega), show nI (n - 1) * (9 : Int32) = nI ((n - 1) * 9) from pk_mul (n - 1) 9, Nat.mul_comm]
        obtain ⟨M3, e3, g1, g2, g3, g4⟩ := am_lp (X := X) (S := h62) (mi := 11) (pc := 33) 8 (fun i => [some (.ref (48 : Nat)), some (.int (nI n)), some (.int (nI (i + 1)))])
          (fun i M' => (∀ k, k < i + 1 → M'.2 49 (9 * n + k) = lI (ch n k)) ∧ (∀ q, q < 9 * n → M'.2 49 q = M2.2 49 q) ∧ (∀ q, 9 * (n + 1) ≤ q → M'.2 49 q = 0) ∧ am_of (fun a _ => a = 49) M M') (M := am_setL M2 49 (9 * n) 1) ⟨fun k hk => by
            obtain rfl : k = 0 := by omega
            rw [gL, if_pos ⟨rfl, rfl⟩, ch_z]; rfl, fun q hq => by rw [gL, if_neg (by omega)], fun q hq => by rw [gL, if_neg (by omega)]; exact i2 q (by omega), of1⟩ (by
            intro j M4 hj hI
            obtain ⟨j1, j2, j3, j4⟩ := hI
            have c2 : (nI (j + 1) < 9) = True := eq_true (nI_lt (b := 9) (by omega) (by decide))
            have ea : nI (9 * n) + nI (j + 1) = nI (9 * n + (j + 1)) := nI_add _ _
            have eb : nI (9 * (n - 1)) + nI (j + 1) = nI (9 * (n - 1) + (j + 1)) := nI_add _ _
            have ec : nI (9 * (n - 1) + (j + 1)) - 1 = nI (9 * (n - 1) + j) := pk_sub (a := 9 * (n - 1) + (j + 1)) (b := 1) (by omega)
            have d1 : (nI (9 * n + (j + 1))).toNatClampNeg = 9 * n + (j + 1) := nI_clamp (by omega)
            have d2 : (nI (9 * (n - 1) + (j + 1))).toNatClampNeg = 9 * (n - 1) + (j + 1) := nI_clamp (by omega)
            have d3 : (nI (9 * (n - 1) + j)).toNatClampNeg = 9 * (n - 1) + j := nI_clamp (by omega)
            have v1 : M4.2 49 (9 * (n - 1) + (j + 1)) = lI (ch (n - 1) (j + 1)) := by rw [j2 _ (by omega)]; exact i1 (n - 1) (by omega) (j + 1) (by omega)
            have v2 : M4.2 49 (9 * (n - 1) + j) = lI (ch (n - 1) j) := by rw [j2 _ (by omega)]; exact i1 (n - 1) (by omega) j (by omega)
            have e : lI (ch (n - 1) j) + lI (ch (n - 1) (j + 1)) = lI (ch n (j + 1)) := by
              rw [lI_add]
              obtain ⟨n', rfl⟩ := Nat.exists_eq_succ_of_ne_zero h0
              rfl
            refine ⟨am_setL M4 49 (9 * n + (j + 1)) (lI (ch n (j + 1))), ?_, fun k hk => ?_, fun q hq => ?_, fun q hq => ?_, am_of.sL (P := fun a _ => a = 49) j4 rfl⟩
            · rw [e11_33]
              simp only [e11_0, e11_1, e11_4, e11_5, e11_8, e11_10, e11_13, e11_14, e11_16, e11_18, e11_21, e11_22, e11_25, e11_26, e11_28, e11_29, e11_30, e11_31, e11_32, e11_34, e11_37, e11_38, e11_40, e11_43, e11_44, e11_47, e11_48, e11_50, e11_51, e11_52, e11_53, e11_54, e11_57, e11_58, e11_59, e11_60, e11_62, e11_63, e11_64, e11_65, e11_66, e11_67, e11_68, e11_69, e11_72, e11_73, e11_74, e11_75, e11_77, e11_78, e11_79, e11_80, e11_81, e11_82, e11_83, e11_86, e11_89, e11_92, e11_95, u1, u2, u3, cp, c2, e9, e91, ea, eb, ec, d1, d2, d3, v1, v2, e, nI_1, ar (9 * n + (j + 1)) (by omega), ar (9 * (n - 1) + (j + 1)) (by omega), ar (9 * (n - 1) + j) (by omega), am_bv_s, am_bw_s, eq_self, true_or, or_true, am_b0, am_b1, am_em, if_true, if_false, true_and, and_true, false_and, and_false, not_true_eq_false, not_false_eq_true, false_or, or_false, Bool.false_eq_true]
            · rw [gL]
              by_cases e : k = j + 1
              · subst e; rw [if_pos ⟨rfl, rfl⟩]
              · rw [if_neg (by omega)]; exact j1 k (by omega)
            · rw [gL, if_neg (by omega)]; exact j2 q hq
            · rw [gL, if_neg (by omega)]; exact j3 q hq)
        refine ⟨M3, ?_, fun p hp k hk => ?_, g3, g4⟩
        · have c2 : (nI (8 + 1) < 9) = False := eq_false (by decide)
          have fin : am_e X 11 33 [some (.ref (48 : Nat)), some (.int (nI n)), some (.int (nI (8 + 1)))] [] h62 M3 = am_e X 11 15 [some (.ref (48 : Nat)), some (.int (nI (n + 1))), none] [] h62 M3 := by
            rw [e11_33]
            simp only [e11_0, e11_1, e11_4, e11_5, e11_8, e11_10, e11_13, e11_14, e11_16, e11_18, e11_21, e11_22, e11_25, e11_26, e11_28, e11_29, e11_30, e11_31, e11_32, e11_34, e11_37, e11_38, e11_40, e11_43, e11_44, e11_47, e11_48, e11_50, e11_51, e11_52, e11_53, e11_54, e11_57, e11_58, e11_59, e11_60, e11_62, e11_63, e11_64, e11_65, e11_66, e11_67, e11_68, e11_69, e11_72, e11_73, e11_74, e11_75, e11_77, e11_78, e11_79, e11_80, e11_81, e11_82, e11_83, e11_86, e11_89, e11_92, e11_95, cp, c2, nI_1, am_bv_s, am_bw_s, eq_self, true_or, or_true, am_b0, am_b1, am_em, if_true, if_false, true_and, and_true, false_and, and_false, not_true_eq_false, not_false_eq_true, false_or, or_false, Bool.false_eq_true]
          rw [st, ← fin]
          exact e3
        · by_cases e : p = n
          · subst e; exact g1 k (by omega)
          · exact old M3 g2 p (by omega) k hk)
  refine ⟨M', ?_, g1, g3⟩
  have c1 : (99 < nI 100) = True := eq_true (by decide)
  have fin : am_e X 11 15 [some (.ref (48 : Nat)), some (.int (nI 100)), none] [] h62 M' = some (none, h62, M') := by
    rw [e11_15]
    simp only [e11_0, e11_1, e11_4, e11_5, e11_8, e11_10, e11_13, e11_14, e11_16, e11_18, e11_21, e11_22, e11_25, e11_26, e11_28, e11_29, e11_30, e11_31, e11_32, e11_34, e11_37, e11_38, e11_40, e11_43, e11_44, e11_47, e11_48, e11_50, e11_51, e11_52, e11_53, e11_54, e11_57, e11_58, e11_59, e11_60, e11_62, e11_63, e11_64, e11_65, e11_66, e11_67, e11_68, e11_69, e11_72, e11_73, e11_74, e11_75, e11_77, e11_78, e11_79, e11_80, e11_81, e11_82, e11_83, e11_86, e11_89, e11_92, e11_95, c1, am_bv_s, am_bw_s, eq_self, true_or, or_true, am_b0, am_b1, am_em, if_true, if_false, true_and, and_true, false_and, and_false, not_true_eq_false, not_false_eq_true, false_or, or_false, Bool.false_eq_true]
  rw [fin, nI_0] at e1
  rw [ci_Chances, e1]
end
