/-! the class's sheet acts -/
section
variable {X : am_X} {S : am_Sh} {M : am_Me} {h : sgH}
theorem xH.fd {k : Nat} (hx : xH h M) : xH (hFd h k) (am_setI M 50 3 (nI k)) := by
  refine ⟨by rw [gI, if_pos ⟨rfl, rfl⟩]; rfl, fun u hu => ?_⟩
  obtain ⟨h1, h2⟩ := hx.2 u hu
  refine ⟨by rw [gI, if_neg (by omega)]; exact h1, fun hl => ⟨by rw [gI, if_neg (by omega)]; exact (h2 hl).1, fun i hi => by rw [gI, if_neg (by omega)]; exact (h2 hl).2 i hi⟩⟩
theorem xH.los {t : Nat} (hx : xH h M) (ht : t < 4) : xH (hLos h t) (am_setI M 57 t (-1)) := by
  refine ⟨by rw [gI, if_neg (by omega)]; exact hx.1, fun u hu => ?_⟩
  obtain ⟨h1, h2⟩ := hx.2 u hu
  by_cases e : u = t
  · subst e
    refine ⟨by rw [gI, if_pos ⟨rfl, rfl⟩]; simp [hLos], fun hl => ?_⟩
    simp [hLos] at hl
  · refine ⟨by rw [gI, if_neg (by omega)]; simpa [hLos, e] using h1, fun hl => ?_⟩
    have hl' : h.1 u = false := by simpa [hLos, e] using hl
    exact ⟨by rw [gI, if_neg (by omega)]; exact (h2 hl').1, fun i hi => by rw [gI, if_neg (by omega)]; exact (h2 hl').2 i hi⟩
theorem xH.new {t f n : Nat} (hx : xH h M) (ht : t < 4) (hn : n ≤ 60) : xH (hNew h t f n) (am_setI (am_setI (am_setA M (52 + t) (fun j => if j < 60 then 0 else M.1 (52 + t) j)) 56 t (nI f)) 57 t (nI n)) := by
  refine ⟨by rw [gI, if_neg (by omega), gI, if_neg (by omega), gA, if_neg (by omega)]; exact hx.1, fun u hu => ?_⟩
  obtain ⟨h1, h2⟩ := hx.2 u hu
  by_cases e : u = t
  · subst e
    refine ⟨by rw [gI, if_pos ⟨rfl, rfl⟩]; simp [hNew], fun hl => ⟨by rw [gI, if_neg (by omega), gI, if_pos ⟨rfl, rfl⟩]; simp [hNew], fun i hi => ?_⟩⟩
    have hi' : i < n := by simpa [hNew] using hi
    rw [gI, if_neg (by omega), gI, if_neg (by omega), gA, if_pos rfl, if_pos (by omega)]
    simp [hNew]
  · refine ⟨by rw [gI, if_neg (by omega), gI, if_neg (by omega), gA, if_neg (by omega)]; simpa [hNew, e] using h1, fun hl => ?_⟩
    have hl' : h.1 u = false := by simpa [hNew, e] using hl
    refine ⟨by rw [gI, if_neg (by omega), gI, if_neg (by omega), gA, if_neg (by omega)]; simpa [hNew, e] using (h2 hl').1, fun i hi => ?_⟩
    rw [gI, if_neg (by omega), gI, if_neg (by omega), gA, if_neg (by omega)]
    simpa [hNew, e] using (h2 hl').2 i (by simpa [hNew, e] using hi)
theorem xH.put {t i : Nat} {v : Int32} (hx : xH h M) (ht : t < 4) : xH (hPut h t i v) (am_setI M (52 + t) i v) := by
  refine ⟨by rw [gI, if_neg (by omega)]; exact hx.1, fun u hu => ?_⟩
  obtain ⟨h1, h2⟩ := hx.2 u hu
  refine ⟨by rw [gI, if_neg (by omega)]; exact h1, fun hl => ⟨by rw [gI, if_neg (by omega)]; exact (h2 hl).1, fun j hj => ?_⟩⟩
  rw [gI]
  by_cases e : u = t ∧ j = i
  · rw [if_pos (by omega)]
    simp [hPut, e]
  · rw [if_neg (by omega)]
    have := (h2 hl).2 j hj
    simpa [hPut, e] using this
theorem xH.cpy {s t i j n : Nat} (hx : xH h M) (hs : s < 4) (ht : t < 4) (hl1 : h.1 s = false) (hi : i + n ≤ h.2.2.1 s) : xH (hCpy h s t i j n) (am_setA M (52 + t) (va_cpy (M.1 (52 + s)) (M.1 (52 + t)) i j n)) := by
  refine ⟨by rw [gA, if_neg (by omega)]; exact hx.1, fun u hu => ?_⟩
  obtain ⟨h1, h2⟩ := hx.2 u hu
  refine ⟨by rw [gA, if_neg (by omega)]; exact h1, fun hl => ⟨by rw [gA, if_neg (by omega)]; exact (h2 hl).1, fun q hq => ?_⟩⟩
  rw [gA]
  by_cases e : u = t
  · subst e
    rw [if_pos rfl]
    unfold va_cpy
    by_cases e2 : j ≤ q ∧ q < j + n
    · rw [if_pos e2, ((hx.2 s hs).2 hl1).2 _ (by omega)]
      simp [hCpy, e2]
    · rw [if_neg e2, (h2 hl).2 q hq]
      simp [hCpy, e2]
  · rw [if_neg (by omega), (h2 hl).2 q hq]
    simp [hCpy, e]
theorem x_sheet (hx : xH h M) (s f n : Int32) : ∃ M', am_e X 114 0 [some (.ref (0 : Nat)), some (.int s), some (.int f), some (.int n)] [] kS M = some (some (.int (sp_sheet h s f n).1), kS, M') ∧ xH (sp_sheet h s f n).2 M' ∧ am_of pxH M M' := by
  unfold sp_sheet
  by_cases h1 : 0 ≤ s ∧ s ≤ 3
  · by_cases h2 : 0 ≤ f ∧ f ≤ 2
    · by_cases h3 : 60 < n
      · rw [if_neg (fun q => q.2.2 h3)]
        exact ⟨M, by simp only [e114_0, e114_1, e114_4, e114_7, e114_8, e114_11, e114_14, e114_15, e114_17, e114_20, e114_22, e114_23, e114_24, e114_27, e114_28, e114_31, e114_32, e114_35, e114_36, e114_37, e114_40, e114_41, e114_42, e114_43, e114_46, e114_47, q_isSheet, q_isForm, h1, h2, h3, am_bv_s, am_bw_s, eq_self, true_or, or_true, am_b0, am_b1, am_em, if_true, if_false, true_and, and_true, false_and, and_false, not_true_eq_false, not_false_eq_true, false_or, or_false], hx, am_of.rf⟩
      · rw [if_pos ⟨h1, h2, h3⟩]
        by_cases h4 : n < 0
        · rw [if_pos h4]
          exact ⟨am_setI M 50 3 (nI 5), by simp only [e114_0, e114_1, e114_4, e114_7, e114_8, e114_11, e114_14, e114_15, e114_17, e114_20, e114_22, e114_23, e114_24, e114_27, e114_28, e114_31, e114_32, e114_35, e114_36, e114_37, e114_40, e114_41, e114_42, e114_43, e114_46, e114_47, s0, s0_0, s0_1, s0_2, s0_3, s0_4, s0_5, s0_6, s0_7, r0_0, r0_1, r0_2, r0_3, r0_4, r0_5, r0_6, r0_7, s50, s50_0, s50_1, s50_2, s50_3, r50_0, r50_1, r50_2, s51, s52, s53, s54, s55, s56, s57, q_isSheet, q_isForm, q_refuse, h1, h2, h3, h4, am_bv_s, am_bw_s, eq_self, true_or, or_true, am_b0, am_b1, am_em, if_true, if_false, true_and, and_true, false_and, and_false, not_true_eq_false, not_false_eq_true, false_or, or_false]; rfl, hx.fd, am_of.rf.sI (Or.inl rfl)⟩
        · rw [if_neg h4]
          obtain ⟨t, ht, rfl⟩ := in_nat (n := 3) h1.1 h1.2 (by decide)
          obtain ⟨g, hg, rfl⟩ := in_nat (n := 2) h2.1 h2.2 (by decide)
          obtain ⟨k, hk, rfl⟩ := in_nat (n := 60) (Int32.not_lt.mp h4) (Int32.not_lt.mp h3) (by decide)
          rw [nI_clamp (by omega), nI_clamp (by omega), nI_clamp (by omega)]
          refine ⟨_, by simp only [e114_0, e114_1, e114_4, e114_7, e114_8, e114_11, e114_14, e114_15, e114_17, e114_20, e114_22, e114_23, e114_24, e114_27, e114_28, e114_31, e114_32, e114_35, e114_36, e114_37, e114_40, e114_41, e114_42, e114_43, e114_46, e114_47, s0, s0_0, s0_1, s0_2, s0_3, s0_4, s0_5, s0_6, s0_7, r0_0, r0_1, r0_2, r0_3, r0_4, r0_5, r0_6, r0_7, s50, s50_0, s50_1, s50_2, s50_3, r50_0, r50_1, r50_2, s51, s52, s53, s54, s55, s56, s57, q_isSheet, q_isForm, q_makeNew (show t < 4 by omega), h1, h2, h3, h4, am_bv_s, am_bw_s, eq_self, true_or, or_true, am_b0, am_b1, am_em, if_true, if_false, true_and, and_true, false_and, and_false, not_true_eq_false, not_false_eq_true, false_or, or_false], hx.new (by omega) hk, ?_⟩
          exact ((am_of.rf.sA (fun k => Or.inl (Or.inr (by omega)))).sI (Or.inr (by omega))).sI (Or.inr (by omega))
    · rw [if_neg (fun q => h2 q.2.1)]
      exact ⟨M, by simp only [e114_0, e114_1, e114_4, e114_7, e114_8, e114_11, e114_14, e114_15, e114_17, e114_20, e114_22, e114_23, e114_24, e114_27, e114_28, e114_31, e114_32, e114_35, e114_36, e114_37, e114_40, e114_41, e114_42, e114_43, e114_46, e114_47, q_isSheet, q_isForm, h1, h2, am_bv_s, am_bw_s, eq_self, true_or, or_true, am_b0, am_b1, am_em, if_true, if_false, true_and, and_true, false_and, and_false, not_true_eq_false, not_false_eq_true, false_or, or_false], hx, am_of.rf⟩
  · rw [if_neg (fun q => h1 q.1)]
    exact ⟨M, by simp only [e114_0, e114_1, e114_4, e114_7, e114_8, e114_11, e114_14, e114_15, e114_17, e114_20, e114_22, e114_23, e114_24, e114_27, e114_28, e114_31, e114_32, e114_35, e114_36, e114_37, e114_40, e114_41, e114_42, e114_43, e114_46, e114_47, q_isSheet, q_isForm, h1, am_bv_s, am_bw_s, eq_self, true_or, or_true, am_b0, am_b1, am_em, if_true, if_false, true_and, and_true, false_and, and_false, not_true_eq_false, not_false_eq_true, false_or, or_false], hx, am_of.rf⟩
theorem x_lose (hx : xH h M) (ho : okH h) (s : Int32) : ∃ M', am_e X 115 0 [some (.ref (0 : Nat)), some (.int s), none] [] kS M = some (some (.int (sp_lose h s).1), kS, M') ∧ xH (sp_lose h s).2 M' ∧ am_of pxH M M' := by
  unfold sp_lose
  by_cases h1 : 0 ≤ s ∧ s ≤ 3
  · rw [if_pos h1]
    obtain ⟨t, ht, rfl⟩ := in_nat (n := 3) h1.1 h1.2 (by decide)
    rw [nI_clamp (by omega)]
    have ht4 : t < 4 := by omega
    obtain ⟨g1, g2⟩ := hx.2 t ht4
    by_cases h2 : h.1 t = true
    · rw [if_pos h2] at g1 ⊢
      exact ⟨am_setI M 50 3 (nI 1), by simp only [e115_0, e115_1, e115_4, e115_7, e115_9, e115_10, e115_11, e115_14, e115_15, e115_18, e115_21, e115_22, e115_25, e115_26, e115_29, e115_30, e115_31, e115_34, e115_35, e115_38, e115_39, e115_40, e115_43, e115_44, e115_47, e115_48, s0, s0_0, s0_1, s0_2, s0_3, s0_4, s0_5, s0_6, s0_7, r0_0, r0_1, r0_2, r0_3, r0_4, r0_5, r0_6, r0_7, s50, s50_0, s50_1, s50_2, s50_3, r50_0, r50_1, r50_2, s51, s52, s53, s54, s55, s56, s57, q_isSheet, q_isLost ht4, q_refuse, g1, h1, am_bv_s, am_bw_s, eq_self, true_or, or_true, am_b0, am_b1, am_em, if_true, if_false, true_and, and_true, false_and, and_false, not_true_eq_false, not_false_eq_true, false_or, or_false]; rfl, hx.fd, am_of.rf.sI (Or.inl rfl)⟩
    · rw [if_neg h2] at g1 ⊢
      have hne := nI_n1 (k := h.2.2.1 t) (by have := (ho.2 t ht4).2; omega)
      exact ⟨am_setI M 57 t (-1), by simp only [e115_0, e115_1, e115_4, e115_7, e115_9, e115_10, e115_11, e115_14, e115_15, e115_18, e115_21, e115_22, e115_25, e115_26, e115_29, e115_30, e115_31, e115_34, e115_35, e115_38, e115_39, e115_40, e115_43, e115_44, e115_47, e115_48, s0, s0_0, s0_1, s0_2, s0_3, s0_4, s0_5, s0_6, s0_7, r0_0, r0_1, r0_2, r0_3, r0_4, r0_5, r0_6, r0_7, s50, s50_0, s50_1, s50_2, s50_3, r50_0, r50_1, r50_2, s51, s52, s53, s54, s55, s56, s57, q_isSheet, q_isLost ht4, q_sizeOf ht4, q_drop ht4, g1, h1, hne, am_bv_s, am_bw_s, eq_self, true_or, or_true, am_b0, am_b1, am_em, if_true, if_false, true_and, and_true, false_and, and_false, not_true_eq_false, not_false_eq_true, false_or, or_false], hx.los ht4, am_of.rf.sI (Or.inr (by omega))⟩
  · rw [if_neg h1]
    exact ⟨M, by simp only [e115_0, e115_1, e115_4, e115_7, e115_9, e115_10, e115_11, e115_14, e115_15, e115_18, e115_21, e115_22, e115_25, e115_26, e115_29, e115_30, e115_31, e115_34, e115_35, e115_38, e115_39, e115_40, e115_43, e115_44, e115_47, e115_48, q_isSheet, h1, am_bv_s, am_bw_s, eq_self, true_or, or_true, am_b0, am_b1, am_em, if_true, if_false, true_and, and_true, false_and, and_false, not_true_eq_false, not_false_eq_true, false_or, or_false], hx, am_of.rf⟩
theorem sp_fi_it {t : Nat} {f i : Int32} (hx : xH h M) (ho : okH h) (ht : t < 4) : sp_fi (M.1 57 t) (M.1 56 t) f i = nI (sp_it h t f i) := by
  obtain ⟨g1, g2⟩ := hx.2 t ht
  unfold sp_fi sp_it
  by_cases h2 : h.1 t = true
  · rw [if_pos h2] at g1
    rw [if_pos g1, if_pos h2]
    rfl
  · rw [if_neg h2] at g1
    have hne := nI_n1 (k := h.2.2.1 t) (by have := (ho.2 t ht).2; omega)
    have h3 : h.1 t = false := by simpa using h2
    rw [if_neg (by rw [g1, hne]; exact fun q => q), if_neg h2, (g2 h3).1, g1]
    by_cases h4 : nI (h.2.1 t) = f
    · rw [if_pos h4, if_pos h4]
      by_cases h5 : i < 0
      · rw [if_pos h5, if_pos h5]; rfl
      · rw [if_neg h5, if_neg h5]
        by_cases h6 : i < nI (h.2.2.1 t)
        · rw [if_pos h6, if_pos h6]; rfl
        · rw [if_neg h6, if_neg h6]; rfl
    · rw [if_neg h4, if_neg h4]; rfl
theorem x_foi {t : Nat} {f i : Int32} (hx : xH h M) (ho : okH h) (ht : t < 4) : am_e X 49 0 [some (.ref (50 : Nat)), some (.int (nI t)), some (.int f), some (.int i)] [] kS M = some (some (.int (nI (sp_it h t f i))), kS, M) := by
  rw [q_findingOfItem ht, sp_fi_it hx ho ht]
theorem sp_it_le {t : Nat} {f i : Int32} : sp_it h t f i ≤ 3 := by
  unfold sp_it
  repeat' split
  all_goals omega
theorem sp_it_0 {t : Nat} {f i : Int32} (ho : okH h) (ht : t < 4) (h0 : sp_it h t f i = 0) : h.1 t = false ∧ nI (h.2.1 t) = f ∧ ∃ k, k < h.2.2.1 t ∧ i = nI k := by
  unfold sp_it at h0
  split at h0
  · omega
  · rename_i h1
    split at h0
    · rename_i h2
      split at h0
      · omega
      · rename_i h3
        split at h0
        · rename_i h4
          have hz := (ho.2 t ht).2
          obtain ⟨k, hk, rfl⟩ := nI_of h3
          exact ⟨by simpa using h1, h2, k, (nI_ltI hk (by omega)).mp h4, rfl⟩
        · omega
    · omega
theorem x_lay (hx : xH h M) (ho : okH h) (s f i v : Int32) : ∃ M', am_e X 116 0 [some (.ref (0 : Nat)), some (.int s), some (.int f), some (.int i), some (.int v), none] [] kS M = some (some (.int (sp_lay h s f i v).1), kS, M') ∧ xH (sp_lay h s f i v).2 M' ∧ am_of pxH M M' := by
  unfold sp_lay
  by_cases h1 : 0 ≤ s ∧ s ≤ 3
  · by_cases h2 : 0 ≤ f ∧ f ≤ 2
    · rw [if_pos ⟨h1, h2⟩]
      obtain ⟨t, ht, rfl⟩ := in_nat (n := 3) h1.1 h1.2 (by decide)
      rw [nI_clamp (by omega)]
      have ht4 : t < 4 := by omega
      have hf := x_foi (X := X) (f := f) (i := i) hx ho ht4
      have hle := sp_it_le (h := h) (t := t) (f := f) (i := i)
      by_cases h0 : sp_it h t f i = 0
      · rw [if_pos h0]
        obtain ⟨k1, k2, k, hk, rfl⟩ := sp_it_0 ho ht4 h0
        have hz := (ho.2 t ht4).2
        rw [nI_clamp (by omega)]
        rw [h0] at hf
        have hfm : M.1 56 t = f := (((hx.2 t ht4).2 k1).1).trans k2
        refine ⟨am_setI M (52 + t) k (sp_cut f v), ?_, hx.put ht4, am_of.rf.sI (Or.inr (by omega))⟩
        have hp := q_putItem (X := X) (M := M) (v := v) ht4 (show k < 60 by omega)
        rw [hfm] at hp
        simp only [e116_0, e116_1, e116_4, e116_7, e116_8, e116_11, e116_14, e116_16, e116_17, e116_18, e116_21, e116_22, e116_23, e116_24, e116_27, e116_29, e116_31, e116_34, e116_35, e116_38, e116_40, e116_43, e116_44, e116_45, e116_48, e116_49, e116_50, e116_52, e116_55, e116_56, s0, s0_0, s0_1, s0_2, s0_3, s0_4, s0_5, s0_6, s0_7, r0_0, r0_1, r0_2, r0_3, r0_4, r0_5, r0_6, r0_7, s50, s50_0, s50_1, s50_2, s50_3, r50_0, r50_1, r50_2, s51, s52, s53, s54, s55, s56, s57, q_isSheet, q_isForm, hf, hp, nI_0, h1, h2, am_bv_s, am_bw_s, eq_self, true_or, or_true, am_b0, am_b1, am_em, if_true, if_false, true_and, and_true, false_and, and_false, not_true_eq_false, not_false_eq_true, false_or, or_false]
      · rw [if_neg h0]
        have hn : (nI (sp_it h t f i) = 0) = False := eq_false (by rw [nI_0e (by omega)]; exact h0)
        exact ⟨am_setI M 50 3 (nI (sp_it h t f i)), by simp only [e116_0, e116_1, e116_4, e116_7, e116_8, e116_11, e116_14, e116_16, e116_17, e116_18, e116_21, e116_22, e116_23, e116_24, e116_27, e116_29, e116_31, e116_34, e116_35, e116_38, e116_40, e116_43, e116_44, e116_45, e116_48, e116_49, e116_50, e116_52, e116_55, e116_56, s0, s0_0, s0_1, s0_2, s0_3, s0_4, s0_5, s0_6, s0_7, r0_0, r0_1, r0_2, r0_3, r0_4, r0_5, r0_6, r0_7, s50, s50_0, s50_1, s50_2, s50_3, r50_0, r50_1, r50_2, s51, s52, s53, s54, s55, s56, s57, q_isSheet, q_isForm, q_refuse, hf, hn, h1, h2, am_bv_s, am_bw_s, eq_self, true_or, or_true, am_b0, am_b1, am_em, if_true, if_false, true_and, and_true, false_and, and_false, not_true_eq_false, not_false_eq_true, false_or, or_false], hx.fd, am_of.rf.sI (Or.inl rfl)⟩
    · rw [if_neg (fun q => h2 q.2)]
      exact ⟨M, by simp only [e116_0, e116_1, e116_4, e116_7, e116_8, e116_11, e116_14, e116_16, e116_17, e116_18, e116_21, e116_22, e116_23, e116_24, e116_27, e116_29, e116_31, e116_34, e116_35, e116_38, e116_40, e116_43, e116_44, e116_45, e116_48, e116_49, e116_50, e116_52, e116_55, e116_56, q_isSheet, q_isForm, h1, h2, am_bv_s, am_bw_s, eq_self, true_or, or_true, am_b0, am_b1, am_em, if_true, if_false, true_and, and_true, false_and, and_false, not_true_eq_false, not_false_eq_true, false_or, or_false], hx, am_of.rf⟩
  · rw [if_neg (fun q => h1 q.1)]
    exact ⟨M, by simp only [e116_0, e116_1, e116_4, e116_7, e116_8, e116_11, e116_14, e116_16, e116_17, e116_18, e116_21, e116_22, e116_23, e116_24, e116_27, e116_29, e116_31, e116_34, e116_35, e116_38, e116_40, e116_43, e116_44, e116_45, e116_48, e116_49, e116_50, e116_52, e116_55, e116_56, q_isSheet, q_isForm, h1, am_bv_s, am_bw_s, eq_self, true_or, or_true, am_b0, am_b1, am_em, if_true, if_false, true_and, and_true, false_and, and_false, not_true_eq_false, not_false_eq_true, false_or, or_false], hx, am_of.rf⟩
theorem x_get (hx : xH h M) (ho : okH h) (s f i : Int32) : ∃ M', am_e X 117 0 [some (.ref (0 : Nat)), some (.int s), some (.int f), some (.int i), none] [] kS M = some (some (.int (sp_get h s f i).1), kS, M') ∧ xH (sp_get h s f i).2 M' ∧ am_of pxH M M' := by
  unfold sp_get
  by_cases h1 : 0 ≤ s ∧ s ≤ 3
  · by_cases h2 : 0 ≤ f ∧ f ≤ 2
    · rw [if_pos ⟨h1, h2⟩]
      obtain ⟨t, ht, rfl⟩ := in_nat (n := 3) h1.1 h1.2 (by decide)
      rw [nI_clamp (by omega)]
      have ht4 : t < 4 := by omega
      have hf := x_foi (X := X) (f := f) (i := i) hx ho ht4
      have hle := sp_it_le (h := h) (t := t) (f := f) (i := i)
      by_cases h0 : sp_it h t f i = 0
      · rw [if_pos h0]
        obtain ⟨k1, k2, k, hk, rfl⟩ := sp_it_0 ho ht4 h0
        have hz := (ho.2 t ht4).2
        rw [nI_clamp (by omega)]
        rw [h0] at hf
        refine ⟨M, ?_, hx, am_of.rf⟩
        simp only [e117_0, e117_1, e117_4, e117_7, e117_8, e117_11, e117_14, e117_17, e117_18, e117_19, e117_22, e117_23, e117_24, e117_25, e117_28, e117_30, e117_32, e117_35, e117_36, e117_39, e117_40, e117_41, e117_44, e117_45, e117_46, e117_49, e117_51, e117_54, e117_55, e117_58, s0, s0_0, s0_1, s0_2, s0_3, s0_4, s0_5, s0_6, s0_7, r0_0, r0_1, r0_2, r0_3, r0_4, r0_5, r0_6, r0_7, s50, s50_0, s50_1, s50_2, s50_3, r50_0, r50_1, r50_2, s51, s52, s53, s54, s55, s56, s57, q_isSheet, q_isForm, hf, q_item ht4 (show k < 60 by omega), ((hx.2 t ht4).2 k1).2 k hk, nI_0, h1, h2, am_bv_s, am_bw_s, eq_self, true_or, or_true, am_b0, am_b1, am_em, if_true, if_false, true_and, and_true, false_and, and_false, not_true_eq_false, not_false_eq_true, false_or, or_false]
      · rw [if_neg h0]
        have hn : (nI (sp_it h t f i) = 0) = False := eq_false (by rw [nI_0e (by omega)]; exact h0)
        exact ⟨am_setI M 50 3 (nI (sp_it h t f i)), by simp only [e117_0, e117_1, e117_4, e117_7, e117_8, e117_11, e117_14, e117_17, e117_18, e117_19, e117_22, e117_23, e117_24, e117_25, e117_28, e117_30, e117_32, e117_35, e117_36, e117_39, e117_40, e117_41, e117_44, e117_45, e117_46, e117_49, e117_51, e117_54, e117_55, e117_58, s0, s0_0, s0_1, s0_2, s0_3, s0_4, s0_5, s0_6, s0_7, r0_0, r0_1, r0_2, r0_3, r0_4, r0_5, r0_6, r0_7, s50, s50_0, s50_1, s50_2, s50_3, r50_0, r50_1, r50_2, s51, s52, s53, s54, s55, s56, s57, q_isSheet, q_isForm, q_refuse, hf, hn, h1, h2, am_bv_s, am_bw_s, eq_self, true_or, or_true, am_b0, am_b1, am_em, if_true, if_false, true_and, and_true, false_and, and_false, not_true_eq_false, not_false_eq_true, false_or, or_false], hx.fd, am_of.rf.sI (Or.inl rfl)⟩
    · rw [if_neg (fun q => h2 q.2)]
      exact ⟨M, by simp only [e117_0, e117_1, e117_4, e117_7, e117_8, e117_11, e117_14, e117_17, e117_18, e117_19, e117_22, e117_23, e117_24, e117_25, e117_28, e117_30, e117_32, e117_35, e117_36, e117_39, e117_40, e117_41, e117_44, e117_45, e117_46, e117_49, e117_51, e117_54, e117_55, e117_58, q_isSheet, q_isForm, h1, h2, am_bv_s, am_bw_s, eq_self, true_or, or_true, am_b0, am_b1, am_em, if_true, if_false, true_and, and_true, false_and, and_false, not_true_eq_false, not_false_eq_true, false_or, or_false], hx, am_of.rf⟩
  · rw [if_neg (fun q => h1 q.1)]
    exact ⟨M, by simp only [e117_0, e117_1, e117_4, e117_7, e117_8, e117_11, e117_14, e117_17, e117_18, e117_19, e117_22, e117_23, e117_24, e117_25, e117_28, e117_30, e117_32, e117_35, e117_36, e117_39, e117_40, e117_41, e117_44, e117_45, e117_46, e117_49, e117_51, e117_54, e117_55, e117_58, q_isSheet, q_isForm, h1, am_bv_s, am_bw_s, eq_self, true_or, or_true, am_b0, am_b1, am_em, if_true, if_false, true_and, and_true, false_and, and_false, not_true_eq_false, not_false_eq_true, false_or, or_false], hx, am_of.rf⟩
theorem sub_lt_iff {z : Nat} {i n : Int32} (hz : z ≤ 60) (h0 : ¬ i < 0) : (nI z - i < n) ↔ ¬ (i.toInt + n.toInt ≤ z) := by
  have h1 := nI_toInt (n := z) (by omega)
  have h2 : 0 ≤ i.toInt := Jvm.Kit.i32_nonneg.mp (Int32.not_lt.mp h0)
  have h3 := Int32.toInt_lt i
  have h4 := Int32.le_toInt i
  rw [Int32.lt_iff_toInt_lt, Jvm.Kit.i32_sub (by omega) (by omega), h1]
  omega
theorem sp_fc_cf {t u : Nat} {i j n : Int32} (hx : xH h M) (ho : okH h) (ht : t < 4) (hu : u < 4) : sp_fc (M.1 57 t) (M.1 57 u) (M.1 56 t) (M.1 56 u) i j n = nI (sp_cf h t u i j n) := by
  obtain ⟨g1, g2⟩ := hx.2 t ht
  obtain ⟨g3, g4⟩ := hx.2 u hu
  unfold sp_fc sp_cf
  by_cases h2 : h.1 t = true
  · rw [if_pos h2] at g1
    rw [g1, if_pos (Or.inl rfl), if_pos (Or.inl h2)]
    rfl
  · by_cases h3 : h.1 u = true
    · rw [if_pos h3] at g3
      rw [g3, if_pos (Or.inr rfl), if_pos (Or.inr h3)]
      rfl
    · rw [if_neg h2] at g1
      rw [if_neg h3] at g3
      have hz1 := ho.2 t ht
      have hz2 := ho.2 u hu
      have n1 := nI_n1 (k := h.2.2.1 t) (by omega)
      have n2 := nI_n1 (k := h.2.2.1 u) (by omega)
      have e1 : h.1 t = false := by simpa using h2
      have e2 : h.1 u = false := by simpa using h3
      have c1 : ¬ (nI (h.2.2.1 t) = -1 ∨ nI (h.2.2.1 u) = -1) := by
        rw [n1, n2]
        exact fun q => q.elim id id
      have c2 : ¬ (h.1 t = true ∨ h.1 u = true) := fun q => q.elim h2 h3
      rw [g1, g3, (g2 e1).1, (g4 e2).1, if_neg c1, if_neg c2]
      by_cases h5 : h.2.1 t = h.2.1 u
      · have h5' : nI (h.2.1 t) = nI (h.2.1 u) := by rw [h5]
        rw [if_pos h5', if_pos h5]
        by_cases h6 : i < 0 ∨ j < 0 ∨ n < 0
        · have c3 : ¬ ((0 ≤ i ∧ 0 ≤ j ∧ 0 ≤ n) ∧ i.toInt + n.toInt ≤ h.2.2.1 t ∧ j.toInt + n.toInt ≤ h.2.2.1 u) := by
            rintro ⟨⟨q1, q2, q3⟩, -⟩
            rcases h6 with q | q | q
            · exact Int32.not_lt.mpr q1 q
            · exact Int32.not_lt.mpr q2 q
            · exact Int32.not_lt.mpr q3 q
          rw [if_pos h6, if_neg c3]
          rfl
        · have i0 : ¬ i < 0 := fun q => h6 (Or.inl q)
          have j0 : ¬ j < 0 := fun q => h6 (Or.inr (Or.inl q))
          have n0 : ¬ n < 0 := fun q => h6 (Or.inr (Or.inr q))
          have s1 := sub_lt_iff (z := h.2.2.1 t) (n := n) (by omega) i0
          have s2 := sub_lt_iff (z := h.2.2.1 u) (n := n) (by omega) j0
          rw [if_neg h6]
          by_cases h7 : i.toInt + n.toInt ≤ h.2.2.1 t ∧ j.toInt + n.toInt ≤ h.2.2.1 u
          · have c4 : ¬ (nI (h.2.2.1 t) - i < n ∨ nI (h.2.2.1 u) - j < n) := by
              rw [s1, s2]
              omega
            have c5 : (0 ≤ i ∧ 0 ≤ j ∧ 0 ≤ n) ∧ i.toInt + n.toInt ≤ h.2.2.1 t ∧ j.toInt + n.toInt ≤ h.2.2.1 u := ⟨⟨Int32.not_lt.mp i0, Int32.not_lt.mp j0, Int32.not_lt.mp n0⟩, h7.1, h7.2⟩
            rw [if_neg c4, if_pos c5]
            rfl
          · have c4 : nI (h.2.2.1 t) - i < n ∨ nI (h.2.2.1 u) - j < n := by
              rw [s1, s2]
              omega
            have c5 : ¬ ((0 ≤ i ∧ 0 ≤ j ∧ 0 ≤ n) ∧ i.toInt + n.toInt ≤ h.2.2.1 t ∧ j.toInt + n.toInt ≤ h.2.2.1 u) := fun q => h7 q.2
            rw [if_pos c4, if_neg c5]
            rfl
      · have h5' : ¬ nI (h.2.1 t) = nI (h.2.1 u) := by
          rw [nI_eq (by omega) (by omega)]
          exact h5
        rw [if_neg h5', if_neg h5]
        rfl
theorem sp_cf_le {t u : Nat} {i j n : Int32} : sp_cf h t u i j n ≤ 4 := by
  unfold sp_cf
  repeat' split
  all_goals omega
theorem sp_cf_0 {t u : Nat} {i j n : Int32} (ho : okH h) (ht : t < 4) (hu : u < 4) (h0 : sp_cf h t u i j n = 0) : h.1 t = false ∧ h.1 u = false ∧ h.2.1 t = h.2.1 u ∧ ∃ a b c : Nat, i = nI a ∧ j = nI b ∧ n = nI c ∧ a + c ≤ h.2.2.1 t ∧ b + c ≤ h.2.2.1 u := by
  unfold sp_cf at h0
  split at h0
  · omega
  · rename_i h1
    split at h0
    · rename_i h2
      split at h0
      · rename_i h3
        obtain ⟨⟨q1, q2, q3⟩, q4, q5⟩ := h3
        have hz1 := ho.2 t ht
        have hz2 := ho.2 u hu
        obtain ⟨a, ha, rfl⟩ := nI_of (Int32.not_lt.mpr q1)
        obtain ⟨b, hb, rfl⟩ := nI_of (Int32.not_lt.mpr q2)
        obtain ⟨c, hc, rfl⟩ := nI_of (Int32.not_lt.mpr q3)
        rw [nI_toInt ha, nI_toInt hc] at q4
        rw [nI_toInt hb, nI_toInt hc] at q5
        refine ⟨?_, ?_, h2, a, b, c, rfl, rfl, rfl, by omega, by omega⟩
        · cases hh : h.1 t
          · rfl
          · exact absurd (Or.inl hh) h1
        · cases hh : h.1 u
          · rfl
          · exact absurd (Or.inr hh) h1
      · omega
    · omega
theorem x_copy (hx : xH h M) (ho : okH h) (s i t j n : Int32) : ∃ M', am_e X 118 0 [some (.ref (0 : Nat)), some (.int s), some (.int i), some (.int t), some (.int j), some (.int n), none] [] kS M = some (some (.int (sp_copy h s i t j n).1), kS, M') ∧ xH (sp_copy h s i t j n).2 M' ∧ am_of pxH M M' := by
  unfold sp_copy
  by_cases h1 : 0 ≤ s ∧ s ≤ 3
  · by_cases h2 : 0 ≤ t ∧ t ≤ 3
    · rw [if_pos ⟨h1, h2⟩]
      obtain ⟨t', ht, rfl⟩ := in_nat (n := 3) h1.1 h1.2 (by decide)
      obtain ⟨u, hu, rfl⟩ := in_nat (n := 3) h2.1 h2.2 (by decide)
      rw [nI_clamp (n := t') (by omega), nI_clamp (n := u) (by omega)]
      have ht4 : t' < 4 := by omega
      have hu4 : u < 4 := by omega
      have hf := q_findingOfCopy (X := X) (M := M) (i := i) (j := j) (n := n) ht4 hu4
      rw [sp_fc_cf hx ho ht4 hu4] at hf
      have hle := sp_cf_le (h := h) (t := t') (u := u) (i := i) (j := j) (n := n)
      by_cases h0 : sp_cf h t' u i j n = 0
      · rw [if_pos h0]
        obtain ⟨k1, k2, k3, a, b, c, rfl, rfl, rfl, k4, k5⟩ := sp_cf_0 ho ht4 hu4 h0
        have hz1 := ho.2 t' ht4
        have hz2 := ho.2 u hu4
        rw [nI_clamp (n := a) (by omega), nI_clamp (n := b) (by omega), nI_clamp (n := c) (by omega)]
        rw [h0] at hf
        refine ⟨_, ?_, hx.cpy (i := a) (j := b) (n := c) ht4 hu4 k1 k4, am_of.rf.sA (fun _ => Or.inl (Or.inr (by omega)))⟩
        simp only [e118_0, e118_1, e118_4, e118_7, e118_8, e118_11, e118_14, e118_16, e118_17, e118_18, e118_21, e118_22, e118_23, e118_24, e118_26, e118_28, e118_31, e118_33, e118_35, e118_38, e118_39, e118_42, e118_44, e118_47, e118_48, e118_49, e118_52, e118_53, e118_54, e118_55, e118_57, e118_59, e118_62, e118_63, s0, s0_0, s0_1, s0_2, s0_3, s0_4, s0_5, s0_6, s0_7, r0_0, r0_1, r0_2, r0_3, r0_4, r0_5, r0_6, r0_7, s50, s50_0, s50_1, s50_2, s50_3, r50_0, r50_1, r50_2, s51, s52, s53, s54, s55, s56, s57, q_isSheet, hf, q_copyItems ht4 hu4 (show a + c ≤ 60 by omega) (show b + c ≤ 60 by omega), nI_0, h1, h2, am_bv_s, am_bw_s, eq_self, true_or, or_true, am_b0, am_b1, am_em, if_true, if_false, true_and, and_true, false_and, and_false, not_true_eq_false, not_false_eq_true, false_or, or_false]
      · rw [if_neg h0]
        have hn : (nI (sp_cf h t' u i j n) = 0) = False := eq_false (by rw [nI_0e (by omega)]; exact h0)
        exact ⟨am_setI M 50 3 (nI (sp_cf h t' u i j n)), by simp only [e118_0, e118_1, e118_4, e118_7, e118_8, e118_11, e118_14, e118_16, e118_17, e118_18, e118_21, e118_22, e118_23, e118_24, e118_26, e118_28, e118_31, e118_33, e118_35, e118_38, e118_39, e118_42, e118_44, e118_47, e118_48, e118_49, e118_52, e118_53, e118_54, e118_55, e118_57, e118_59, e118_62, e118_63, s0, s0_0, s0_1, s0_2, s0_3, s0_4, s0_5, s0_6, s0_7, r0_0, r0_1, r0_2, r0_3, r0_4, r0_5, r0_6, r0_7, s50, s50_0, s50_1, s50_2, s50_3, r50_0, r50_1, r50_2, s51, s52, s53, s54, s55, s56, s57, q_isSheet, q_refuse, hf, hn, h1, h2, am_bv_s, am_bw_s, eq_self, true_or, or_true, am_b0, am_b1, am_em, if_true, if_false, true_and, and_true, false_and, and_false, not_true_eq_false, not_false_eq_true, false_or, or_false], hx.fd, am_of.rf.sI (Or.inl rfl)⟩
    · rw [if_neg (fun q => h2 q.2)]
      exact ⟨M, by simp only [e118_0, e118_1, e118_4, e118_7, e118_8, e118_11, e118_14, e118_16, e118_17, e118_18, e118_21, e118_22, e118_23, e118_24, e118_26, e118_28, e118_31, e118_33, e118_35, e118_38, e118_39, e118_42, e118_44, e118_47, e118_48, e118_49, e118_52, e118_53, e118_54, e118_55, e118_57, e118_59, e118_62, e118_63, q_isSheet, h1, h2, am_bv_s, am_bw_s, eq_self, true_or, or_true, am_b0, am_b1, am_em, if_true, if_false, true_and, and_true, false_and, and_false, not_true_eq_false, not_false_eq_true, false_or, or_false], hx, am_of.rf⟩
  · rw [if_neg (fun q => h1 q.1)]
    exact ⟨M, by simp only [e118_0, e118_1, e118_4, e118_7, e118_8, e118_11, e118_14, e118_16, e118_17, e118_18, e118_21, e118_22, e118_23, e118_24, e118_26, e118_28, e118_31, e118_33, e118_35, e118_38, e118_39, e118_42, e118_44, e118_47, e118_48, e118_49, e118_52, e118_53, e118_54, e118_55, e118_57, e118_59, e118_62, e118_63, q_isSheet, h1, am_bv_s, am_bw_s, eq_self, true_or, or_true, am_b0, am_b1, am_em, if_true, if_false, true_and, and_true, false_and, and_false, not_true_eq_false, not_false_eq_true, false_or, or_false], hx, am_of.rf⟩
end
