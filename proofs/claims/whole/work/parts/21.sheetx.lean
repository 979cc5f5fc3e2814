/-! the class's sheets -/
def sp_cut (f v : Int32) : Int32 := if f = 0 then v.toInt8.toInt32 else if f = 1 then v.toInt16.toInt32 else v
section
variable {X : am_X} {S : am_Sh} {M : am_Me}
theorem q_fill : ∀ (k i : Nat) (M : am_Me) (a n : Nat) (v vi : Int32), i + k = n → n < 2 ^ 31 → vi = nI i → am_is kS a 100 = true → kS.2.2.2.1 a = n →
    am_e X 219 5 [some (.ref a), some (.int v), some (.int vi), some (.int (nI n))] [] kS M = some (none, kS, am_setA M a (fun j => if i ≤ j ∧ j < n then v else M.1 a j)) := by
  intro k
  induction k with
  | zero =>
    intro i M a n v vi hk hn hv ha hl
    subst hv
    have hc : (nI i < nI n) = False := eq_false (nI_nlt (by omega) (by omega))
    rw [e219_5]
    simp only [e219_0, e219_1, e219_2, e219_3, e219_4, e219_6, e219_7, e219_10, e219_11, e219_12, e219_13, e219_14, e219_17, e219_20, hc, am_bv_s, am_bw_s, eq_self, true_or, or_true, am_b0, am_b1, am_em, if_true, if_false, true_and, and_true, false_and, and_false, not_true_eq_false, not_false_eq_true, false_or, or_false]
    have e : (fun j => if i ≤ j ∧ j < n then v else M.1 a j) = M.1 a := by
      funext j
      rw [if_neg (by omega)]
    rw [e]
    have e2 : am_setA M a (M.1 a) = M := by
      unfold am_setA
      have : (fun b => if b = a then M.1 a else M.1 b) = M.1 := by
        funext b
        by_cases hb : b = a
        · rw [if_pos hb, hb]
        · rw [if_neg hb]
      rw [this]
    rw [e2]
  | succ k ih =>
    intro i M a n v vi hk hn hv ha hl
    subst hv
    have hc : (nI i < nI n) = True := eq_true (nI_lt (by omega) (by omega))
    have har : am_ar kS a 100 (nI i) = true := ar_nI ha hl (by omega) hn
    have hcl : (nI i).toNatClampNeg = i := nI_clamp (by omega)
    rw [e219_5]
    simp only [e219_0, e219_1, e219_2, e219_3, e219_4, e219_6, e219_7, e219_10, e219_11, e219_12, e219_13, e219_14, e219_17, e219_20, hc, har, hcl, nI_1, am_bv_s, am_bw_s, eq_self, true_or, or_true, am_b0, am_b1, am_em, if_true, if_false, true_and, and_true, false_and, and_false, not_true_eq_false, not_false_eq_true, false_or, or_false]
    rw [ih (i + 1) _ a n v _ (by omega) hn rfl ha hl]
    have e : (fun j => if i + 1 ≤ j ∧ j < n then v else (am_setI M a i v).1 a j) = (fun j => if i ≤ j ∧ j < n then v else M.1 a j) := by
      funext j
      by_cases h1 : i + 1 ≤ j ∧ j < n
      · rw [if_pos h1, if_pos (by omega)]
      · rw [if_neg h1, am_setI_eq]
        unfold upd
        by_cases h2 : j = i
        · rw [if_pos h2, if_pos (by omega)]
        · rw [if_neg h2, if_neg (by omega)]
    rw [e]
    refine congrArg (fun z => some (none, kS, z)) ?_
    refine Prod.ext (funext fun b => ?_) rfl
    by_cases hb : b = a
    · simp [am_setA, hb]
    · simp [am_setA, am_setI, hb]
theorem q_fill0 {a n : Nat} {v : Int32} (hn : n < 2 ^ 31) (ha : am_is kS a 100 = true) (hl : kS.2.2.2.1 a = n) : am_e X 219 0 [some (.ref a), some (.int v), none, none] [] kS M = some (none, kS, am_setA M a (fun j => if j < n then v else M.1 a j)) := by
  have hl2 : Int32.ofNat (kS.2.2.2.1 a) = nI n := by rw [hl]; rfl
  simp only [e219_0, e219_1, e219_2, e219_3, e219_4, e219_6, e219_7, e219_10, e219_11, e219_12, e219_13, e219_14, e219_17, e219_20, ha, hl2, am_bv_s, am_bw_s, eq_self, true_or, or_true, am_b0, am_b1, am_em, if_true, if_false, true_and, and_true, false_and, and_false, not_true_eq_false, not_false_eq_true, false_or, or_false]
  rw [q_fill n 0 M a n v 0 (by omega) hn nI_0.symm ha hl]
  refine congrArg (fun z => some (none, kS, am_setA M a z)) (funext fun j => ?_)
  simp
theorem q_isLost {t : Nat} (ht : t < 4) : am_e X 42 0 [some (.ref (50 : Nat)), some (.int (nI t))] [] kS M = some (some (.int (am_b (M.1 57 t = -1))), kS, M) := by
  have hc : (nI t).toNatClampNeg = t := nI_clamp (by omega)
  simp only [e42_0, e42_1, e42_4, e42_5, e42_6, e42_7, e42_10, e42_11, e42_14, e42_15, s50, s50_0, s50_1, s50_2, s50_3, r50_0, r50_1, r50_2, s51, s52, s53, s54, s55, s56, s57, a57 ht, hc, am_bv_s, am_bw_s, eq_self, true_or, or_true, am_b0, am_b1, am_em, if_true, if_false, true_and, and_true, false_and, and_false, not_true_eq_false, not_false_eq_true, false_or, or_false]
  by_cases h : M.1 57 t = -1
  · rw [if_pos h, am_bt h]
  · rw [if_neg h, am_bf h]
theorem q_sizeOf {t : Nat} (ht : t < 4) : am_e X 43 0 [some (.ref (50 : Nat)), some (.int (nI t))] [] kS M = some (some (.int (M.1 57 t)), kS, M) := by
  have hc : (nI t).toNatClampNeg = t := nI_clamp (by omega)
  simp only [e43_0, e43_1, e43_4, e43_5, e43_6, s50, s50_0, s50_1, s50_2, s50_3, r50_0, r50_1, r50_2, s51, s52, s53, s54, s55, s56, s57, a57 ht, hc, am_bv_s, am_bw_s, eq_self, true_or, or_true, am_b0, am_b1, am_em, if_true, if_false, true_and, and_true, false_and, and_false, not_true_eq_false, not_false_eq_true, false_or, or_false]
theorem q_item {t i : Nat} (ht : t < 4) (hi : i < 60) : am_e X 44 0 [some (.ref (50 : Nat)), some (.int (nI t)), some (.int (nI i))] [] kS M = some (some (.int (M.1 (52 + t) i)), kS, M) := by
  have hc : (nI t).toNatClampNeg = t := nI_clamp (by omega)
  have hc2 : (nI i).toNatClampNeg = i := nI_clamp (by omega)
  simp only [e44_0, e44_1, e44_4, e44_5, e44_6, e44_7, e44_8, s50, s50_0, s50_1, s50_2, s50_3, r50_0, r50_1, r50_2, s51, s52, s53, s54, s55, s56, s57, a51 ht, r51 t ht, t51 t ht, g51 ht hi, hc, hc2, am_bv_s, am_bw_s, eq_self, true_or, or_true, am_b0, am_b1, am_em, if_true, if_false, true_and, and_true, false_and, and_false, not_true_eq_false, not_false_eq_true, false_or, or_false]
theorem q_refuse {f : Int32} : am_e X 41 0 [some (.ref (50 : Nat)), some (.int f)] [] kS M = some (some (.int (-10 - f)), kS, am_setI M 50 3 f) := by
  simp only [e41_0, e41_1, e41_2, e41_5, e41_7, e41_8, e41_9, s50, s50_0, s50_1, s50_2, s50_3, r50_0, r50_1, r50_2, s51, s52, s53, s54, s55, s56, s57, am_bv_s, am_bw_s, eq_self, true_or, or_true, am_b0, am_b1, am_em, if_true, if_false, true_and, and_true, false_and, and_false, not_true_eq_false, not_false_eq_true, false_or, or_false]
theorem q_latest : am_e X 40 0 [some (.ref (50 : Nat))] [] kS M = some (some (.int (M.1 50 3)), kS, M) := by
  simp only [e40_0, e40_1, e40_4, s50, s50_0, s50_1, s50_2, s50_3, r50_0, r50_1, r50_2, s51, s52, s53, s54, s55, s56, s57, am_bv_s, am_bw_s, eq_self, true_or, or_true, am_b0, am_b1, am_em, if_true, if_false, true_and, and_true, false_and, and_false, not_true_eq_false, not_false_eq_true, false_or, or_false]
theorem q_cutTo {f v : Int32} : am_e X 48 0 [some (.int f), some (.int v)] [] S M = some (some (.int (sp_cut f v)), S, M) := by
  simp only [e48_0, e48_1, e48_4, e48_5, e48_6, e48_7, e48_8, e48_9, e48_12, e48_13, e48_14, e48_17, e48_18, am_bv_s, am_bw_s, eq_self, true_or, or_true, am_b0, am_b1, am_em, if_true, if_false, true_and, and_true, false_and, and_false, not_true_eq_false, not_false_eq_true, false_or, or_false]
  unfold sp_cut
  by_cases h1 : f = 0
  · rw [if_pos h1, if_pos h1]
  · rw [if_neg h1, if_neg h1]
    by_cases h2 : f = 1
    · rw [if_pos h2, if_pos h2]
    · rw [if_neg h2, if_neg h2]
theorem q_drop {t : Nat} (ht : t < 4) : am_e X 46 0 [some (.ref (50 : Nat)), some (.int (nI t))] [] kS M = some (none, kS, am_setI M 57 t (-1)) := by
  have hc : (nI t).toNatClampNeg = t := nI_clamp (by omega)
  simp only [e46_0, e46_1, e46_4, e46_5, e46_6, e46_7, s50, s50_0, s50_1, s50_2, s50_3, r50_0, r50_1, r50_2, s51, s52, s53, s54, s55, s56, s57, a57 ht, hc, am_bv_s, am_bw_s, eq_self, true_or, or_true, am_b0, am_b1, am_em, if_true, if_false, true_and, and_true, false_and, and_false, not_true_eq_false, not_false_eq_true, false_or, or_false]
theorem q_putItem {t i : Nat} {v : Int32} (ht : t < 4) (hi : i < 60) : am_e X 47 0 [some (.ref (50 : Nat)), some (.int (nI t)), some (.int (nI i)), some (.int v)] [] kS M = some (none, kS, am_setI M (52 + t) i (sp_cut (M.1 56 t) v)) := by
  have hc : (nI t).toNatClampNeg = t := nI_clamp (by omega)
  have hc2 : (nI i).toNatClampNeg = i := nI_clamp (by omega)
  simp only [e47_0, e47_1, e47_4, e47_5, e47_6, e47_7, e47_8, e47_11, e47_12, e47_13, e47_14, e47_17, e47_18, s50, s50_0, s50_1, s50_2, s50_3, r50_0, r50_1, r50_2, s51, s52, s53, s54, s55, s56, s57, a51 ht, a56 ht, r51 t ht, t51 t ht, g51 ht hi, q_cutTo, hc, hc2, am_bv_s, am_bw_s, eq_self, true_or, or_true, am_b0, am_b1, am_em, if_true, if_false, true_and, and_true, false_and, and_false, not_true_eq_false, not_false_eq_true, false_or, or_false]
theorem q_makeNew {t : Nat} {f n : Int32} (ht : t < 4) : am_e X 45 0 [some (.ref (50 : Nat)), some (.int (nI t)), some (.int f), some (.int n)] [] kS M = some (none, kS, am_setI (am_setI (am_setA M (52 + t) (fun j => if j < 60 then 0 else M.1 (52 + t) j)) 56 t f) 57 t n) := by
  have hc : (nI t).toNatClampNeg = t := nI_clamp (by omega)
  have hf := fun M => q_fill0 (X := X) (M := M) (v := 0) (by decide : 60 < 2 ^ 31) (gi51 ht) (gl51 ht)
  simp only [e45_0, e45_1, e45_4, e45_5, e45_6, e45_7, e45_10, e45_11, e45_14, e45_15, e45_16, e45_17, e45_18, e45_21, e45_22, e45_23, e45_24, s50, s50_0, s50_1, s50_2, s50_3, r50_0, r50_1, r50_2, s51, s52, s53, s54, s55, s56, s57, a51 ht, a56 ht, a57 ht, r51 t ht, t51 t ht, hf, hc, am_bv_s, am_bw_s, eq_self, true_or, or_true, am_b0, am_b1, am_em, if_true, if_false, true_and, and_true, false_and, and_false, not_true_eq_false, not_false_eq_true, false_or, or_false]
/-- what stands against an item: 0 nothing -/
def sp_fi (sz fm f i : Int32) : Int32 := if sz = -1 then 1 else if fm = f then (if i < 0 then 2 else if i < sz then 0 else 2) else 3
theorem q_findingOfItem {t : Nat} {f i : Int32} (ht : t < 4) : am_e X 49 0 [some (.ref (50 : Nat)), some (.int (nI t)), some (.int f), some (.int i)] [] kS M = some (some (.int (sp_fi (M.1 57 t) (M.1 56 t) f i)), kS, M) := by
  have hc : (nI t).toNatClampNeg = t := nI_clamp (by omega)
  simp only [e49_0, e49_1, e49_2, e49_5, e49_8, e49_9, e49_10, e49_11, e49_14, e49_15, e49_16, e49_17, e49_20, e49_21, e49_22, e49_23, e49_26, e49_27, e49_28, e49_31, e49_32, e49_33, e49_36, e49_37, e49_40, e49_41, s50, s50_0, s50_1, s50_2, s50_3, r50_0, r50_1, r50_2, s51, s52, s53, s54, s55, s56, s57, a56 ht, a57 ht, q_isLost ht, hc, am_bv_s, am_bw_s, eq_self, true_or, or_true, am_b0, am_b1, am_em, if_true, if_false, true_and, and_true, false_and, and_false, not_true_eq_false, not_false_eq_true, false_or, or_false]
  unfold sp_fi
  by_cases h1 : M.1 57 t = -1
  · simp only [h1, not_true_eq_false, if_true, if_false]
  · simp only [h1, not_false_eq_true, if_true, if_false]
    by_cases h2 : M.1 56 t = f
    · simp only [h2, if_true]
      by_cases h3 : i < 0
      · simp only [h3, if_true]
      · simp only [h3, if_false]
        by_cases h4 : i < M.1 57 t
        · simp only [h4, if_true]
        · simp only [h4, if_false]
    · simp only [h2, if_false]
def sp_fc (z1 z2 f1 f2 i j n : Int32) : Int32 := if z1 = -1 ∨ z2 = -1 then 1 else if f1 = f2 then (if i < 0 ∨ j < 0 ∨ n < 0 then 2 else if z1 - i < n ∨ z2 - j < n then 2 else 0) else 4
theorem q_findingOfCopy {t u : Nat} {i j n : Int32} (ht : t < 4) (hu : u < 4) : am_e X 50 0 [some (.ref (50 : Nat)), some (.int (nI t)), some (.int i), some (.int (nI u)), some (.int j), some (.int n)] [] kS M = some (some (.int (sp_fc (M.1 57 t) (M.1 57 u) (M.1 56 t) (M.1 56 u) i j n)), kS, M) := by
  have hc : (nI t).toNatClampNeg = t := nI_clamp (by omega)
  have hc2 : (nI u).toNatClampNeg = u := nI_clamp (by omega)
  simp only [e50_0, e50_1, e50_2, e50_5, e50_8, e50_9, e50_10, e50_13, e50_16, e50_17, e50_18, e50_19, e50_22, e50_23, e50_24, e50_25, e50_28, e50_29, e50_30, e50_33, e50_34, e50_35, e50_36, e50_39, e50_41, e50_44, e50_46, e50_49, e50_50, e50_51, e50_53, e50_54, e50_57, e50_58, e50_59, e50_60, e50_61, e50_64, e50_66, e50_67, e50_70, e50_71, e50_72, e50_74, e50_75, e50_78, e50_79, e50_82, e50_83, s50, s50_0, s50_1, s50_2, s50_3, r50_0, r50_1, r50_2, s51, s52, s53, s54, s55, s56, s57, a56 ht, a57 ht, a56 hu, a57 hu, q_isLost ht, q_isLost hu, hc, hc2, am_bv_s, am_bw_s, eq_self, true_or, or_true, am_b0, am_b1, am_em, if_true, if_false, true_and, and_true, false_and, and_false, not_true_eq_false, not_false_eq_true, false_or, or_false]
  unfold sp_fc
  by_cases h1 : M.1 57 t = -1 <;> by_cases h2 : M.1 57 u = -1 <;> by_cases h3 : M.1 56 t = M.1 56 u <;> by_cases h4 : i < 0 <;> by_cases h5 : j < 0 <;> by_cases h6 : n < 0 <;> by_cases h7 : M.1 57 t - i < n <;> by_cases h8 : M.1 57 u - j < n <;> simp only [h1, h2, h3, h4, h5, h6, h7, h8, not_true_eq_false, not_false_eq_true, if_true, if_false, or_true, true_or, or_false, false_or]
theorem q_copyItems {t u i j n : Nat} (ht : t < 4) (hu : u < 4) (hi : i + n ≤ 60) (hj : j + n ≤ 60) : am_e X 51 0 [some (.ref (50 : Nat)), some (.int (nI t)), some (.int (nI i)), some (.int (nI u)), some (.int (nI j)), some (.int (nI n))] [] kS M = some (none, kS, am_setA M (52 + u) (va_cpy (M.1 (52 + t)) (M.1 (52 + u)) i j n)) := by
  have hc : (nI t).toNatClampNeg = t := nI_clamp (by omega)
  have hc2 : (nI u).toNatClampNeg = u := nI_clamp (by omega)
  have hc3 : (nI i).toNatClampNeg = i := nI_clamp (by omega)
  have hc4 : (nI j).toNatClampNeg = j := nI_clamp (by omega)
  have hc5 : (nI n).toNatClampNeg = n := nI_clamp (by omega)
  have z1 : ¬ nI i < 0 := nI_pos (by omega)
  have z2 : ¬ nI j < 0 := nI_pos (by omega)
  have z3 : ¬ nI n < 0 := nI_pos (by omega)
  have z4 : (nI i).toNatClampNeg + (nI n).toNatClampNeg ≤ kS.2.2.2.1 (52 + t) := by rw [hc3, hc5, gl51 ht]; exact hi
  have z5 : (nI j).toNatClampNeg + (nI n).toNatClampNeg ≤ kS.2.2.2.1 (52 + u) := by rw [hc4, hc5, gl51 hu]; exact hj
  simp only [e51_0, e51_1, e51_4, e51_5, e51_6, e51_7, e51_8, e51_11, e51_12, e51_13, e51_15, e51_20, s50, s50_0, s50_1, s50_2, s50_3, r50_0, r50_1, r50_2, s51, s52, s53, s54, s55, s56, s57, a51 ht, a51 hu, r51 t ht, t51 t ht, r51 u hu, t51 u hu, hc, hc2, am_bv_s, am_bw_s, eq_self, true_or, or_true, am_b0, am_b1, am_em, if_true, if_false, true_and, and_true, false_and, and_false, not_true_eq_false, not_false_eq_true, false_or, or_false]
  rw [e51_17 (g1 := gi51 ht) (g2 := gi51 hu) (h1 := z1) (h2 := z2) (h3 := z3) (h4 := z4) (h5 := z5), e51_20, hc3, hc4, hc5]
end
