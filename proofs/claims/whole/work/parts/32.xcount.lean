/-! the class: tallies counted anew -/
def pxT (a _ : Nat) : Prop := (38 ≤ a ∧ a ≤ 41) ∨ (43 ≤ a ∧ a ≤ 46)
section
variable {X : am_X} {S : am_Sh} {M : am_Me} {A : sgA} {nb : Nat} {l : sgL}
theorem xW.of {M M' : am_Me} {P : Nat → Nat → Prop} (hx : xW nb l M) (ho : am_of P M M') (hP : ∀ a k, P a k → ¬ pxW2 a k) : xW nb l M' := by
  have key : ∀ a k, pxW2 a k → M'.1 a k = M.1 a k := fun a k q => (ho a k (fun z => hP a k z q)).1
  obtain ⟨h1, h2, h3⟩ := hx
  exact ⟨(key _ _ (Or.inr ⟨rfl, Or.inl rfl⟩)).trans h1, fun q hq => (key _ _ (Or.inl rfl)).trans (h2 q hq), (key _ _ (Or.inr ⟨rfl, Or.inr rfl⟩)).trans h3⟩
theorem xN.of {M M' : am_Me} {P : Nat → Nat → Prop} (hx : xN A M) (ho : am_of P M M') (hP : ∀ a k, P a k → ¬ (30 ≤ a ∧ a ≤ 33)) : xN A M' := fun t ht w hw => ((ho _ _ (fun z => hP _ _ z (by omega))).1).trans (hx t ht w hw)
theorem xT.of {M M' : am_Me} {P : Nat → Nat → Prop} (hx : xT nb l A M) (ho : am_of P M M') (hP : ∀ a k, P a k → ¬ pxT a k) : xT nb l A M' := by
  have key : ∀ a k, pxT a k → M'.1 a k = M.1 a k := fun a k q => (ho a k (fun z => hP a k z q)).1
  exact fun t ht k hk => ⟨(key _ _ (Or.inl (by omega))).trans (hx t ht k hk).1, (key _ _ (Or.inr (by omega))).trans (hx t ht k hk).2⟩
/-- the words of a taker counted -/
theorem q_countRow {t : Nat} (hb : nb ≤ 6) (hw : xW nb l M) (hn : xN A M) (ho : okA A) (ht : t < 4) (h0 : ∀ k, k < 7 → M.1 (38 + t) k = 0 ∧ M.1 (43 + t) k = 0) :
    ∃ M', am_e X 65 37 [some (.ref (36 : Nat)), some (.ref (21 : Nat)), some (.ref (24 : Nat)), some (.int (nI t)), some (.ref (30 + t)), some (.int (nI 0))] [] kS M = am_e X 65 2 [some (.ref (36 : Nat)), some (.ref (21 : Nat)), some (.ref (24 : Nat)), some (.int (nI (t + 1))), none, none] [] kS M' ∧
      (∀ k, k < 7 → M'.1 (38 + t) k = nI (sAs nb l A t k) ∧ M'.1 (43 + t) k = nI (sYe nb l A t k)) ∧ am_of (fun a _ => a = 38 + t ∨ a = 43 + t) M M' := by
  have h40 := ps_le (l := l) hb
  obtain ⟨M', e1, h1, h2⟩ := am_lp (X := X) (S := kS) (mi := 65) (pc := 37) (ps nb l).2.1 (fun i => [some (.ref (36 : Nat)), some (.ref (21 : Nat)), some (.ref (24 : Nat)), some (.int (nI t)), some (.ref (30 + t)), some (.int (nI i))])
    (fun i M' => (∀ k, k < 7 → M'.1 (38 + t) k = nI (cnt (fun w => (ps nb l).2.2 w = k ∧ sd A A.2.2.2.2.2 t w ≠ -1) i) ∧ M'.1 (43 + t) k = nI (cnt (fun w => (ps nb l).2.2 w = k ∧ sd A A.2.2.2.2.2 t w = 1) i)) ∧ am_of (fun a _ => a = 38 + t ∨ a = 43 + t) M M') (M := M) ⟨fun k hk => h0 k hk, am_of.rf⟩ (by
      intro j M2 hj hI
      obtain ⟨i1, i2⟩ := hI
      obtain ⟨w1, w2, w3⟩ := hw.of i2 (fun a k q => by unfold pxW2; omega)
      have n2 := hn.of i2 (fun a k q => by omega) t ht j (by omega)
      have k6 := h40.2 j hj
      have c1 : (nI j < nI (ps nb l).2.1) = True := eq_true (nI_lt hj (by omega))
      have cj : (nI j).toNatClampNeg = j := nI_clamp (by omega)
      have cw := q_countWord (X := X) (M := M2) (t := t) (k := (ps nb l).2.2 j) ht (by omega) (sd A A.2.2.2.2.2 t j)
      generalize hM3 : (if sd A A.2.2.2.2.2 t j = -1 then M2 else if sd A A.2.2.2.2.2 t j = 1 then am_setI (am_setI M2 (38 + t) ((ps nb l).2.2 j) (M2.1 (38 + t) ((ps nb l).2.2 j) + 1)) (43 + t) ((ps nb l).2.2 j) (M2.1 (43 + t) ((ps nb l).2.2 j) + 1) else am_setI M2 (38 + t) ((ps nb l).2.2 j) (M2.1 (38 + t) ((ps nb l).2.2 j) + 1)) = M3 at cw
      refine ⟨M3, ?_, fun k hk => ?_, ?_⟩
      · rw [e65_37]
        simp only [e65_0, e65_1, e65_3, e65_4, e65_7, e65_8, e65_11, e65_12, e65_13, e65_14, e65_17, e65_18, e65_21, e65_22, e65_23, e65_24, e65_27, e65_28, e65_29, e65_32, e65_34, e65_35, e65_39, e65_40, e65_43, e65_46, e65_47, e65_48, e65_49, e65_51, e65_54, e65_56, e65_58, e65_59, e65_62, e65_65, e65_68, e65_71, e65_74, e78_0, e78_1, e78_4, e80_0, e80_1, e80_4, e80_5, e80_6, s21, s21_0, s21_1, s21_2, s21_3, s21_4, r21_0, r21_1, s22, s23, s36, s36_0, s36_1, s36_2, r36_0, r36_1, r36_2, s37, s38, s39, s40, s41, s42, s43, s44, s45, s46, s47, s47_0, s47_1, w1, w2 j hj, n2, c1, cj, cw, a23 (show j < 40 by omega), g29 ht (show j < 40 by omega), nI_1, am_bv_s, am_bw_s, eq_self, true_or, or_true, am_b0, am_b1, am_em, if_true, if_false, true_and, and_true, false_and, and_false, not_true_eq_false, not_false_eq_true, false_or, or_false, Bool.false_eq_true]
      · obtain ⟨q1, q2⟩ := i1 k hk
        rw [← hM3]
        by_cases e1 : sd A A.2.2.2.2.2 t j = -1
        · rw [if_pos e1, cnt_s0 (fun q => q.2 e1), cnt_s0 (fun q => by rw [e1] at q; exact absurd q.2 (by decide))]
          exact ⟨q1, q2⟩
        · rw [if_neg e1]
          by_cases e2 : sd A A.2.2.2.2.2 t j = 1
          · rw [if_pos e2]
            by_cases e3 : (ps nb l).2.2 j = k
            · rw [cnt_s1 ⟨e3, e1⟩, cnt_s1 ⟨e3, e2⟩, e3]
              refine ⟨?_, ?_⟩
              · rw [gI, if_neg (by omega), gI, if_pos ⟨rfl, rfl⟩, q1, nI_1]
              · rw [gI, if_pos ⟨rfl, rfl⟩, q2, nI_1]
            · rw [cnt_s0 (fun q => e3 q.1), cnt_s0 (fun q => e3 q.1)]
              refine ⟨?_, ?_⟩
              · rw [gI, if_neg (by omega), gI, if_neg (fun q => e3 q.2.symm), q1]
              · rw [gI, if_neg (fun q => e3 q.2.symm), gI, if_neg (by omega), q2]
          · rw [if_neg e2]
            by_cases e3 : (ps nb l).2.2 j = k
            · rw [cnt_s1 ⟨e3, e1⟩, cnt_s0 (fun q => e2 q.2), e3]
              refine ⟨?_, ?_⟩
              · rw [gI, if_pos ⟨rfl, rfl⟩, q1, nI_1]
              · rw [gI, if_neg (by omega), q2]
            · rw [cnt_s0 (fun q => e3 q.1), cnt_s0 (fun q => e3 q.1)]
              refine ⟨?_, ?_⟩
              · rw [gI, if_neg (fun q => e3 q.2.symm), q1]
              · rw [gI, if_neg (by omega), q2]
      · rw [← hM3]
        by_cases e1 : sd A A.2.2.2.2.2 t j = -1
        · rw [if_pos e1]; exact i2
        · rw [if_neg e1]
          by_cases e2 : sd A A.2.2.2.2.2 t j = 1
          · rw [if_pos e2]; exact (i2.sI (Or.inl rfl)).sI (Or.inr rfl)
          · rw [if_neg e2]; exact i2.sI (Or.inl rfl))
  refine ⟨M', e1.trans ?_, h1, h2⟩
  obtain ⟨w1, w2, w3⟩ := hw.of h2 (fun a k q => by unfold pxW2; omega)
  have c1 : (nI (ps nb l).2.1 < nI (ps nb l).2.1) = False := eq_false (nI_nlt (Nat.le_refl _) (by omega))
  rw [e65_37]
  simp only [e65_0, e65_1, e65_3, e65_4, e65_7, e65_8, e65_11, e65_12, e65_13, e65_14, e65_17, e65_18, e65_21, e65_22, e65_23, e65_24, e65_27, e65_28, e65_29, e65_32, e65_34, e65_35, e65_39, e65_40, e65_43, e65_46, e65_47, e65_48, e65_49, e65_51, e65_54, e65_56, e65_58, e65_59, e65_62, e65_65, e65_68, e65_71, e65_74, e78_0, e78_1, e78_4, s21, s21_0, s21_1, s21_2, s21_3, s21_4, r21_0, r21_1, s22, s23, w1, c1, nI_1, am_bv_s, am_bw_s, eq_self, true_or, or_true, am_b0, am_b1, am_em, if_true, if_false, true_and, and_true, false_and, and_false, not_true_eq_false, not_false_eq_true, false_or, or_false, Bool.false_eq_true]
theorem q_countAnew (hb : nb ≤ 6) (hw : xW nb l M) (hn : xN A M) (ho : okA A) :
    ∃ M', am_e X 65 0 [some (.ref (36 : Nat)), some (.ref (21 : Nat)), some (.ref (24 : Nat)), none, none, none] [] kS M = some (none, kS, M') ∧ xT nb l A M' ∧ am_of pxT M M' := by
  obtain ⟨M', e1, h1, h2⟩ := am_lp (X := X) (S := kS) (mi := 65) (pc := 2) 4 (fun i => [some (.ref (36 : Nat)), some (.ref (21 : Nat)), some (.ref (24 : Nat)), some (.int (nI i)), none, none])
    (fun i M' => (∀ t, t < i → ∀ k, k < 7 → M'.1 (38 + t) k = nI (sAs nb l A t k) ∧ M'.1 (43 + t) k = nI (sYe nb l A t k)) ∧ am_of pxT M M') (M := M) ⟨fun t ht => absurd ht (Nat.not_lt_zero _), am_of.rf⟩ (by
      intro j M2 hj hI
      obtain ⟨i1, i2⟩ := hI
      have c1 : (nI j < 4) = True := eq_true (nI_lt (b := 4) hj (by decide))
      have cj : (nI j).toNatClampNeg = j := nI_clamp (by omega)
      have f1 := fun M => q_fill0 (X := X) (M := M) (v := 0) (by decide : 7 < 2 ^ 31) (gi37 hj) (gl37 hj)
      have f2 := fun M => q_fill0 (X := X) (M := M) (v := 0) (by decide : 7 < 2 ^ 31) (gi42 hj) (gl42 hj)
      generalize hM3 : am_setA (am_setA M2 (38 + j) (fun q => if q < 7 then 0 else M2.1 (38 + j) q)) (43 + j) (fun q => if q < 7 then 0 else (am_setA M2 (38 + j) (fun q => if q < 7 then 0 else M2.1 (38 + j) q)).1 (43 + j) q) = M3
      have of3 : am_of (fun a _ => a = 38 + j ∨ a = 43 + j) M2 M3 := by
        rw [← hM3]
        exact (am_of.rf.sA (fun _ => Or.inl (Or.inl rfl))).sA (fun _ => Or.inl (Or.inr rfl))
      have mo : ∀ {M1 M2 : am_Me}, am_of (fun a _ => a = 38 + j ∨ a = 43 + j) M1 M2 → am_of pxT M1 M2 := fun h => h.mo (fun a k q => by unfold pxT; omega)
      have ofx := i2.tr (mo of3)
      obtain ⟨M4, r1, r2, r3⟩ := q_countRow (X := X) hb (hw.of ofx (fun a k q => by unfold pxT at q; unfold pxW2; omega)) (hn.of ofx (fun a k q => by unfold pxT at q; omega)) ho hj (fun k hk => by
        rw [← hM3]
        simp only [gA]
        rw [if_neg (by omega), if_pos trivial, if_pos hk, if_pos trivial, if_pos hk]
        exact ⟨rfl, rfl⟩)
      refine ⟨M4, ?_, fun t ht k hk => ?_, ofx.tr (mo r3)⟩
      · rw [← r1, e65_2]
        simp only [e65_0, e65_1, e65_3, e65_4, e65_7, e65_8, e65_11, e65_12, e65_13, e65_14, e65_17, e65_18, e65_21, e65_22, e65_23, e65_24, e65_27, e65_28, e65_29, e65_32, e65_34, e65_35, e65_39, e65_40, e65_43, e65_46, e65_47, e65_48, e65_49, e65_51, e65_54, e65_56, e65_58, e65_59, e65_62, e65_65, e65_68, e65_71, e65_74, e5_0, e5_1, e5_4, e5_5, e5_6, s24, s24_0, s24_1, s24_2, s24_3, s24_4, s24_5, s24_6, s24_7, s24_8, r24_0, r24_1, r24_2, r24_3, r24_4, r24_5, r24_6, s25, s26, s27, s28, s29, s30, s31, s32, s33, s34, s35, s36, s36_0, s36_1, s36_2, r36_0, r36_1, r36_2, s37, s38, s39, s40, s41, s42, s43, s44, s45, s46, s47, s47_0, s47_1, c1, cj, f1, f2, hM3, a37 hj, r37 j hj, t37 j hj, a42 hj, r42 j hj, t42 j hj, a29 hj, r29 j hj, t29 j hj, nI_0, am_bv_s, am_bw_s, eq_self, true_or, or_true, am_b0, am_b1, am_em, if_true, if_false, true_and, and_true, false_and, and_false, not_true_eq_false, not_false_eq_true, false_or, or_false, Bool.false_eq_true]
      · by_cases e : t = j
        · subst e; exact r2 k hk
        · rw [(r3 _ _ (by omega)).1, (r3 _ _ (by omega)).1, (of3 _ _ (by omega)).1, (of3 _ _ (by omega)).1]
          exact i1 t (by omega) k hk)
  refine ⟨M', ?_, h1, h2⟩
  have e2 : am_e X 65 2 [some (.ref (36 : Nat)), some (.ref (21 : Nat)), some (.ref (24 : Nat)), some (.int (nI 4)), none, none] [] kS M' = some (none, kS, M') := by
    have c1 : (nI 4 < 4) = False := eq_false (by decide)
    rw [e65_2]
    simp only [e65_0, e65_1, e65_3, e65_4, e65_7, e65_8, e65_11, e65_12, e65_13, e65_14, e65_17, e65_18, e65_21, e65_22, e65_23, e65_24, e65_27, e65_28, e65_29, e65_32, e65_34, e65_35, e65_39, e65_40, e65_43, e65_46, e65_47, e65_48, e65_49, e65_51, e65_54, e65_56, e65_58, e65_59, e65_62, e65_65, e65_68, e65_71, e65_74, c1, am_bv_s, am_bw_s, eq_self, true_or, or_true, am_b0, am_b1, am_em, if_true, if_false, true_and, and_true, false_and, and_false, not_true_eq_false, not_false_eq_true, false_or, or_false, Bool.false_eq_true]
  rw [e2] at e1
  rw [← e1]
  simp only [e65_0, e65_1, e65_3, e65_4, e65_7, e65_8, e65_11, e65_12, e65_13, e65_14, e65_17, e65_18, e65_21, e65_22, e65_23, e65_24, e65_27, e65_28, e65_29, e65_32, e65_34, e65_35, e65_39, e65_40, e65_43, e65_46, e65_47, e65_48, e65_49, e65_51, e65_54, e65_56, e65_58, e65_59, e65_62, e65_65, e65_68, e65_71, e65_74, am_bv_s, am_bw_s, eq_self, true_or, or_true, am_b0, am_b1, am_em, if_true, if_false, true_and, and_true, false_and, and_false, not_true_eq_false, not_false_eq_true, false_or, or_false, Bool.false_eq_true]
  rfl
theorem x_countAnew (hb : nb ≤ 6) (hw : xW nb l M) (hn : xN A M) (ho : okA A) :
    ∃ M', am_e X 137 0 [some (.ref (0 : Nat))] [] kS M = some (none, kS, M') ∧ xT nb l A M' ∧ am_of pxT M M' := by
  obtain ⟨M', h1, h2⟩ := q_countAnew (X := X) hb hw hn ho
  refine ⟨M', ?_, h2⟩
  simp only [e137_0, e137_1, e137_4, e137_5, e137_8, e137_9, e137_12, e137_15, s0, s0_0, s0_1, s0_2, s0_3, s0_4, s0_5, s0_6, s0_7, r0_0, r0_1, r0_2, r0_3, r0_4, r0_5, r0_6, r0_7, s36, s36_0, s36_1, s36_2, r36_0, r36_1, r36_2, s37, s38, s39, s40, s41, s42, s43, s44, s45, s46, s47, s47_0, s47_1, h1, am_bv_s, am_bw_s, eq_self, true_or, or_true, am_b0, am_b1, am_em, if_true, if_false, true_and, and_true, false_and, and_false, not_true_eq_false, not_false_eq_true, false_or, or_false, Bool.false_eq_true]
/-- all that is kept of the list, read anew -/
theorem x_readListAnew (hb : nb ≤ 6) (hol : okL l) (hl : xL l M) (hd : M.1 1 4 = nI nb) (hn : xN A M) (ho : okA A) :
    ∃ M', am_e X 136 0 [some (.ref (0 : Nat))] [] kS M = some (none, kS, M') ∧ xW nb l M' ∧ xT nb l A M' ∧ am_of (fun a k => pxW2 a k ∨ pxT a k) M M' := by
  obtain ⟨M1, a1, a2, a3⟩ := x_readAnew (X := X) hb hol hl
  obtain ⟨M', h1, h2, h3⟩ := x_countAnew (X := X) hb a2 (hn.of a3 (fun a k q => by unfold pxW2 at q; omega)) ho
  refine ⟨M', ?_, a2.of h3 (fun a k q => by unfold pxT at q; unfold pxW2; omega), h2, (a3.mo fun a k q => Or.inl q).tr (h3.mo fun a k q => Or.inr q)⟩
  simp only [e136_0, e136_1, e136_4, e136_5, e136_8, e136_11, e136_14, e136_15, e136_18, e22_0, e22_1, e22_4, s0, s0_0, s0_1, s0_2, s0_3, s0_4, s0_5, s0_6, s0_7, r0_0, r0_1, r0_2, r0_3, r0_4, r0_5, r0_6, r0_7, s1, s1_0, s1_1, s1_2, s1_3, s1_4, r1_0, r1_1, r1_2, r1_3, s2, s3, s4, s5, s21, s21_0, s21_1, s21_2, s21_3, s21_4, r21_0, r21_1, s22, s23, hd, a1, h1, am_bv_s, am_bw_s, eq_self, true_or, or_true, am_b0, am_b1, am_em, if_true, if_false, true_and, and_true, false_and, and_false, not_true_eq_false, not_false_eq_true, false_or, or_false, Bool.false_eq_true]
end
