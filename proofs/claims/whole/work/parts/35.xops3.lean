/-! the class: answer, asOf, asked, read, write -/
section
variable {X : am_X} {S : am_Sh} {M M' : am_Me} {P : Nat → Nat → Prop} {s : sgm}
/-- answers changed, then counted -/
theorem JX.setA {A : sgA} {M1 : am_Me} (hx : JX s M) (ho : okm s) (hoA : okA A) (of1 : am_of pxA M M1) (hA : xA A M1) (hN : xN A M1) : ∃ M', am_e X 137 0 [some (.ref (0 : Nat))] [] kS M1 = some (none, kS, M') ∧ JX (s.1, s.2.1, s.2.2.1, s.2.2.2.1, A) M' ∧ am_of pX M M' := by
  obtain ⟨⟨y1, y2, y3, y4, y5, y6, y7⟩, w, t⟩ := hx
  have u : ∀ a k, pxA a k → 24 ≤ a ∧ a ≤ 33 := fun a k q => by unfold pxA at q; omega
  obtain ⟨M', r1, r2, r3⟩ := JY.count (X := X) (M := M1) (s := (s.1, s.2.1, s.2.2.1, s.2.2.2.1, A)) ⟨ho.1, ho.2.1, ho.2.2.1, ho.2.2.2.1, hoA⟩
    ⟨y1.of of1 (fun a k q => by have := u a k q; unfold pxH; omega), y2.of of1 (fun a k q => by have := u a k q; omega), y3.of of1 (fun a k q => by have := u a k q; omega), y4.of of1 (fun a k q => by have := u a k q; omega), hA, hN, y7.of of1 (fun a k q => by have := u a k q; omega)⟩ (w.of of1 (fun a k q => by have := u a k q; unfold pxW2; omega))
  exact ⟨M', r1, r2, (of1.mo (fun a k q => by have := u a k q; unfold pX; omega)).tr r3⟩
def sp_ans (s : sgm) (t w v tm : Int32) : Int32 × sgm := if (0 ≤ t ∧ t ≤ 3) ∧ (0 ≤ w ∧ w ≤ 39) ∧ (-1 ≤ v ∧ v ≤ 1) ∧ ((0 ≤ tm ∧ tm ≤ 999) ∧ ¬ tm < nI (aLt s.2.2.2.2)) then (if s.2.2.2.2.1 < 120 then (nI (s.2.2.2.2.1 + 1), s.1, s.2.1, s.2.2.1, s.2.2.2.1, aTl s.2.2.2.2 t.toNatClampNeg w.toNatClampNeg v tm.toNatClampNeg) else (-4, s)) else (-2, s)
theorem okS_of {v : Int32} (h : -1 ≤ v ∧ v ≤ 1) : okS v := by
  have h1 := h.1
  have h2 := h.2
  rw [Int32.le_iff_toInt_le] at h1 h2
  rw [show (-1 : Int32).toInt = -1 from by decide] at h1
  rw [show (1 : Int32).toInt = 1 from by decide] at h2
  have h3 : v.toInt = -1 ∨ v.toInt = 0 ∨ v.toInt = 1 := by omega
  rcases h3 with h3 | h3 | h3
  · exact Or.inl (Int32.toInt_inj.mp h3)
  · exact Or.inr (Or.inl (Int32.toInt_inj.mp h3))
  · exact Or.inr (Or.inr (Int32.toInt_inj.mp h3))
theorem sp_ans_ok (ho : okm s) (t w v tm : Int32) : okm (sp_ans s t w v tm).2 := by
  unfold sp_ans
  split
  · rename_i h
    split
    · rename_i h1
      obtain ⟨a, ha, rfl⟩ := in_n (n := 3) h.1 (by decide)
      obtain ⟨b, hb, rfl⟩ := in_n (n := 39) h.2.1 (by decide)
      obtain ⟨c, hc, rfl⟩ := in_n (n := 999) h.2.2.2.1 (by decide)
      rw [nI_clamp (n := a) (by omega), nI_clamp (n := b) (by omega), nI_clamp (n := c) (by omega)]
      exact ⟨ho.1, ho.2.1, ho.2.2.1, ho.2.2.2.1, ho.2.2.2.2.tl h1 (by omega) (by omega) (okS_of h.2.2.1) hc⟩
    · exact ho
  · exact ho
theorem x_answer (hx : JX s M) (ho : okm s) (t w v tm : Int32) : ∃ M', am_e X 97 0 [some (.ref (0 : Nat)), some (.int t), some (.int w), some (.int v), some (.int tm)] [] kS M = some (some (.int (sp_ans s t w v tm).1), kS, M') ∧ JX (sp_ans s t w v tm).2 M' ∧ am_of pX M M' := by
  have y5 := hx.1.2.2.2.2.1
  have y6 := hx.1.2.2.2.2.2.1
  have i1 := q_isTaker (X := X) (S := kS) (M := M) t
  have i2 := q_isIn (X := X) (S := kS) (M := M) w 0 39
  have i3 := q_maySay (X := X) (S := kS) (M := M) v
  have i4 := q_mayBeTold (X := X) y5 ho.2.2.2.2 tm
  have o0 : ((1 : Int32) = 0) = False := eq_false (by decide)
  have h120 := ho.2.2.2.2.1
  unfold sp_ans
  by_cases h : (0 ≤ t ∧ t ≤ 3) ∧ (0 ≤ w ∧ w ≤ 39) ∧ (-1 ≤ v ∧ v ≤ 1) ∧ ((0 ≤ tm ∧ tm ≤ 999) ∧ ¬ tm < nI (aLt s.2.2.2.2))
  · rw [if_pos h]
    obtain ⟨h1, h2, h3, h4⟩ := h
    rw [am_bt h1] at i1
    rw [am_bt h2] at i2
    rw [am_bt h3] at i3
    rw [am_bt h4] at i4
    have c1 : (nI s.2.2.2.2.1 < 120) = (s.2.2.2.2.1 < 120) := propext (nI_ltI (b := 120) (by omega) (by decide))
    by_cases h5 : s.2.2.2.2.1 < 120
    · rw [if_pos h5]
      obtain ⟨a, ha, rfl⟩ := in_n (n := 3) h1 (by decide)
      obtain ⟨b, hb, rfl⟩ := in_n (n := 39) h2 (by decide)
      obtain ⟨c, hc, rfl⟩ := in_n (n := 999) h4.1 (by decide)
      rw [nI_clamp (n := a) (by omega), nI_clamp (n := b) (by omega), nI_clamp (n := c) (by omega)]
      obtain ⟨M1, t1, t2, t3, t4⟩ := q_tell (X := X) (t := a) (w := b) (tm := c) (v := v) y5 y6 ho.2.2.2.2 h5 (by omega) (by omega) hc
      obtain ⟨M', r1, r2, r3⟩ := JX.setA (X := X) hx ho (ho.2.2.2.2.tl (v := v) h5 (show a < 4 by omega) (show b < 40 by omega) (okS_of h3) hc) t4 t2 t3
      refine ⟨M', ?_, r2, r3⟩
      have e1 : M'.1 24 7 = nI (s.2.2.2.2.1 + 1) := r2.1.2.2.2.2.1.1
      simp only [e97_0, e97_1, e97_4, e97_7, e97_8, e97_9, e97_11, e97_14, e97_17, e97_19, e97_20, e97_21, e97_24, e97_27, e97_28, e97_30, e97_33, e97_36, e97_38, e97_39, e97_40, e97_43, e97_46, e97_48, e97_51, e97_53, e97_54, e97_55, e97_58, e97_59, e97_60, e97_61, e97_63, e97_66, e97_67, e97_70, e97_71, e97_74, e97_77, e2_0, e2_1, e2_4, s0, s0_0, s0_1, s0_2, s0_3, s0_4, s0_5, s0_6, s0_7, r0_0, r0_1, r0_2, r0_3, r0_4, r0_5, r0_6, r0_7, s24, s24_0, s24_1, s24_2, s24_3, s24_4, s24_5, s24_6, s24_7, s24_8, r24_0, r24_1, r24_2, r24_3, r24_4, r24_5, r24_6, s25, s26, s27, s28, s29, s30, s31, s32, s33, s34, s35, i1, i2, i3, i4, o0, y5.1, c1, h5, t1, r1, e1, am_bv_s, am_bw_s, eq_self, true_or, or_true, am_b0, am_b1, am_em, if_true, if_false, true_and, and_true, false_and, and_false, not_true_eq_false, not_false_eq_true, false_or, or_false, Bool.false_eq_true]
    · rw [if_neg h5]
      refine ⟨M, ?_, hx, am_of.rf⟩
      simp only [e97_0, e97_1, e97_4, e97_7, e97_8, e97_9, e97_11, e97_14, e97_17, e97_19, e97_20, e97_21, e97_24, e97_27, e97_28, e97_30, e97_33, e97_36, e97_38, e97_39, e97_40, e97_43, e97_46, e97_48, e97_51, e97_53, e97_54, e97_55, e97_58, e97_59, e97_60, e97_61, e97_63, e97_66, e97_67, e97_70, e97_71, e97_74, e97_77, e2_0, e2_1, e2_4, s0, s0_0, s0_1, s0_2, s0_3, s0_4, s0_5, s0_6, s0_7, r0_0, r0_1, r0_2, r0_3, r0_4, r0_5, r0_6, r0_7, s24, s24_0, s24_1, s24_2, s24_3, s24_4, s24_5, s24_6, s24_7, s24_8, r24_0, r24_1, r24_2, r24_3, r24_4, r24_5, r24_6, s25, s26, s27, s28, s29, s30, s31, s32, s33, s34, s35, i1, i2, i3, i4, o0, y5.1, c1, h5, am_bv_s, am_bw_s, eq_self, true_or, or_true, am_b0, am_b1, am_em, if_true, if_false, true_and, and_true, false_and, and_false, not_true_eq_false, not_false_eq_true, false_or, or_false, Bool.false_eq_true]
  · rw [if_neg h]
    refine ⟨M, ?_, hx, am_of.rf⟩
    by_cases h1 : 0 ≤ t ∧ t ≤ 3
    · rw [am_bt h1] at i1
      by_cases h2 : 0 ≤ w ∧ w ≤ 39
      · rw [am_bt h2] at i2
        by_cases h3 : -1 ≤ v ∧ v ≤ 1
        · rw [am_bt h3] at i3
          have h4 : ¬ ((0 ≤ tm ∧ tm ≤ 999) ∧ ¬ tm < nI (aLt s.2.2.2.2)) := fun q => h ⟨h1, h2, h3, q⟩
          rw [am_bf h4] at i4
          simp only [e97_0, e97_1, e97_4, e97_7, e97_8, e97_9, e97_11, e97_14, e97_17, e97_19, e97_20, e97_21, e97_24, e97_27, e97_28, e97_30, e97_33, e97_36, e97_38, e97_39, e97_40, e97_43, e97_46, e97_48, e97_51, e97_53, e97_54, e97_55, e97_58, e97_59, e97_60, e97_61, e97_63, e97_66, e97_67, e97_70, e97_71, e97_74, e97_77, s0, s0_0, s0_1, s0_2, s0_3, s0_4, s0_5, s0_6, s0_7, r0_0, r0_1, r0_2, r0_3, r0_4, r0_5, r0_6, r0_7, i1, i2, i3, i4, o0, am_bv_s, am_bw_s, eq_self, true_or, or_true, am_b0, am_b1, am_em, if_true, if_false, true_and, and_true, false_and, and_false, not_true_eq_false, not_false_eq_true, false_or, or_false, Bool.false_eq_true]
        · rw [am_bf h3] at i3
          simp only [e97_0, e97_1, e97_4, e97_7, e97_8, e97_9, e97_11, e97_14, e97_17, e97_19, e97_20, e97_21, e97_24, e97_27, e97_28, e97_30, e97_33, e97_36, e97_38, e97_39, e97_40, e97_43, e97_46, e97_48, e97_51, e97_53, e97_54, e97_55, e97_58, e97_59, e97_60, e97_61, e97_63, e97_66, e97_67, e97_70, e97_71, e97_74, e97_77, i1, i2, i3, o0, am_bv_s, am_bw_s, eq_self, true_or, or_true, am_b0, am_b1, am_em, if_true, if_false, true_and, and_true, false_and, and_false, not_true_eq_false, not_false_eq_true, false_or, or_false, Bool.false_eq_true]
      · rw [am_bf h2] at i2
        simp only [e97_0, e97_1, e97_4, e97_7, e97_8, e97_9, e97_11, e97_14, e97_17, e97_19, e97_20, e97_21, e97_24, e97_27, e97_28, e97_30, e97_33, e97_36, e97_38, e97_39, e97_40, e97_43, e97_46, e97_48, e97_51, e97_53, e97_54, e97_55, e97_58, e97_59, e97_60, e97_61, e97_63, e97_66, e97_67, e97_70, e97_71, e97_74, e97_77, i1, i2, o0, am_bv_s, am_bw_s, eq_self, true_or, or_true, am_b0, am_b1, am_em, if_true, if_false, true_and, and_true, false_and, and_false, not_true_eq_false, not_false_eq_true, false_or, or_false, Bool.false_eq_true]
    · rw [am_bf h1] at i1
      simp only [e97_0, e97_1, e97_4, e97_7, e97_8, e97_9, e97_11, e97_14, e97_17, e97_19, e97_20, e97_21, e97_24, e97_27, e97_28, e97_30, e97_33, e97_36, e97_38, e97_39, e97_40, e97_43, e97_46, e97_48, e97_51, e97_53, e97_54, e97_55, e97_58, e97_59, e97_60, e97_61, e97_63, e97_66, e97_67, e97_70, e97_71, e97_74, e97_77, i1, am_bv_s, am_bw_s, eq_self, true_or, or_true, am_b0, am_b1, am_em, if_true, if_false, true_and, and_true, false_and, and_false, not_true_eq_false, not_false_eq_true, false_or, or_false, Bool.false_eq_true]
def sp_asOf (s : sgm) (tm : Int32) : Int32 × sgm := if 0 ≤ tm ∧ tm ≤ 999 then (nI s.2.2.2.2.2.2.2.2.2, s.1, s.2.1, s.2.2.1, s.2.2.2.1, aOf s.2.2.2.2 tm.toNatClampNeg) else (-2, s)
theorem sp_asOf_ok (ho : okm s) (tm : Int32) : okm (sp_asOf s tm).2 := by
  unfold sp_asOf
  split
  · rename_i h
    obtain ⟨c, hc, rfl⟩ := in_n (n := 999) h (by decide)
    rw [nI_clamp (n := c) (by omega)]
    exact ⟨ho.1, ho.2.1, ho.2.2.1, ho.2.2.2.1, ho.2.2.2.2.of hc⟩
  · exact ho
theorem pxN_A {a k : Nat} (h : pxN a k) : pxA a k := by unfold pxN at h; unfold pxA; omega
theorem x_asOf (hx : JX s M) (ho : okm s) (tm : Int32) : ∃ M', am_e X 99 0 [some (.ref (0 : Nat)), some (.int tm), none] [] kS M = some (some (.int (sp_asOf s tm).1), kS, M') ∧ JX (sp_asOf s tm).2 M' ∧ am_of pX M M' := by
  have y5 := hx.1.2.2.2.2.1
  have i1 := q_isTime (X := X) (S := kS) (M := M) tm
  have o0 : ((1 : Int32) = 0) = False := eq_false (by decide)
  unfold sp_asOf
  by_cases h : 0 ≤ tm ∧ tm ≤ 999
  · rw [if_pos h]
    rw [am_bt h] at i1
    obtain ⟨c, hc, rfl⟩ := in_n (n := 999) h (by decide)
    rw [nI_clamp (n := c) (by omega)]
    obtain ⟨M1, t1, t2, t3, t4⟩ := q_viewAsOf (X := X) y5 ho.2.2.2.2 hc
    obtain ⟨M', r1, r2, r3⟩ := JX.setA (X := X) hx ho (ho.2.2.2.2.of hc) (t4.mo fun a k q => pxN_A q) t2 t3
    refine ⟨M', ?_, r2, r3⟩
    simp only [e99_0, e99_1, e99_4, e99_7, e99_9, e99_10, e99_11, e99_14, e99_17, e99_18, e99_19, e99_22, e99_23, e99_26, e99_27, e99_30, e99_31, e3_0, e3_1, e3_4, s0, s0_0, s0_1, s0_2, s0_3, s0_4, s0_5, s0_6, s0_7, r0_0, r0_1, r0_2, r0_3, r0_4, r0_5, r0_6, r0_7, s24, s24_0, s24_1, s24_2, s24_3, s24_4, s24_5, s24_6, s24_7, s24_8, r24_0, r24_1, r24_2, r24_3, r24_4, r24_5, r24_6, s25, s26, s27, s28, s29, s30, s31, s32, s33, s34, s35, i1, o0, y5.2.1, t1, r1, am_bv_s, am_bw_s, eq_self, true_or, or_true, am_b0, am_b1, am_em, if_true, if_false, true_and, and_true, false_and, and_false, not_true_eq_false, not_false_eq_true, false_or, or_false, Bool.false_eq_true]
  · rw [if_neg h]
    rw [am_bf h] at i1
    refine ⟨M, ?_, hx, am_of.rf⟩
    simp only [e99_0, e99_1, e99_4, e99_7, e99_9, e99_10, e99_11, e99_14, e99_17, e99_18, e99_19, e99_22, e99_23, e99_26, e99_27, e99_30, e99_31, i1, am_bv_s, am_bw_s, eq_self, true_or, or_true, am_b0, am_b1, am_em, if_true, if_false, true_and, and_true, false_and, and_false, not_true_eq_false, not_false_eq_true, false_or, or_false, Bool.false_eq_true]
def sp_asked (s : sgm) (t b w : Int32) : Int32 := if (0 ≤ t ∧ t ≤ 3) ∧ (b = -1 ∨ (0 ≤ b ∧ b ≤ nI s.2.1.1 - 1)) ∧ (0 ≤ w ∧ w ≤ 1) then (if w = 0 then nI (sAs s.2.1.1 s.2.2.2.1 s.2.2.2.2 t.toNatClampNeg (if b = -1 then 6 else b.toNatClampNeg)) else nI (sYe s.2.1.1 s.2.2.2.1 s.2.2.2.2 t.toNatClampNeg (if b = -1 then 6 else b.toNatClampNeg))) else -2
theorem q_askedOf {nb : Nat} {l : sgL} {A : sgA} {t k : Nat} (hx : xT nb l A M) (ht : t < 4) (hk : k < 7) : am_e X 67 0 [some (.ref (36 : Nat)), some (.int (nI t)), some (.int (nI k))] [] kS M = some (some (.int (nI (sAs nb l A t k))), kS, M) := by
  have ct : (nI t).toNatClampNeg = t := nI_clamp (by omega)
  have ck : (nI k).toNatClampNeg = k := nI_clamp (by omega)
  simp only [e67_0, e67_1, e67_4, e67_5, e67_6, e67_7, e67_8, s36, s36_0, s36_1, s36_2, r36_0, r36_1, r36_2, s37, s38, s39, s40, s41, s42, s43, s44, s45, s46, s47, s47_0, s47_1, ct, ck, a37 ht, r37 t ht, t37 t ht, g37 ht hk, (hx t ht k hk).1, am_bv_s, am_bw_s, eq_self, true_or, or_true, am_b0, am_b1, am_em, if_true, if_false, true_and, and_true, false_and, and_false, not_true_eq_false, not_false_eq_true, false_or, or_false, Bool.false_eq_true]
theorem q_yesesOf {nb : Nat} {l : sgL} {A : sgA} {t k : Nat} (hx : xT nb l A M) (ht : t < 4) (hk : k < 7) : am_e X 68 0 [some (.ref (36 : Nat)), some (.int (nI t)), some (.int (nI k))] [] kS M = some (some (.int (nI (sYe nb l A t k))), kS, M) := by
  have ct : (nI t).toNatClampNeg = t := nI_clamp (by omega)
  have ck : (nI k).toNatClampNeg = k := nI_clamp (by omega)
  simp only [e68_0, e68_1, e68_4, e68_5, e68_6, e68_7, e68_8, s36, s36_0, s36_1, s36_2, r36_0, r36_1, r36_2, s37, s38, s39, s40, s41, s42, s43, s44, s45, s46, s47, s47_0, s47_1, ct, ck, a42 ht, r42 t ht, t42 t ht, g42 ht hk, (hx t ht k hk).2, am_bv_s, am_bw_s, eq_self, true_or, or_true, am_b0, am_b1, am_em, if_true, if_false, true_and, and_true, false_and, and_false, not_true_eq_false, not_false_eq_true, false_or, or_false, Bool.false_eq_true]
theorem x_isBand {d : sgD} (hx : xD d M) (v : Int32) : am_e X 130 0 [some (.ref (0 : Nat)), some (.int v)] [] kS M = some (some (.int (am_b (0 ≤ v ∧ v ≤ nI d.1 - 1))), kS, M) := by
  rw [q_isBand, hx.1]
theorem x_asked (hx : JX s M) (ho : okm s) (t b w : Int32) : am_e X 100 0 [some (.ref (0 : Nat)), some (.int t), some (.int b), some (.int w), none] [] kS M = some (some (.int (sp_asked s t b w)), kS, M) := by
  have y5 := hx.1.2.2.2.2.1
  have i1 := q_isTaker (X := X) (S := kS) (M := M) t
  have i2 := x_isBand (X := X) (M := M) hx.1.2.1 b
  have i3 := q_isIn (X := X) (S := kS) (M := M) w 0 1
  have o0 : ((1 : Int32) = 0) = False := eq_false (by decide)
  have d6 := ho.2.1.1
  unfold sp_asked
  by_cases h1 : 0 ≤ t ∧ t ≤ 3
  · rw [am_bt h1] at i1
    by_cases h3 : 0 ≤ w ∧ w ≤ 1
    · rw [am_bt h3] at i3
      obtain ⟨a, ha, rfl⟩ := in_n (n := 3) h1 (by decide)
      rw [nI_clamp (n := a) (by omega)]
      have fin : ∀ k, k < 7 → am_e X 100 45 [some (.ref (0 : Nat)), some (.int (nI a)), none, some (.int w), some (.int (nI k))] [] kS M = some (some (.int (if w = 0 then nI (sAs s.2.1.1 s.2.2.2.1 s.2.2.2.2 a k) else nI (sYe s.2.1.1 s.2.2.2.1 s.2.2.2.2 a k))), kS, M) := by
        intro k hk
        have q1 := q_askedOf (X := X) hx.2.2 (show a < 4 by omega) hk
        have q2 := q_yesesOf (X := X) hx.2.2 (show a < 4 by omega) hk
        rw [e100_45]
        by_cases hw : w = 0
        · rw [if_pos hw]
          simp only [e100_0, e100_1, e100_4, e100_7, e100_8, e100_9, e100_12, e100_13, e100_14, e100_17, e100_20, e100_21, e100_22, e100_23, e100_26, e100_29, e100_31, e100_32, e100_33, e100_34, e100_37, e100_39, e100_42, e100_43, e100_46, e100_49, e100_50, e100_53, e100_54, e100_56, e100_59, e100_62, e100_63, e100_66, e100_67, e100_69, e100_72, s0, s0_0, s0_1, s0_2, s0_3, s0_4, s0_5, s0_6, s0_7, r0_0, r0_1, r0_2, r0_3, r0_4, r0_5, r0_6, r0_7, s36, s36_0, s36_1, s36_2, r36_0, r36_1, r36_2, s37, s38, s39, s40, s41, s42, s43, s44, s45, s46, s47, s47_0, s47_1, hw, q1, am_bv_s, am_bw_s, eq_self, true_or, or_true, am_b0, am_b1, am_em, if_true, if_false, true_and, and_true, false_and, and_false, not_true_eq_false, not_false_eq_true, false_or, or_false, Bool.false_eq_true]
        · rw [if_neg hw]
          simp only [e100_0, e100_1, e100_4, e100_7, e100_8, e100_9, e100_12, e100_13, e100_14, e100_17, e100_20, e100_21, e100_22, e100_23, e100_26, e100_29, e100_31, e100_32, e100_33, e100_34, e100_37, e100_39, e100_42, e100_43, e100_46, e100_49, e100_50, e100_53, e100_54, e100_56, e100_59, e100_62, e100_63, e100_66, e100_67, e100_69, e100_72, s0, s0_0, s0_1, s0_2, s0_3, s0_4, s0_5, s0_6, s0_7, r0_0, r0_1, r0_2, r0_3, r0_4, r0_5, r0_6, r0_7, s36, s36_0, s36_1, s36_2, r36_0, r36_1, r36_2, s37, s38, s39, s40, s41, s42, s43, s44, s45, s46, s47, s47_0, s47_1, hw, q2, am_bv_s, am_bw_s, eq_self, true_or, or_true, am_b0, am_b1, am_em, if_true, if_false, true_and, and_true, false_and, and_false, not_true_eq_false, not_false_eq_true, false_or, or_false, Bool.false_eq_true]
      by_cases h2 : b = -1
      · rw [if_pos ⟨h1, Or.inl h2, h3⟩, if_pos h2]
        have f6 := fin 6 (by decide)
        rw [show nI 6 = 6 from rfl] at f6
        rw [← f6]
        simp only [e100_0, e100_1, e100_4, e100_7, e100_8, e100_9, e100_12, e100_13, e100_14, e100_17, e100_20, e100_21, e100_22, e100_23, e100_26, e100_29, e100_31, e100_32, e100_33, e100_34, e100_37, e100_39, e100_42, e100_43, e100_46, e100_49, e100_50, e100_53, e100_54, e100_56, e100_59, e100_62, e100_63, e100_66, e100_67, e100_69, e100_72, s0, s0_0, s0_1, s0_2, s0_3, s0_4, s0_5, s0_6, s0_7, r0_0, r0_1, r0_2, r0_3, r0_4, r0_5, r0_6, r0_7, i1, i3, h2, o0, am_bv_s, am_bw_s, eq_self, true_or, or_true, am_b0, am_b1, am_em, if_true, if_false, true_and, and_true, false_and, and_false, not_true_eq_false, not_false_eq_true, false_or, or_false, Bool.false_eq_true]
      · by_cases h4 : 0 ≤ b ∧ b ≤ nI s.2.1.1 - 1
        · rw [if_pos ⟨h1, Or.inr h4, h3⟩, if_neg h2]
          rw [am_bt h4] at i2
          obtain ⟨k, hk, rfl⟩ := (pred_le (by omega)).mp h4
          rw [nI_clamp (n := k) (by omega), ← fin k (by omega)]
          simp only [e100_0, e100_1, e100_4, e100_7, e100_8, e100_9, e100_12, e100_13, e100_14, e100_17, e100_20, e100_21, e100_22, e100_23, e100_26, e100_29, e100_31, e100_32, e100_33, e100_34, e100_37, e100_39, e100_42, e100_43, e100_46, e100_49, e100_50, e100_53, e100_54, e100_56, e100_59, e100_62, e100_63, e100_66, e100_67, e100_69, e100_72, s0, s0_0, s0_1, s0_2, s0_3, s0_4, s0_5, s0_6, s0_7, r0_0, r0_1, r0_2, r0_3, r0_4, r0_5, r0_6, r0_7, i1, i2, i3, h2, o0, am_bv_s, am_bw_s, eq_self, true_or, or_true, am_b0, am_b1, am_em, if_true, if_false, true_and, and_true, false_and, and_false, not_true_eq_false, not_false_eq_true, false_or, or_false, Bool.false_eq_true]
        · rw [if_neg (fun q => q.2.1.elim h2 h4)]
          rw [am_bf h4] at i2
          simp only [e100_0, e100_1, e100_4, e100_7, e100_8, e100_9, e100_12, e100_13, e100_14, e100_17, e100_20, e100_21, e100_22, e100_23, e100_26, e100_29, e100_31, e100_32, e100_33, e100_34, e100_37, e100_39, e100_42, e100_43, e100_46, e100_49, e100_50, e100_53, e100_54, e100_56, e100_59, e100_62, e100_63, e100_66, e100_67, e100_69, e100_72, s0, s0_0, s0_1, s0_2, s0_3, s0_4, s0_5, s0_6, s0_7, r0_0, r0_1, r0_2, r0_3, r0_4, r0_5, r0_6, r0_7, i1, i2, h2, o0, am_bv_s, am_bw_s, eq_self, true_or, or_true, am_b0, am_b1, am_em, if_true, if_false, true_and, and_true, false_and, and_false, not_true_eq_false, not_false_eq_true, false_or, or_false, Bool.false_eq_true]
    · rw [am_bf h3] at i3
      rw [if_neg (fun q => h3 q.2.2)]
      by_cases h2 : b = -1
      · simp only [e100_0, e100_1, e100_4, e100_7, e100_8, e100_9, e100_12, e100_13, e100_14, e100_17, e100_20, e100_21, e100_22, e100_23, e100_26, e100_29, e100_31, e100_32, e100_33, e100_34, e100_37, e100_39, e100_42, e100_43, e100_45, e100_46, e100_49, e100_50, e100_53, e100_54, e100_56, e100_59, e100_62, e100_63, e100_66, e100_67, e100_69, e100_72, s0, s0_0, s0_1, s0_2, s0_3, s0_4, s0_5, s0_6, s0_7, r0_0, r0_1, r0_2, r0_3, r0_4, r0_5, r0_6, r0_7, i1, i3, h2, o0, am_bv_s, am_bw_s, eq_self, true_or, or_true, am_b0, am_b1, am_em, if_true, if_false, true_and, and_true, false_and, and_false, not_true_eq_false, not_false_eq_true, false_or, or_false, Bool.false_eq_true]
      · by_cases h4 : 0 ≤ b ∧ b ≤ nI s.2.1.1 - 1
        · rw [am_bt h4] at i2
          simp only [e100_0, e100_1, e100_4, e100_7, e100_8, e100_9, e100_12, e100_13, e100_14, e100_17, e100_20, e100_21, e100_22, e100_23, e100_26, e100_29, e100_31, e100_32, e100_33, e100_34, e100_37, e100_39, e100_42, e100_43, e100_45, e100_46, e100_49, e100_50, e100_53, e100_54, e100_56, e100_59, e100_62, e100_63, e100_66, e100_67, e100_69, e100_72, s0, s0_0, s0_1, s0_2, s0_3, s0_4, s0_5, s0_6, s0_7, r0_0, r0_1, r0_2, r0_3, r0_4, r0_5, r0_6, r0_7, i1, i2, i3, h2, o0, am_bv_s, am_bw_s, eq_self, true_or, or_true, am_b0, am_b1, am_em, if_true, if_false, true_and, and_true, false_and, and_false, not_true_eq_false, not_false_eq_true, false_or, or_false, Bool.false_eq_true]
        · rw [am_bf h4] at i2
          simp only [e100_0, e100_1, e100_4, e100_7, e100_8, e100_9, e100_12, e100_13, e100_14, e100_17, e100_20, e100_21, e100_22, e100_23, e100_26, e100_29, e100_31, e100_32, e100_33, e100_34, e100_37, e100_39, e100_42, e100_43, e100_45, e100_46, e100_49, e100_50, e100_53, e100_54, e100_56, e100_59, e100_62, e100_63, e100_66, e100_67, e100_69, e100_72, s0, s0_0, s0_1, s0_2, s0_3, s0_4, s0_5, s0_6, s0_7, r0_0, r0_1, r0_2, r0_3, r0_4, r0_5, r0_6, r0_7, i1, i2, h2, o0, am_bv_s, am_bw_s, eq_self, true_or, or_true, am_b0, am_b1, am_em, if_true, if_false, true_and, and_true, false_and, and_false, not_true_eq_false, not_false_eq_true, false_or, or_false, Bool.false_eq_true]
  · rw [am_bf h1] at i1
    rw [if_neg (fun q => h1 q.1)]
    simp only [e100_0, e100_1, e100_4, e100_7, e100_8, e100_9, e100_12, e100_13, e100_14, e100_17, e100_20, e100_21, e100_22, e100_23, e100_26, e100_29, e100_31, e100_32, e100_33, e100_34, e100_37, e100_39, e100_42, e100_43, e100_45, e100_46, e100_49, e100_50, e100_53, e100_54, e100_56, e100_59, e100_62, e100_63, e100_66, e100_67, e100_69, e100_72, s0, s0_0, s0_1, s0_2, s0_3, s0_4, s0_5, s0_6, s0_7, r0_0, r0_1, r0_2, r0_3, r0_4, r0_5, r0_6, r0_7, i1, am_bv_s, am_bw_s, eq_self, true_or, or_true, am_b0, am_b1, am_em, if_true, if_false, true_and, and_true, false_and, and_false, not_true_eq_false, not_false_eq_true, false_or, or_false, Bool.false_eq_true]
end
