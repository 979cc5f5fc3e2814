/-! the class: deal -/
def dA (d : sgD) (b : Nat) : Nat := d.2 b * d.2 b
def dB (h : Nat → Nat) (b : Nat) : Nat := h b * (h b + 1)
def pick (h : Nat → Nat) (d : sgD) : Option Nat := orE (gwo h d.2 d.1) (ggo (dA d) (dB h) d.1)
def dlU (h : Nat → Nat) : Option Nat → Nat → Nat
  | none => h
  | some j => fun b => if b = j then h j + 1 else h b
def dlt (d : sgD) : Nat → Nat → Nat
  | 0 => nMe
  | n + 1 => dlU (dlt d n) (pick (dlt d n) d)
def sp_deal (s : sgm) (n b : Int32) : Int32 := if (0 ≤ n ∧ n ≤ 99) ∧ (0 ≤ b ∧ b ≤ nI s.2.1.1 - 1) then nI (dlt s.2.1 n.toNatClampNeg b.toNatClampNeg) else -2
theorem pick_lt {h : Nat → Nat} {d : sgD} {j : Nat} (q : pick h d = some j) : j < d.1 := by
  unfold pick at q
  cases hw : gwo h d.2 d.1 with
  | some k =>
    rw [hw] at q
    cases q
    exact gwo_lt _ hw
  | none =>
    rw [hw] at q
    exact ggo_lt _ q
theorem dlt_le {d : sgD} : ∀ n b, dlt d n b ≤ n
  | 0, _ => Nat.le_refl _
  | n + 1, b => by
    have ih := dlt_le (d := d) n
    rw [dlt]
    cases pick (dlt d n) d with
    | none => exact Nat.le_succ_of_le (ih b)
    | some j =>
      show (if b = j then dlt d n j + 1 else dlt d n b) ≤ n + 1
      have h1 := ih b
      have h2 := ih j
      split <;> omega
section
variable {X : am_X} {S : am_Sh} {M M' : am_Me} {P : Nat → Nat → Prop} {s : sgm}
theorem x_bandToDeal {h : Nat → Nat} (hx : JX s M) (ho : okm s) (hh : xHd 6 h M) (hb : ∀ b, h b ≤ 99) : ∃ M', am_e X 28 0 [some (.ref (1 : Nat)), none, none] [] kS M = some (some (.int (oI (pick h s.2.1))), kS, M') ∧ am_of (fun a _ => a = 4 ∨ a = 5) M M' := by
  have d6 := ho.2.1.1
  have pj : ∀ {Mb : am_Me}, am_of (fun a _ => a = 4 ∨ a = 5) M Mb → JX s Mb := fun o => hx.of o (fun a k q => by unfold pS; omega)
  have wo := q_without (X := X) hx.1.2.1 ho.2.1 (fun b hb => hh b (by omega)) (fun b _ => by have := hb b; omega)
  have cf := oI_n (o := gwo h s.2.1.2 s.2.1.1) (fun j h => by have := gwo_lt _ h; omega)
  unfold pick
  cases hq : gwo h s.2.1.2 s.2.1.1 with
  | some q =>
    rw [hq] at wo cf
    have cf2 : (oI (some q) = -1) = False := by rw [cf]; exact eq_false (fun z => by cases z)
    refine ⟨M, ?_, am_of.rf⟩
    have eo : ∀ b, orE (some q) b = some q := fun _ => rfl
    rw [eo]
    simp only [e28_0, e28_1, e28_4, e28_5, e28_6, e28_7, e28_10, e28_11, e28_12, e28_13, e28_15, e28_16, e28_19, e28_22, e28_23, e28_26, e28_27, e28_28, e28_31, e28_32, e28_33, e28_34, e28_35, e28_38, e28_39, e28_40, e28_41, e28_42, e28_43, e28_44, e28_47, e28_48, e28_49, e28_52, e28_53, e28_54, e28_55, e28_56, e28_59, e28_60, e28_61, e28_62, e28_63, e28_64, e28_65, e28_66, e28_69, e28_72, e28_73, e28_76, s1, s1_0, s1_1, s1_2, s1_3, s1_4, r1_0, r1_1, r1_2, r1_3, s2, s3, s4, s5, wo, cf2, am_bv_s, am_bw_s, eq_self, true_or, or_true, am_b0, am_b1, am_em, if_true, if_false, true_and, and_true, false_and, and_false, not_true_eq_false, not_false_eq_true, false_or, or_false, Bool.false_eq_true]
  | none =>
    rw [hq] at wo
    have cn : (nI s.2.1.1 < nI s.2.1.1) = False := eq_false (nI_nlt (Nat.le_refl _) (by omega))
    obtain ⟨M3, e3, g3, of3⟩ := am_lp (X := X) (S := kS) (mi := 28) (pc := 14) s.2.1.1 (fun i => [some (.ref (1 : Nat)), none, some (.int (nI i))])
      (fun i M' => xGa i (dA s.2.1) (dB h) M' ∧ am_of (fun a _ => a = 4 ∨ a = 5) M M') (M := M) ⟨fun b hb => absurd hb (Nat.not_lt_zero _), am_of.rf⟩ (by
        intro j M2 hj hI
        obtain ⟨i1, i2⟩ := hI
        have j2 := pj i2
        have c1 : (nI j < nI s.2.1.1) = True := eq_true (nI_lt hj (by omega))
        have cj : (nI j).toNatClampNeg = j := nI_clamp (by omega)
        have hd : M2.1 3 j = nI (h j) := ((i2 _ _ (by omega)).1).trans (hh j (by omega))
        have sz := j2.1.2.1.2 j hj
        have h99 := hb j
        have l1 := lI_w (n := h j) (by omega)
        have l2 := lI_w (n := h j + 1) (by omega)
        have l3 := lI_w (n := s.2.1.2 j) (by have := (ho.2.1.2 j hj).2; omega)
        refine ⟨am_setL (am_setL M2 4 j (lI (dA s.2.1 j))) 5 j (lI (dB h j)), ?_, fun b hb => ?_, (i2.sL (Or.inl rfl)).sL (Or.inr rfl)⟩
        · rw [e28_14]
          simp only [e28_0, e28_1, e28_4, e28_5, e28_6, e28_7, e28_10, e28_11, e28_12, e28_13, e28_15, e28_16, e28_19, e28_22, e28_23, e28_26, e28_27, e28_28, e28_31, e28_32, e28_33, e28_34, e28_35, e28_38, e28_39, e28_40, e28_41, e28_42, e28_43, e28_44, e28_47, e28_48, e28_49, e28_52, e28_53, e28_54, e28_55, e28_56, e28_59, e28_60, e28_61, e28_62, e28_63, e28_64, e28_65, e28_66, e28_69, e28_72, e28_73, e28_76, s1, s1_0, s1_1, s1_2, s1_3, s1_4, r1_0, r1_1, r1_2, r1_3, s2, s3, s4, s5, j2.1.2.1.1, c1, cj, hd, sz, l1, l2, l3, lI_mul, nI_1, gLI, dA, dB, a3 (show j < 6 by omega), a2 (show j < 6 by omega), a4 (show j < 6 by omega), a5 (show j < 6 by omega), am_bv_s, am_bw_s, eq_self, true_or, or_true, am_b0, am_b1, am_em, if_true, if_false, true_and, and_true, false_and, and_false, not_true_eq_false, not_false_eq_true, false_or, or_false, Bool.false_eq_true]
        · by_cases e : b = j
          · subst e
            exact ⟨by rw [gL, if_neg (by omega), gL, if_pos ⟨rfl, rfl⟩], by rw [gL, if_pos ⟨rfl, rfl⟩]⟩
          · obtain ⟨q1, q2⟩ := i1 b (by omega)
            exact ⟨by rw [gL, if_neg (by omega), gL, if_neg (by omega)]; exact q1, by rw [gL, if_neg (by omega), gL, if_neg (by omega)]; exact q2⟩)
    have j3 := pj of3
    have gg := q_gain (X := X) j3.1.2.1 ho.2.1 g3 (fun i j hi hj => Nat.lt_of_le_of_lt (Nat.mul_le_mul (Nat.mul_le_mul (ho.2.1.2 i hi).2 (ho.2.1.2 i hi).2) (Nat.mul_le_mul (hb j) (Nat.succ_le_succ (hb j)))) (by decide))
    refine ⟨M3, ?_, of3⟩
    have f3 : am_e X 28 14 [some (.ref (1 : Nat)), none, some (.int (nI s.2.1.1))] [] kS M3 = some (some (.int (oI (ggo (dA s.2.1) (dB h) s.2.1.1))), kS, M3) := by
      rw [e28_14]
      simp only [e28_0, e28_1, e28_4, e28_5, e28_6, e28_7, e28_10, e28_11, e28_12, e28_13, e28_15, e28_16, e28_19, e28_22, e28_23, e28_26, e28_27, e28_28, e28_31, e28_32, e28_33, e28_34, e28_35, e28_38, e28_39, e28_40, e28_41, e28_42, e28_43, e28_44, e28_47, e28_48, e28_49, e28_52, e28_53, e28_54, e28_55, e28_56, e28_59, e28_60, e28_61, e28_62, e28_63, e28_64, e28_65, e28_66, e28_69, e28_72, e28_73, e28_76, s1, s1_0, s1_1, s1_2, s1_3, s1_4, r1_0, r1_1, r1_2, r1_3, s2, s3, s4, s5, j3.1.2.1.1, cn, gg, am_bv_s, am_bw_s, eq_self, true_or, or_true, am_b0, am_b1, am_em, if_true, if_false, true_and, and_true, false_and, and_false, not_true_eq_false, not_false_eq_true, false_or, or_false, Bool.false_eq_true]
    rw [f3, nI_0] at e3
    have eo : ∀ b, orE none b = b := fun _ => rfl
    rw [eo]
    simp only [e28_0, e28_1, e28_4, e28_5, e28_6, e28_7, e28_10, e28_11, e28_12, e28_13, e28_15, e28_16, e28_19, e28_22, e28_23, e28_26, e28_27, e28_28, e28_31, e28_32, e28_33, e28_34, e28_35, e28_38, e28_39, e28_40, e28_41, e28_42, e28_43, e28_44, e28_47, e28_48, e28_49, e28_52, e28_53, e28_54, e28_55, e28_56, e28_59, e28_60, e28_61, e28_62, e28_63, e28_64, e28_65, e28_66, e28_69, e28_72, e28_73, e28_76, s1, s1_0, s1_1, s1_2, s1_3, s1_4, r1_0, r1_1, r1_2, r1_3, s2, s3, s4, s5, wo, oI, (eq_true rfl : ((-1 : Int32) = -1) = True), e3, am_bv_s, am_bw_s, eq_self, true_or, or_true, am_b0, am_b1, am_em, if_true, if_false, true_and, and_true, false_and, and_false, not_true_eq_false, not_false_eq_true, false_or, or_false, Bool.false_eq_true]
theorem x_dealtTo {n b : Nat} (hx : JX s M) (ho : okm s) (hn : n ≤ 99) (hb : b < s.2.1.1) : ∃ M', am_e X 27 0 [some (.ref (1 : Nat)), some (.int (nI b)), some (.int (nI n)), none, none] [] kS M = some (some (.int (nI (dlt s.2.1 n b))), kS, M') ∧ JX s M' ∧ am_of pGa M M' := by
  have d6 := ho.2.1.1
  have pj : ∀ {Mb : am_Me}, am_of pGa M Mb → JX s Mb := fun o => hx.of o (fun a k q => pGa_S q)
  have hfill := q_fill0 (X := X) (M := M) (a := 3) (n := 6) (v := 0) (by decide) s3 rfl
  generalize hM1 : am_setA M 3 (fun j => if j < 6 then 0 else M.1 3 j) = M1 at hfill
  have of1 : am_of pGa M M1 := by rw [← hM1]; exact am_of.rf.sA (fun _ => Or.inl (Or.inl rfl))
  have h1 : xHd 6 nMe M1 := fun b hb => by rw [← hM1, gA, if_pos rfl, if_pos hb]; rfl
  obtain ⟨M2, e2, g2, of2⟩ := am_lp (X := X) (S := kS) (mi := 27) (pc := 10) n (fun i => [some (.ref (1 : Nat)), some (.int (nI b)), some (.int (nI n)), some (.int (nI i)), none])
    (fun i M' => xHd 6 (dlt s.2.1 i) M' ∧ am_of pGa M M') (M := M1) ⟨h1, of1⟩ (by
      intro j M3 hj hI
      obtain ⟨i1, i2⟩ := hI
      have j3 := pj i2
      have c1 : (nI j < nI n) = True := eq_true (nI_lt hj (by omega))
      have le := dlt_le (d := s.2.1) j
      obtain ⟨M4, d1, d2⟩ := x_bandToDeal (X := X) j3 ho i1 (fun b => by have := le b; omega)
      have i4 := i2.tr (d2.mo fun a k q => (Or.inr q : pGa a k))
      have h4 : xHd 6 (dlt s.2.1 j) M4 := fun b hb => ((d2 _ _ (by omega)).1).trans (i1 b hb)
      have ed : dlt s.2.1 (j + 1) = dlU (dlt s.2.1 j) (pick (dlt s.2.1 j) s.2.1) := rfl
      cases hp : pick (dlt s.2.1 j) s.2.1 with
      | none =>
        rw [hp, oI] at d1
        rw [hp] at ed
        refine ⟨M4, ?_, by rw [ed]; exact h4, i4⟩
        rw [e27_10]
        simp only [e27_0, e27_1, e27_4, e27_5, e27_8, e27_9, e27_11, e27_12, e27_15, e27_16, e27_19, e27_21, e27_23, e27_24, e27_27, e27_28, e27_31, e27_33, e27_34, e27_35, e27_36, e27_37, e27_38, e27_41, e27_44, e27_45, e27_48, e27_49, e27_50, s1, s1_0, s1_1, s1_2, s1_3, s1_4, r1_0, r1_1, r1_2, r1_3, s2, s3, s4, s5, c1, d1, (eq_true rfl : ((-1 : Int32) = -1) = True), nI_1, am_bv_s, am_bw_s, eq_self, true_or, or_true, am_b0, am_b1, am_em, if_true, if_false, true_and, and_true, false_and, and_false, not_true_eq_false, not_false_eq_true, false_or, or_false, Bool.false_eq_true]
      | some q =>
        have ql := pick_lt hp
        rw [hp, oI] at d1
        rw [hp] at ed
        have n1 := nI_n1 (k := q) (by omega)
        have cq : (nI q).toNatClampNeg = q := nI_clamp (by omega)
        have hq := h4 q (by omega)
        refine ⟨am_setI M4 3 q (nI (dlt s.2.1 j q + 1)), ?_, fun b hb => ?_, i4.sI (Or.inl rfl)⟩
        · rw [e27_10]
          simp only [e27_0, e27_1, e27_4, e27_5, e27_8, e27_9, e27_11, e27_12, e27_15, e27_16, e27_19, e27_21, e27_23, e27_24, e27_27, e27_28, e27_31, e27_33, e27_34, e27_35, e27_36, e27_37, e27_38, e27_41, e27_44, e27_45, e27_48, e27_49, e27_50, s1, s1_0, s1_1, s1_2, s1_3, s1_4, r1_0, r1_1, r1_2, r1_3, s2, s3, s4, s5, c1, d1, n1, cq, hq, nI_1, a3 (show q < 6 by omega), am_bv_s, am_bw_s, eq_self, true_or, or_true, am_b0, am_b1, am_em, if_true, if_false, true_and, and_true, false_and, and_false, not_true_eq_false, not_false_eq_true, false_or, or_false, Bool.false_eq_true]
        · rw [gI, ed]
          show _ = nI (if b = q then dlt s.2.1 j q + 1 else dlt s.2.1 j b)
          by_cases e : b = q
          · rw [if_pos ⟨rfl, e⟩, if_pos e]
          · rw [if_neg (fun z => e z.2), if_neg e]; exact h4 b hb)
  refine ⟨M2, ?_, pj of2, of2⟩
  have cn : (nI n < nI n) = False := eq_false (nI_nlt (Nat.le_refl _) (by omega))
  have cb : (nI b).toNatClampNeg = b := nI_clamp (by omega)
  have fin : am_e X 27 10 [some (.ref (1 : Nat)), some (.int (nI b)), some (.int (nI n)), some (.int (nI n)), none] [] kS M2 = some (some (.int (nI (dlt s.2.1 n b))), kS, M2) := by
    rw [e27_10]
    simp only [e27_0, e27_1, e27_4, e27_5, e27_8, e27_9, e27_11, e27_12, e27_15, e27_16, e27_19, e27_21, e27_23, e27_24, e27_27, e27_28, e27_31, e27_33, e27_34, e27_35, e27_36, e27_37, e27_38, e27_41, e27_44, e27_45, e27_48, e27_49, e27_50, s1, s1_0, s1_1, s1_2, s1_3, s1_4, r1_0, r1_1, r1_2, r1_3, s2, s3, s4, s5, cn, cb, g2 b (by omega), a3 (show b < 6 by omega), am_bv_s, am_bw_s, eq_self, true_or, or_true, am_b0, am_b1, am_em, if_true, if_false, true_and, and_true, false_and, and_false, not_true_eq_false, not_false_eq_true, false_or, or_false, Bool.false_eq_true]
  rw [fin, nI_0] at e2
  rw [← e2]
  simp only [e27_0, e27_1, e27_4, e27_5, e27_8, e27_9, e27_11, e27_12, e27_15, e27_16, e27_19, e27_21, e27_23, e27_24, e27_27, e27_28, e27_31, e27_33, e27_34, e27_35, e27_36, e27_37, e27_38, e27_41, e27_44, e27_45, e27_48, e27_49, e27_50, s1, s1_0, s1_1, s1_2, s1_3, s1_4, r1_0, r1_1, r1_2, r1_3, s2, s3, s4, s5, hfill, am_bv_s, am_bw_s, eq_self, true_or, or_true, am_b0, am_b1, am_em, if_true, if_false, true_and, and_true, false_and, and_false, not_true_eq_false, not_false_eq_true, false_or, or_false, Bool.false_eq_true]
theorem x_deal (hx : JX s M) (ho : okm s) (n b : Int32) : ∃ M', am_e X 109 0 [some (.ref (0 : Nat)), some (.int n), some (.int b)] [] kS M = some (some (.int (sp_deal s n b)), kS, M') ∧ JX s M' ∧ am_of pX M M' := by
  have i1 := q_isIn (X := X) (S := kS) (M := M) n 0 99
  have i2 := x_isBand (X := X) (M := M) hx.1.2.1 b
  have d6 := ho.2.1.1
  unfold sp_deal
  by_cases h1 : 0 ≤ n ∧ n ≤ 99
  · rw [am_bt h1] at i1
    by_cases h2 : 0 ≤ b ∧ b ≤ nI s.2.1.1 - 1
    · rw [am_bt h2] at i2
      rw [if_pos ⟨h1, h2⟩]
      obtain ⟨nn, hnn, rfl⟩ := in_n (n := 99) h1 (by decide)
      obtain ⟨bn, hbn, rfl⟩ := (pred_le (by omega)).mp h2
      rw [nI_clamp (n := nn) (by omega), nI_clamp (n := bn) (by omega)]
      obtain ⟨M', r1, r2, r3⟩ := x_dealtTo (X := X) hx ho hnn hbn
      refine ⟨M', ?_, r2, r3.mo fun a k q => by unfold pGa at q; unfold pX; omega⟩
      simp only [e109_0, e109_1, e109_2, e109_4, e109_7, e109_10, e109_11, e109_12, e109_15, e109_18, e109_20, e109_21, e109_22, e109_25, e109_26, e109_27, e109_30, s0, s0_0, s0_1, s0_2, s0_3, s0_4, s0_5, s0_6, s0_7, r0_0, r0_1, r0_2, r0_3, r0_4, r0_5, r0_6, r0_7, s1, s1_0, s1_1, s1_2, s1_3, s1_4, r1_0, r1_1, r1_2, r1_3, s2, s3, s4, s5, i1, i2, z10, z01, z1m, zm1, z0m, zm0, r1, am_bv_s, am_bw_s, eq_self, true_or, or_true, am_b0, am_b1, am_em, if_true, if_false, true_and, and_true, false_and, and_false, not_true_eq_false, not_false_eq_true, false_or, or_false, Bool.false_eq_true]
    · rw [am_bf h2] at i2
      rw [if_neg (fun q => h2 q.2)]
      refine ⟨M, ?_, hx, am_of.rf⟩
      simp only [e109_0, e109_1, e109_2, e109_4, e109_7, e109_10, e109_11, e109_12, e109_15, e109_18, e109_20, e109_21, e109_22, e109_25, e109_26, e109_27, e109_30, s0, s0_0, s0_1, s0_2, s0_3, s0_4, s0_5, s0_6, s0_7, r0_0, r0_1, r0_2, r0_3, r0_4, r0_5, r0_6, r0_7, i1, i2, z10, z01, z1m, zm1, z0m, zm0, am_bv_s, am_bw_s, eq_self, true_or, or_true, am_b0, am_b1, am_em, if_true, if_false, true_and, and_true, false_and, and_false, not_true_eq_false, not_false_eq_true, false_or, or_false, Bool.false_eq_true]
  · rw [am_bf h1] at i1
    rw [if_neg (fun q => h1 q.1)]
    refine ⟨M, ?_, hx, am_of.rf⟩
    simp only [e109_0, e109_1, e109_2, e109_4, e109_7, e109_10, e109_11, e109_12, e109_15, e109_18, e109_20, e109_21, e109_22, e109_25, e109_26, e109_27, e109_30, s0, s0_0, s0_1, s0_2, s0_3, s0_4, s0_5, s0_6, s0_7, r0_0, r0_1, r0_2, r0_3, r0_4, r0_5, r0_6, r0_7, i1, z10, z01, z1m, zm1, z0m, zm0, am_bv_s, am_bw_s, eq_self, true_or, or_true, am_b0, am_b1, am_em, if_true, if_false, true_and, and_true, false_and, and_false, not_true_eq_false, not_false_eq_true, false_or, or_false, Bool.false_eq_true]
end
