/-! the class: easiest, ladder -/
def sp_easiest (s : sgm) (t : Int32) : Int32 := if 0 ≤ t ∧ t ≤ 3 then oI (bst s t.toNatClampNeg nLr nLr 0 s.2.2.1.1) else -2
def sp_ladder (s : sgm) (t p m i : Int32) : Int32 := if (0 ≤ t ∧ t ≤ 3) ∧ (0 ≤ p ∧ p ≤ 100) ∧ (1 ≤ m ∧ m ≤ 9) ∧ ¬ i < -1 then (if gD s.2.1.1 s.2.2.2.1 s.2.2.2.2 t.toNatClampNeg = 0 then -3 else if i = -1 then nI (clm s t.toNatClampNeg p.toNatClampNeg m.toNatClampNeg s.2.2.1.1).1 else if i < nI (clm s t.toNatClampNeg p.toNatClampNeg m.toNatClampNeg s.2.2.1.1).1 then nI ((clm s t.toNatClampNeg p.toNatClampNeg m.toNatClampNeg s.2.2.1.1).2.1 i.toNatClampNeg) else -1) else -2
/-- a number that is not below -1, nor -1, is not negative -/
theorem ge0 {i : Int32} (h1 : ¬ i < -1) (h2 : ¬ i = -1) : ∃ k : Nat, k < 2 ^ 31 ∧ i = nI k := by
  have q1 : -1 ≤ i.toInt := by
    have := Int32.not_lt.mp h1
    rw [Int32.le_iff_toInt_le, show (-1 : Int32).toInt = -1 from by decide] at this
    exact this
  have q2 : i.toInt ≠ -1 := fun e => h2 (Int32.toInt_inj.mp (by rw [e]; decide))
  have q3 := i.toInt_lt
  refine ⟨i.toInt.toNat, by omega, Int32.toInt_inj.mp ?_⟩
  rw [nI_toInt (by omega)]
  omega
section
variable {X : am_X} {S : am_Sh} {M M' : am_Me} {P : Nat → Nat → Prop} {s : sgm}
theorem x_easiest (hx : JX s M) (ho : okm s) (t : Int32) : ∃ M', am_e X 106 0 [some (.ref (0 : Nat)), some (.int t)] [] kS M = some (some (.int (sp_easiest s t)), kS, M') ∧ JX s M' ∧ am_of pX M M' := by
  have i1 := q_isTaker (X := X) (S := kS) (M := M) t
  unfold sp_easiest
  by_cases h1 : 0 ≤ t ∧ t ≤ 3
  · rw [am_bt h1] at i1
    rw [if_pos h1]
    obtain ⟨tn, htn, rfl⟩ := in_n (n := 3) h1 (by decide)
    rw [nI_clamp (n := tn) (by omega)]
    obtain ⟨M1, r1, l1, rb1, _, of1⟩ := x_startAnew (X := X) (M := M)
    have j1 := hx.of of1 (fun a k q => by unfold pS; omega)
    obtain ⟨M2, r2, of2⟩ := x_bestUnread (X := X) (p := 0) (t := tn) j1 ho l1 rb1 (by omega) (by decide)
    refine ⟨M2, ?_, j1.of of2 (fun a k q => by unfold pS; omega), (of1.mo fun a k q => by unfold pX; omega).tr (of2.mo fun a k q => by unfold pX; omega)⟩
    rw [nI_0] at r2
    simp only [e106_0, e106_1, e106_4, e106_7, e106_9, e106_10, e106_11, e106_14, e106_15, e106_18, e106_19, e106_22, e58_0, e58_1, e58_4, e58_5, e58_6, e58_7, e58_8, e58_11, s0, s0_0, s0_1, s0_2, s0_3, s0_4, s0_5, s0_6, s0_7, r0_0, r0_1, r0_2, r0_3, r0_4, r0_5, r0_6, r0_7, s6, s6_0, s6_1, s6_2, s6_3, s6_4, s6_5, s6_6, s6_7, s6_8, r6_0, r6_1, r6_2, r6_3, r6_4, r6_5, r6_6, r6_7, s7, s8, s9, s10, s11, s12, s13, s14, s15, s16, s17, s18, s18_0, s18_1, s19, s19_0, s19_1, s20, s20_0, s20_1, s36, s36_0, s36_1, s36_2, r36_0, r36_1, r36_2, s37, s38, s39, s40, s41, s42, s43, s44, s45, s46, s47, s47_0, s47_1, i1, z10, z01, z1m, zm1, z0m, zm0, r1, r2, am_bv_s, am_bw_s, eq_self, true_or, or_true, am_b0, am_b1, am_em, if_true, if_false, true_and, and_true, false_and, and_false, not_true_eq_false, not_false_eq_true, false_or, or_false, Bool.false_eq_true]
  · rw [am_bf h1] at i1
    rw [if_neg h1]
    refine ⟨M, ?_, hx, am_of.rf⟩
    simp only [e106_0, e106_1, e106_4, e106_7, e106_9, e106_10, e106_11, e106_14, e106_15, e106_18, e106_19, e106_22, i1, am_bv_s, am_bw_s, eq_self, true_or, or_true, am_b0, am_b1, am_em, if_true, if_false, true_and, and_true, false_and, and_false, not_true_eq_false, not_false_eq_true, false_or, or_false, Bool.false_eq_true]
/-- cells of the ladder -/
def pLd (a _ : Nat) : Prop := 14 ≤ a ∧ a ≤ 20
theorem x_climb {t p m : Nat} (hx : JX s M) (ho : okm s) (ht : t < 4) (hp : p ≤ 100) (hm1 : 1 ≤ m) (hm9 : m ≤ 9) : ∃ M', am_e X 59 0 [some (.ref (6 : Nat)), some (.ref (36 : Nat)), some (.int (nI t)), some (.ref (1 : Nat)), some (.int (nI p)), some (.int (nI m)), none, none, none] [] kS M = some (some (.int (nI (clm s t p m s.2.2.1.1).1)), kS, M') ∧ (∀ i, i < (clm s t p m s.2.2.1.1).1 → M'.1 17 i = nI ((clm s t p m s.2.2.1.1).2.1 i)) ∧ JX s M' ∧ am_of pLd M M' := by
  have b6 := ho.2.2.1.1
  obtain ⟨M1, r1, l1, rb1, me1, of1⟩ := x_startAnew (X := X) (M := M)
  have of1' : am_of pLd M M1 := of1.mo fun a k q => by unfold pLd; omega
  have jx : ∀ {M' : am_Me}, am_of pLd M M' → JX s M' := fun h => hx.of h (fun a k q => by unfold pLd at q; unfold pS; omega)
  have lp : ∀ (k i : Nat), i + k = s.2.2.1.1 → ∀ M2, xLr (lrn s m (clm s t p m i).2.2.2) M2 → xRb (clm s t p m i).2.2.1 M2 → xMe s.2.1.1 (clm s t p m i).2.2.2 M2 → (∀ j, j < (clm s t p m i).1 → M2.1 17 j = nI ((clm s t p m i).2.1 j)) → am_of pLd M M2 → ∃ M', am_e X 59 10 [some (.ref (6 : Nat)), some (.ref (36 : Nat)), some (.int (nI t)), some (.ref (1 : Nat)), some (.int (nI p)), some (.int (nI m)), some (.int (nI (clm s t p m i).1)), some (.int (nI i)), none] [] kS M2 = some (some (.int (nI (clm s t p m s.2.2.1.1).1)), kS, M') ∧ (∀ i, i < (clm s t p m s.2.2.1.1).1 → M'.1 17 i = nI ((clm s t p m s.2.2.1.1).2.1 i)) ∧ JX s M' ∧ am_of pLd M M' := by
    intro k
    induction k with
    | zero =>
      intro i hi M2 y1 y2 y3 y4 y5
      obtain rfl : i = s.2.2.1.1 := by omega
      have bk := (jx y5).1.2.2.1.1
      have cn : (nI s.2.2.1.1 < nI s.2.2.1.1) = False := eq_false (nI_nlt (Nat.le_refl _) (by omega))
      refine ⟨M2, ?_, y4, jx y5, y5⟩
      rw [e59_10]
      simp only [e59_0, e59_1, e59_4, e59_5, e59_7, e59_8, e59_12, e59_13, e59_16, e59_19, e59_20, e59_21, e59_22, e59_24, e59_27, e59_29, e59_31, e59_32, e59_35, e59_38, e59_39, e59_42, e59_44, e59_46, e59_47, e59_50, e59_51, e59_53, e59_54, e59_56, e59_59, e59_62, e59_65, e59_67, s6, s6_0, s6_1, s6_2, s6_3, s6_4, s6_5, s6_6, s6_7, s6_8, r6_0, r6_1, r6_2, r6_3, r6_4, r6_5, r6_6, r6_7, s7, s8, s9, s10, s11, s12, s13, s14, s15, s16, s17, s18, s18_0, s18_1, s19, s19_0, s19_1, s20, s20_0, s20_1, bk, cn, am_bv_s, am_bw_s, eq_self, true_or, or_true, am_b0, am_b1, am_em, if_true, if_false, true_and, and_true, false_and, and_false, not_true_eq_false, not_false_eq_true, false_or, or_false, Bool.false_eq_true]
    | succ k ih =>
      intro i hi M2 y1 y2 y3 y4 y5
      have j2 := jx y5
      have bk := j2.1.2.2.1.1
      have c1 : (nI i < nI s.2.2.1.1) = True := eq_true (nI_lt (by omega) (by omega))
      obtain ⟨M3, d1, d2⟩ := x_bestUnread (X := X) (p := p) (t := t) j2 ho y1 y2 ht hp
      have d2' : am_of pLd M2 M3 := d2.mo fun a k q => by unfold pLd; omega
      have j3 := jx (y5.tr d2')
      have nn := clm_n (s := s) (t := t) (p := p) (m := m) i
      cases hb : bst s t (lrn s m (clm s t p m i).2.2.2) (clm s t p m i).2.2.1 p s.2.2.1.1 with
      | none =>
        have e : clm s t p m s.2.2.1.1 = clm s t p m i := by
          have := clm_st (n := i) hb (s.2.2.1.1 - i)
          rw [show i + (s.2.2.1.1 - i) = s.2.2.1.1 by omega] at this
          exact this
        rw [hb, oI] at d1
        refine ⟨M3, ?_, ?_, j3, y5.tr d2'⟩
        · rw [e, e59_10]
          simp only [e59_0, e59_1, e59_4, e59_5, e59_7, e59_8, e59_12, e59_13, e59_16, e59_19, e59_20, e59_21, e59_22, e59_24, e59_27, e59_29, e59_31, e59_32, e59_35, e59_38, e59_39, e59_42, e59_44, e59_46, e59_47, e59_50, e59_51, e59_53, e59_54, e59_56, e59_59, e59_62, e59_65, e59_67, s1, s1_0, s1_1, s1_2, s1_3, s1_4, r1_0, r1_1, r1_2, r1_3, s2, s3, s4, s5, s6, s6_0, s6_1, s6_2, s6_3, s6_4, s6_5, s6_6, s6_7, s6_8, r6_0, r6_1, r6_2, r6_3, r6_4, r6_5, r6_6, r6_7, s7, s8, s9, s10, s11, s12, s13, s14, s15, s16, s17, s18, s18_0, s18_1, s19, s19_0, s19_1, s20, s20_0, s20_1, s36, s36_0, s36_1, s36_2, r36_0, r36_1, r36_2, s37, s38, s39, s40, s41, s42, s43, s44, s45, s46, s47, s47_0, s47_1, bk, c1, d1, (eq_true rfl : ((-1 : Int32) = -1) = True), am_bv_s, am_bw_s, eq_self, true_or, or_true, am_b0, am_b1, am_em, if_true, if_false, true_and, and_true, false_and, and_false, not_true_eq_false, not_false_eq_true, false_or, or_false, Bool.false_eq_true]
        · rw [e]
          intro j hj
          rw [(d2 _ _ (by omega)).1]
          exact y4 j hj
      | some q =>
        obtain ⟨q1, q2, _⟩ := bst_ok _ hb
        rw [hb, oI] at d1
        have e : clm s t p m (i + 1) = clU s (clm s t p m i) (some q) := by
          rw [clm]
          unfold clB
          rw [hb]
        have n1 := nI_n1 (k := q) (by omega)
        have cc : (nI (clm s t p m i).1).toNatClampNeg = (clm s t p m i).1 := nI_clamp (by omega)
        generalize hM4 : am_setI M3 17 (clm s t p m i).1 (nI q) = M4
        have of4 : am_of (fun a _ => a = 17) M3 M4 := by rw [← hM4]; exact am_of.rf.sI rfl
        have of4' : am_of pLd M3 M4 := of4.mo fun a k q => by unfold pLd; omega
        have j4 := jx ((y5.tr d2').tr of4')
        have d4 : am_of (fun a _ => a = 17 ∨ a = 18 ∨ a = 19 ∨ a = 20) M2 M4 := (d2.mo fun a k q => Or.inr q).tr (of4.mo fun a k q => Or.inl q)
        have z1 : xLr (lrn s m (clm s t p m i).2.2.2) M4 := y1.of d4 (fun a k q => by omega)
        have z2 : xRb (clm s t p m i).2.2.1 M4 := fun j hj => ((d4 _ _ (by omega)).1).trans (y2 j hj)
        have z3 : xMe s.2.1.1 (clm s t p m i).2.2.2 M4 := fun b hb => ((d4 _ _ (by omega)).1).trans (y3 b hb)
        obtain ⟨M5, f1, f2, f3, f4, f5⟩ := x_meetWords (X := X) (k := q) j4 ho z1 z2 z3 (by omega) hm9 (fun b hb => by have := clm_me (t := t) (p := p) (m := m) ho i b hb; omega)
        have f5' : am_of pLd M4 M5 := f5.mo fun a k q => by unfold pLd; omega
        have h4 : ∀ j, j < (clm s t p m (i + 1)).1 → M5.1 17 j = nI ((clm s t p m (i + 1)).2.1 j) := by
          rw [e, clU]
          intro j hj
          rw [(f5 _ _ (by omega)).1, ← hM4, gI]
          dsimp only
          by_cases ej : j = (clm s t p m i).1
          · rw [if_pos ⟨rfl, ej⟩, if_pos ej]
          · rw [if_neg (fun q => ej q.2), if_neg ej, (d2 _ _ (by omega)).1]
            exact y4 j (by dsimp only at hj; omega)
        obtain ⟨M6, g1, g2, g3, g4⟩ := ih (i + 1) (by omega) M5 (by rw [e]; exact f2) (by rw [e]; exact f3) (by rw [e]; exact f4) h4 (((y5.tr d2').tr of4').tr f5')
        refine ⟨M6, ?_, g2, g3, g4⟩
        have ec : nI (clm s t p m i).1 + 1 = nI (clm s t p m (i + 1)).1 := by rw [e, clU]; exact nI_1 _
        rw [← g1, e59_10]
        simp only [e59_0, e59_1, e59_4, e59_5, e59_7, e59_8, e59_12, e59_13, e59_16, e59_19, e59_20, e59_21, e59_22, e59_24, e59_27, e59_29, e59_31, e59_32, e59_35, e59_38, e59_39, e59_42, e59_44, e59_46, e59_47, e59_50, e59_51, e59_53, e59_54, e59_56, e59_59, e59_62, e59_65, e59_67, s1, s1_0, s1_1, s1_2, s1_3, s1_4, r1_0, r1_1, r1_2, r1_3, s2, s3, s4, s5, s6, s6_0, s6_1, s6_2, s6_3, s6_4, s6_5, s6_6, s6_7, s6_8, r6_0, r6_1, r6_2, r6_3, r6_4, r6_5, r6_6, r6_7, s7, s8, s9, s10, s11, s12, s13, s14, s15, s16, s17, s18, s18_0, s18_1, s19, s19_0, s19_1, s20, s20_0, s20_1, s36, s36_0, s36_1, s36_2, r36_0, r36_1, r36_2, s37, s38, s39, s40, s41, s42, s43, s44, s45, s46, s47, s47_0, s47_1, bk, c1, d1, n1, cc, hM4, f1, ec, nI_1, a17 (show (clm s t p m i).1 < 6 by omega), am_bv_s, am_bw_s, eq_self, true_or, or_true, am_b0, am_b1, am_em, if_true, if_false, true_and, and_true, false_and, and_false, not_true_eq_false, not_false_eq_true, false_or, or_false, Bool.false_eq_true]
  obtain ⟨M2, g1, g2, g3, g4⟩ := lp s.2.2.1.1 0 (by omega) M1 (by
    show xLr (lrn s m nMe) M1
    rw [lrn_0 ho hm1]; exact l1) rb1 (fun b hb => me1 b (by have := ho.2.1.1; omega)) (fun j hj => absurd hj (Nat.not_lt_zero _)) of1'
  refine ⟨M2, ?_, g2, g3, g4⟩
  have e0 : nI (clm s t p m 0).1 = 0 := rfl
  rw [e0, nI_0] at g1
  simp only [e59_0, e59_1, e59_4, e59_5, e59_7, e59_8, e59_12, e59_13, e59_16, e59_19, e59_20, e59_21, e59_22, e59_24, e59_27, e59_29, e59_31, e59_32, e59_35, e59_38, e59_39, e59_42, e59_44, e59_46, e59_47, e59_50, e59_51, e59_53, e59_54, e59_56, e59_59, e59_62, e59_65, e59_67, s6, s6_0, s6_1, s6_2, s6_3, s6_4, s6_5, s6_6, s6_7, s6_8, r6_0, r6_1, r6_2, r6_3, r6_4, r6_5, r6_6, r6_7, s7, s8, s9, s10, s11, s12, s13, s14, s15, s16, s17, s18, s18_0, s18_1, s19, s19_0, s19_1, s20, s20_0, s20_1, r1, g1, am_bv_s, am_bw_s, eq_self, true_or, or_true, am_b0, am_b1, am_em, if_true, if_false, true_and, and_true, false_and, and_false, not_true_eq_false, not_false_eq_true, false_or, or_false, Bool.false_eq_true]
theorem x_ladder (hx : JX s M) (ho : okm s) (t p m i : Int32) : ∃ M', am_e X 107 0 [some (.ref (0 : Nat)), some (.int t), some (.int p), some (.int m), some (.int i), none] [] kS M = some (some (.int (sp_ladder s t p m i)), kS, M') ∧ JX s M' ∧ am_of pX M M' := by
  have i1 := q_isTaker (X := X) (S := kS) (M := M) t
  have i2 := q_isIn (X := X) (S := kS) (M := M) p 0 100
  have i3 := q_isIn (X := X) (S := kS) (M := M) m 1 9
  have b6 := ho.2.2.1.1
  have d6 := ho.2.1.1
  unfold sp_ladder
  by_cases h1 : 0 ≤ t ∧ t ≤ 3
  · rw [am_bt h1] at i1
    by_cases h2 : 0 ≤ p ∧ p ≤ 100
    · rw [am_bt h2] at i2
      by_cases h3 : 1 ≤ m ∧ m ≤ 9
      · rw [am_bt h3] at i3
        by_cases h4 : i < -1
        · rw [if_neg (fun q => q.2.2.2 h4)]
          refine ⟨M, ?_, hx, am_of.rf⟩
          simp only [e107_0, e107_1, e107_4, e107_7, e107_8, e107_9, e107_11, e107_14, e107_17, e107_18, e107_19, e107_21, e107_24, e107_27, e107_29, e107_30, e107_33, e107_35, e107_36, e107_37, e107_40, e107_41, e107_44, e107_47, e107_49, e107_50, e107_51, e107_54, e107_55, e107_58, e107_59, e107_60, e107_63, e107_64, e107_65, e107_68, e107_70, e107_72, e107_73, e107_76, e107_78, e107_79, e107_81, e107_83, e107_86, e107_87, e107_90, e107_92, e107_95, e107_98, e107_99, s0, s0_0, s0_1, s0_2, s0_3, s0_4, s0_5, s0_6, s0_7, r0_0, r0_1, r0_2, r0_3, r0_4, r0_5, r0_6, r0_7, i1, i2, i3, z10, z01, z1m, zm1, z0m, zm0, h4, am_bv_s, am_bw_s, eq_self, true_or, or_true, am_b0, am_b1, am_em, if_true, if_false, true_and, and_true, false_and, and_false, not_true_eq_false, not_false_eq_true, false_or, or_false, Bool.false_eq_true]
        · rw [if_pos ⟨h1, h2, h3, h4⟩]
          obtain ⟨tn, htn, rfl⟩ := in_n (n := 3) h1 (by decide)
          obtain ⟨pn, hpn, rfl⟩ := in_n (n := 100) h2 (by decide)
          obtain ⟨mn, hmn, rfl⟩ := in_n (n := 9) ⟨Int32.le_trans (by decide) h3.1, h3.2⟩ (by decide)
          have hm1 : 1 ≤ mn := by
            have q := h3.1
            rw [Int32.le_iff_toInt_le, nI_toInt (by omega), show (1 : Int32).toInt = 1 from by decide] at q
            omega
          rw [nI_clamp (n := tn) (by omega), nI_clamp (n := pn) (by omega), nI_clamp (n := mn) (by omega)]
          have ga := q_guessesAll (X := X) d6 hx.2.2 (show tn < 4 by omega)
          by_cases h5 : gD s.2.1.1 s.2.2.2.1 s.2.2.2.2 tn = 0
          · rw [am_bt h5] at ga
            rw [if_pos h5]
            refine ⟨M, ?_, hx, am_of.rf⟩
            simp only [e107_0, e107_1, e107_4, e107_7, e107_8, e107_9, e107_11, e107_14, e107_17, e107_18, e107_19, e107_21, e107_24, e107_27, e107_29, e107_30, e107_33, e107_35, e107_36, e107_37, e107_40, e107_41, e107_44, e107_47, e107_49, e107_50, e107_51, e107_54, e107_55, e107_58, e107_59, e107_60, e107_63, e107_64, e107_65, e107_68, e107_70, e107_72, e107_73, e107_76, e107_78, e107_79, e107_81, e107_83, e107_86, e107_87, e107_90, e107_92, e107_95, e107_98, e107_99, s0, s0_0, s0_1, s0_2, s0_3, s0_4, s0_5, s0_6, s0_7, r0_0, r0_1, r0_2, r0_3, r0_4, r0_5, r0_6, r0_7, s36, s36_0, s36_1, s36_2, r36_0, r36_1, r36_2, s37, s38, s39, s40, s41, s42, s43, s44, s45, s46, s47, s47_0, s47_1, i1, i2, i3, z10, z01, z1m, zm1, z0m, zm0, h4, ga, am_bv_s, am_bw_s, eq_self, true_or, or_true, am_b0, am_b1, am_em, if_true, if_false, true_and, and_true, false_and, and_false, not_true_eq_false, not_false_eq_true, false_or, or_false, Bool.false_eq_true]
          · rw [am_bf h5] at ga
            rw [if_neg h5]
            obtain ⟨M2, r1, r2, r3, r4⟩ := x_climb (X := X) hx ho (show tn < 4 by omega) hpn hm1 hmn
            have cn := (clm_n (s := s) (t := tn) (p := pn) (m := mn) s.2.2.1.1).1
            refine ⟨M2, ?_, r3, r4.mo fun a k q => by unfold pLd at q; unfold pX; omega⟩
            by_cases h6 : i = -1
            · rw [if_pos h6]
              simp only [e107_0, e107_1, e107_4, e107_7, e107_8, e107_9, e107_11, e107_14, e107_17, e107_18, e107_19, e107_21, e107_24, e107_27, e107_29, e107_30, e107_33, e107_35, e107_36, e107_37, e107_40, e107_41, e107_44, e107_47, e107_49, e107_50, e107_51, e107_54, e107_55, e107_58, e107_59, e107_60, e107_63, e107_64, e107_65, e107_68, e107_70, e107_72, e107_73, e107_76, e107_78, e107_79, e107_81, e107_83, e107_86, e107_87, e107_90, e107_92, e107_95, e107_98, e107_99, s0, s0_0, s0_1, s0_2, s0_3, s0_4, s0_5, s0_6, s0_7, r0_0, r0_1, r0_2, r0_3, r0_4, r0_5, r0_6, r0_7, s1, s1_0, s1_1, s1_2, s1_3, s1_4, r1_0, r1_1, r1_2, r1_3, s2, s3, s4, s5, s6, s6_0, s6_1, s6_2, s6_3, s6_4, s6_5, s6_6, s6_7, s6_8, r6_0, r6_1, r6_2, r6_3, r6_4, r6_5, r6_6, r6_7, s7, s8, s9, s10, s11, s12, s13, s14, s15, s16, s17, s18, s18_0, s18_1, s19, s19_0, s19_1, s20, s20_0, s20_1, s36, s36_0, s36_1, s36_2, r36_0, r36_1, r36_2, s37, s38, s39, s40, s41, s42, s43, s44, s45, s46, s47, s47_0, s47_1, i1, i2, i3, z10, z01, z1m, zm1, z0m, zm0, h4, h6, ga, r1, (eq_false (by decide) : ((-1 : Int32) < -1) = False), am_bv_s, am_bw_s, eq_self, true_or, or_true, am_b0, am_b1, am_em, if_true, if_false, true_and, and_true, false_and, and_false, not_true_eq_false, not_false_eq_true, false_or, or_false, Bool.false_eq_true]
            · rw [if_neg h6]
              obtain ⟨k, hk, rfl⟩ := ge0 h4 h6
              have c1 : (nI k < nI (clm s tn pn mn s.2.2.1.1).1) = (k < (clm s tn pn mn s.2.2.1.1).1) := ok_lt hk (by omega)
              have cj : (nI k).toNatClampNeg = k := nI_clamp hk
              rw [cj]
              by_cases h7 : k < (clm s tn pn mn s.2.2.1.1).1
              · rw [if_pos (by rw [c1]; exact h7)]
                simp only [e107_0, e107_1, e107_4, e107_7, e107_8, e107_9, e107_11, e107_14, e107_17, e107_18, e107_19, e107_21, e107_24, e107_27, e107_29, e107_30, e107_33, e107_35, e107_36, e107_37, e107_40, e107_41, e107_44, e107_47, e107_49, e107_50, e107_51, e107_54, e107_55, e107_58, e107_59, e107_60, e107_63, e107_64, e107_65, e107_68, e107_70, e107_72, e107_73, e107_76, e107_78, e107_79, e107_81, e107_83, e107_86, e107_87, e107_90, e107_92, e107_95, e107_98, e107_99, e56_0, e56_1, e56_4, e56_5, e56_6, s0, s0_0, s0_1, s0_2, s0_3, s0_4, s0_5, s0_6, s0_7, r0_0, r0_1, r0_2, r0_3, r0_4, r0_5, r0_6, r0_7, s1, s1_0, s1_1, s1_2, s1_3, s1_4, r1_0, r1_1, r1_2, r1_3, s2, s3, s4, s5, s6, s6_0, s6_1, s6_2, s6_3, s6_4, s6_5, s6_6, s6_7, s6_8, r6_0, r6_1, r6_2, r6_3, r6_4, r6_5, r6_6, r6_7, s7, s8, s9, s10, s11, s12, s13, s14, s15, s16, s17, s18, s18_0, s18_1, s19, s19_0, s19_1, s20, s20_0, s20_1, s36, s36_0, s36_1, s36_2, r36_0, r36_1, r36_2, s37, s38, s39, s40, s41, s42, s43, s44, s45, s46, s47, s47_0, s47_1, i1, i2, i3, z10, z01, z1m, zm1, z0m, zm0, h4, h6, ga, r1, c1, cj, h7, r2 k h7, a17 (show k < 6 by omega), am_bv_s, am_bw_s, eq_self, true_or, or_true, am_b0, am_b1, am_em, if_true, if_false, true_and, and_true, false_and, and_false, not_true_eq_false, not_false_eq_true, false_or, or_false, Bool.false_eq_true]
              · rw [if_neg (by rw [c1]; exact h7)]
                simp only [e107_0, e107_1, e107_4, e107_7, e107_8, e107_9, e107_11, e107_14, e107_17, e107_18, e107_19, e107_21, e107_24, e107_27, e107_29, e107_30, e107_33, e107_35, e107_36, e107_37, e107_40, e107_41, e107_44, e107_47, e107_49, e107_50, e107_51, e107_54, e107_55, e107_58, e107_59, e107_60, e107_63, e107_64, e107_65, e107_68, e107_70, e107_72, e107_73, e107_76, e107_78, e107_79, e107_81, e107_83, e107_86, e107_87, e107_90, e107_92, e107_95, e107_98, e107_99, s0, s0_0, s0_1, s0_2, s0_3, s0_4, s0_5, s0_6, s0_7, r0_0, r0_1, r0_2, r0_3, r0_4, r0_5, r0_6, r0_7, s1, s1_0, s1_1, s1_2, s1_3, s1_4, r1_0, r1_1, r1_2, r1_3, s2, s3, s4, s5, s6, s6_0, s6_1, s6_2, s6_3, s6_4, s6_5, s6_6, s6_7, s6_8, r6_0, r6_1, r6_2, r6_3, r6_4, r6_5, r6_6, r6_7, s7, s8, s9, s10, s11, s12, s13, s14, s15, s16, s17, s18, s18_0, s18_1, s19, s19_0, s19_1, s20, s20_0, s20_1, s36, s36_0, s36_1, s36_2, r36_0, r36_1, r36_2, s37, s38, s39, s40, s41, s42, s43, s44, s45, s46, s47, s47_0, s47_1, i1, i2, i3, z10, z01, z1m, zm1, z0m, zm0, h4, h6, ga, r1, c1, h7, am_bv_s, am_bw_s, eq_self, true_or, or_true, am_b0, am_b1, am_em, if_true, if_false, true_and, and_true, false_and, and_false, not_true_eq_false, not_false_eq_true, false_or, or_false, Bool.false_eq_true]
      · rw [am_bf h3] at i3
        rw [if_neg (fun q => h3 q.2.2.1)]
        refine ⟨M, ?_, hx, am_of.rf⟩
        simp only [e107_0, e107_1, e107_4, e107_7, e107_8, e107_9, e107_11, e107_14, e107_17, e107_18, e107_19, e107_21, e107_24, e107_27, e107_29, e107_30, e107_33, e107_35, e107_36, e107_37, e107_40, e107_41, e107_44, e107_47, e107_49, e107_50, e107_51, e107_54, e107_55, e107_58, e107_59, e107_60, e107_63, e107_64, e107_65, e107_68, e107_70, e107_72, e107_73, e107_76, e107_78, e107_79, e107_81, e107_83, e107_86, e107_87, e107_90, e107_92, e107_95, e107_98, e107_99, s0, s0_0, s0_1, s0_2, s0_3, s0_4, s0_5, s0_6, s0_7, r0_0, r0_1, r0_2, r0_3, r0_4, r0_5, r0_6, r0_7, i1, i2, i3, z10, z01, z1m, zm1, z0m, zm0, am_bv_s, am_bw_s, eq_self, true_or, or_true, am_b0, am_b1, am_em, if_true, if_false, true_and, and_true, false_and, and_false, not_true_eq_false, not_false_eq_true, false_or, or_false, Bool.false_eq_true]
    · rw [am_bf h2] at i2
      rw [if_neg (fun q => h2 q.2.1)]
      refine ⟨M, ?_, hx, am_of.rf⟩
      simp only [e107_0, e107_1, e107_4, e107_7, e107_8, e107_9, e107_11, e107_14, e107_17, e107_18, e107_19, e107_21, e107_24, e107_27, e107_29, e107_30, e107_33, e107_35, e107_36, e107_37, e107_40, e107_41, e107_44, e107_47, e107_49, e107_50, e107_51, e107_54, e107_55, e107_58, e107_59, e107_60, e107_63, e107_64, e107_65, e107_68, e107_70, e107_72, e107_73, e107_76, e107_78, e107_79, e107_81, e107_83, e107_86, e107_87, e107_90, e107_92, e107_95, e107_98, e107_99, s0, s0_0, s0_1, s0_2, s0_3, s0_4, s0_5, s0_6, s0_7, r0_0, r0_1, r0_2, r0_3, r0_4, r0_5, r0_6, r0_7, i1, i2, z10, z01, z1m, zm1, z0m, zm0, am_bv_s, am_bw_s, eq_self, true_or, or_true, am_b0, am_b1, am_em, if_true, if_false, true_and, and_true, false_and, and_false, not_true_eq_false, not_false_eq_true, false_or, or_false, Bool.false_eq_true]
  · rw [am_bf h1] at i1
    rw [if_neg (fun q => h1 q.1)]
    refine ⟨M, ?_, hx, am_of.rf⟩
    simp only [e107_0, e107_1, e107_4, e107_7, e107_8, e107_9, e107_11, e107_14, e107_17, e107_18, e107_19, e107_21, e107_24, e107_27, e107_29, e107_30, e107_33, e107_35, e107_36, e107_37, e107_40, e107_41, e107_44, e107_47, e107_49, e107_50, e107_51, e107_54, e107_55, e107_58, e107_59, e107_60, e107_63, e107_64, e107_65, e107_68, e107_70, e107_72, e107_73, e107_76, e107_78, e107_79, e107_81, e107_83, e107_86, e107_87, e107_90, e107_92, e107_95, e107_98, e107_99, s0, s0_0, s0_1, s0_2, s0_3, s0_4, s0_5, s0_6, s0_7, r0_0, r0_1, r0_2, r0_3, r0_4, r0_5, r0_6, r0_7, i1, z10, z01, z1m, zm1, z0m, zm0, am_bv_s, am_bw_s, eq_self, true_or, or_true, am_b0, am_b1, am_em, if_true, if_false, true_and, and_true, false_and, and_false, not_true_eq_false, not_false_eq_true, false_or, or_false, Bool.false_eq_true]
end
