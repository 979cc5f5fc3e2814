/-! the class: pair, learnt, count -/
/-- of two, as the answers stand -/
def sPr (s : sgm) (a b c : Nat) : Nat := bth s.2.1.1 s.2.2.2.1 (sd s.2.2.2.2 s.2.2.2.2.2.2.2.2.2 a) (sd s.2.2.2.2 s.2.2.2.2.2.2.2.2.2 b) (c1of c) (c2of c)
abbrev two (a b : Int32) : Prop := (0 ≤ a ∧ a ≤ 3) ∧ (0 ≤ b ∧ b ≤ 3) ∧ a ≠ b
def sp_pair (s : sgm) (a b c : Int32) : Int32 := if two a b ∧ (0 ≤ c ∧ c ≤ 3) then nI (sPr s a.toNatClampNeg b.toNatClampNeg c.toNatClampNeg) else -2
/-- of one, from a time to another -/
def sLn (s : sgm) (t f g w : Nat) : Nat := bth s.2.1.1 s.2.2.2.1 (sd s.2.2.2.2 f t) (sd s.2.2.2.2 g t) (if w = 0 then 0 else 1) (if w = 1 then 0 else 1)
def sp_ln (s : sgm) (t f g w : Int32) : Int32 := if (0 ≤ t ∧ t ≤ 3) ∧ (0 ≤ f ∧ f ≤ 999) ∧ (0 ≤ g ∧ g ≤ 999) ∧ ¬ g < f ∧ (0 ≤ w ∧ w ≤ 2) then nI (sLn s t.toNatClampNeg f.toNatClampNeg g.toNatClampNeg w.toNatClampNeg) else -2
def sm (f : Nat → Nat) : Nat → Nat
  | 0 => 0
  | n + 1 => sm f n + f n
theorem sm_le {f : Nat → Nat} {b : Nat} : ∀ n, (∀ i, i < n → f i ≤ b) → sm f n ≤ n * b
  | 0, _ => Nat.zero_le _
  | n + 1, h => by
    have h1 := sm_le n (fun i hi => h i (by omega))
    have h2 := h n (by omega)
    rw [sm, Nat.succ_mul]
    omega
theorem sm_c {f g : Nat → Nat} : ∀ n, (∀ i, i < n → f i = g i) → sm f n = sm g n
  | 0, _ => rfl
  | n + 1, h => by rw [sm, sm, sm_c n (fun i hi => h i (by omega)), h n (by omega)]
/-- answered words of all -/
def sAll (nb : Nat) (l : sgL) (A : sgA) : Nat := sm (fun t => sm (fun k => sAs nb l A t k) 7) 4
def sp_count (s : sgm) (w : Int32) : Int32 := if w = 0 then nI s.2.1.1 else if w = 1 then nI s.2.2.1.1 else if w = 2 then nI s.2.2.2.1.1 else if w = 3 then nI (ps s.2.1.1 s.2.2.2.1).2.1 else if w = 4 then nI s.2.2.2.2.1 else if w = 5 then nI (sAll s.2.1.1 s.2.2.2.1 s.2.2.2.2) else if w = 6 then nI (sm s.2.1.2 s.2.1.1) else if w = 7 then nI s.2.2.2.2.2.2.2.2.2 else if w = 8 then nI s.1.2.2.2.2 else -2
section
variable {X : am_X} {S : am_Sh} {M M' : am_Me} {P : Nat → Nat → Prop} {s : sgm}
theorem q_areTwo2 {a b : Int32} : am_e X 125 0 [some (.int a), some (.int b)] [] S M = some (some (.int (am_b (two a b))), S, M) := q_areTwo a b
theorem x_pairCount (hx : JX s M) (ho : okm s) {a b c : Nat} (ha : a < 4) (hb : b < 4) (hc : c < 4) : am_e X 135 0 [some (.ref (0 : Nat)), some (.int (nI a)), some (.int (nI b)), some (.int (nI c))] [] kS M = some (some (.int (nI (sPr s a b c))), kS, M) := by
  have hn := hx.1.2.2.2.2.2.1
  have q := q_countCrossed (X := X) (ra := 30 + a) (rb := 30 + b) (c := c) ho.2.1.1 hx.2.1 (fun j hj => g29 ha hj) (fun j hj => g29 hb hj) (fun j hj => hn a ha j hj) (fun j hj => hn b hb j hj) (fun j => sd_ok ho.2.2.2.2) (fun j => sd_ok ho.2.2.2.2) hc
  simp only [e135_0, e135_1, e135_4, e135_5, e135_8, e135_9, e135_12, e135_13, e135_16, e135_17, e135_20, e135_21, e135_24, s0, s0_0, s0_1, s0_2, s0_3, s0_4, s0_5, s0_6, s0_7, r0_0, r0_1, r0_2, r0_3, r0_4, r0_5, r0_6, r0_7, s21, s21_0, s21_1, s21_2, s21_3, s21_4, r21_0, r21_1, s22, s23, s24, s24_0, s24_1, s24_2, s24_3, s24_4, s24_5, s24_6, s24_7, s24_8, r24_0, r24_1, r24_2, r24_3, r24_4, r24_5, r24_6, s25, s26, s27, s28, s29, s30, s31, s32, s33, s34, s35, q_rowNow ha, q_rowNow hb, q, sPr, am_bv_s, am_bw_s, eq_self, true_or, or_true, am_b0, am_b1, am_em, if_true, if_false, true_and, and_true, false_and, and_false, not_true_eq_false, not_false_eq_true, false_or, or_false, Bool.false_eq_true]
theorem x_pair (hx : JX s M) (ho : okm s) (a b c : Int32) : am_e X 110 0 [some (.ref (0 : Nat)), some (.int a), some (.int b), some (.int c)] [] kS M = some (some (.int (sp_pair s a b c)), kS, M) := by
  have i1 := q_areTwo2 (X := X) (S := kS) (M := M) (a := a) (b := b)
  have i2 := q_isIn (X := X) (S := kS) (M := M) c 0 3
  unfold sp_pair
  by_cases h1 : two a b
  · rw [am_bt h1] at i1
    by_cases h2 : 0 ≤ c ∧ c ≤ 3
    · rw [am_bt h2] at i2
      rw [if_pos ⟨h1, h2⟩]
      obtain ⟨x1, hx1, rfl⟩ := in_n (n := 3) h1.1 (by decide)
      obtain ⟨x2, hx2, rfl⟩ := in_n (n := 3) h1.2.1 (by decide)
      obtain ⟨x3, hx3, rfl⟩ := in_n (n := 3) h2 (by decide)
      rw [nI_clamp (n := x1) (by omega), nI_clamp (n := x2) (by omega), nI_clamp (n := x3) (by omega)]
      have q := x_pairCount (X := X) hx ho (show x1 < 4 by omega) (show x2 < 4 by omega) (show x3 < 4 by omega)
      simp only [e110_0, e110_1, e110_2, e110_5, e110_8, e110_9, e110_10, e110_11, e110_14, e110_17, e110_19, e110_20, e110_21, e110_22, e110_23, e110_24, e110_27, s0, s0_0, s0_1, s0_2, s0_3, s0_4, s0_5, s0_6, s0_7, r0_0, r0_1, r0_2, r0_3, r0_4, r0_5, r0_6, r0_7, i1, i2, z10, z01, z1m, zm1, z0m, zm0, q, am_bv_s, am_bw_s, eq_self, true_or, or_true, am_b0, am_b1, am_em, if_true, if_false, true_and, and_true, false_and, and_false, not_true_eq_false, not_false_eq_true, false_or, or_false, Bool.false_eq_true]
    · rw [am_bf h2] at i2
      rw [if_neg (fun q => h2 q.2)]
      simp only [e110_0, e110_1, e110_2, e110_5, e110_8, e110_9, e110_10, e110_11, e110_14, e110_17, e110_19, e110_20, e110_21, e110_22, e110_23, e110_24, e110_27, i1, i2, z10, z01, z1m, zm1, z0m, zm0, am_bv_s, am_bw_s, eq_self, true_or, or_true, am_b0, am_b1, am_em, if_true, if_false, true_and, and_true, false_and, and_false, not_true_eq_false, not_false_eq_true, false_or, or_false, Bool.false_eq_true]
  · rw [am_bf h1] at i1
    rw [if_neg (fun q => h1 q.1)]
    simp only [e110_0, e110_1, e110_2, e110_5, e110_8, e110_9, e110_10, e110_11, e110_14, e110_17, e110_19, e110_20, e110_21, e110_22, e110_23, e110_24, e110_27, i1, am_bv_s, am_bw_s, eq_self, true_or, or_true, am_b0, am_b1, am_em, if_true, if_false, true_and, and_true, false_and, and_false, not_true_eq_false, not_false_eq_true, false_or, or_false, Bool.false_eq_true]
theorem x_learnt (hx : JX s M) (ho : okm s) (t f g w : Int32) : ∃ M', am_e X 113 0 [some (.ref (0 : Nat)), some (.int t), some (.int f), some (.int g), some (.int w)] [] kS M = some (some (.int (sp_ln s t f g w)), kS, M') ∧ JX s M' ∧ am_of pX M M' := by
  have i1 := q_isTaker (X := X) (S := kS) (M := M) t
  have i2 := q_isTime (X := X) (S := kS) (M := M) f
  have i3 := q_isTime (X := X) (S := kS) (M := M) g
  have i4 := q_isIn (X := X) (S := kS) (M := M) w 0 2
  unfold sp_ln
  by_cases h1 : 0 ≤ t ∧ t ≤ 3
  · rw [am_bt h1] at i1
    by_cases h2 : 0 ≤ f ∧ f ≤ 999
    · rw [am_bt h2] at i2
      by_cases h3 : 0 ≤ g ∧ g ≤ 999
      · rw [am_bt h3] at i3
        by_cases h5 : g < f
        · rw [if_neg (fun q => q.2.2.2.1 h5)]
          refine ⟨M, ?_, hx, am_of.rf⟩
          simp only [e113_0, e113_1, e113_4, e113_7, e113_8, e113_11, e113_14, e113_15, e113_18, e113_21, e113_22, e113_23, e113_26, e113_28, e113_29, e113_30, e113_33, e113_36, e113_38, e113_39, e113_40, e113_43, e113_44, e113_47, e113_48, e113_49, e113_52, e113_53, e113_56, e113_57, e113_58, e113_61, e113_63, e113_66, e113_69, i1, i2, i3, z10, z01, z1m, zm1, z0m, zm0, h5, am_bv_s, am_bw_s, eq_self, true_or, or_true, am_b0, am_b1, am_em, if_true, if_false, true_and, and_true, false_and, and_false, not_true_eq_false, not_false_eq_true, false_or, or_false, Bool.false_eq_true]
        · by_cases h4 : 0 ≤ w ∧ w ≤ 2
          · rw [am_bt h4] at i4
            rw [if_pos ⟨h1, h2, h3, h5, h4⟩]
            obtain ⟨a, ha, rfl⟩ := in_n (n := 3) h1 (by decide)
            obtain ⟨b, hb, rfl⟩ := in_n (n := 999) h2 (by decide)
            obtain ⟨c, hc, rfl⟩ := in_n (n := 999) h3 (by decide)
            obtain ⟨d, hd, rfl⟩ := in_n (n := 2) h4 (by decide)
            rw [nI_clamp (n := a) (by omega), nI_clamp (n := b) (by omega), nI_clamp (n := c) (by omega), nI_clamp (n := d) (by omega)]
            obtain ⟨M1, r1, r2, r3⟩ := q_fillAsOf (X := X) (r := 34) (t := a) (tm := b) hx.1.2.2.2.2.1 ho.2.2.2.2 s34 rfl (by decide) (by omega) hb
            have j1 : JX s M1 := hx.of r3 (fun a k q => by unfold pS; omega)
            obtain ⟨M2, t1, t2, t3⟩ := q_fillAsOf (X := X) (r := 35) (t := a) (tm := c) j1.1.2.2.2.2.1 ho.2.2.2.2 s35 rfl (by decide) (by omega) hc
            have j2 : JX s M2 := j1.of t3 (fun a k q => by unfold pS; omega)
            refine ⟨M2, ?_, j2, (r3.mo fun a k q => by unfold pX; omega).tr (t3.mo fun a k q => by unfold pX; omega)⟩
            have q := fun c hc => q_countCrossed (X := X) (ra := 34) (rb := 35) (c := c) ho.2.1.1 j2.2.1 (fun j hj => a34 hj) (fun j hj => a35 hj) (fun j hj => ((t3 _ _ (by omega)).1).trans (r2 j hj)) (fun j hj => t2 j hj) (fun j => sd_ok ho.2.2.2.2) (fun j => sd_ok ho.2.2.2.2) hc
            have h5' : (nI c < nI b) = False := eq_false h5
            have d3 : d = 0 ∨ d = 1 ∨ d = 2 := by omega
            rcases d3 with rfl | rfl | rfl
            · have q2 : am_e X 87 0 [some (.ref (21 : Nat)), some (.ref (34 : Nat)), some (.ref (35 : Nat)), some (.int 2), none, none] [] kS M2 = _ := q 2 (by decide)
              have e0 : (nI 0 = 0) = True := eq_true rfl
              simp only [e113_0, e113_1, e113_4, e113_7, e113_8, e113_11, e113_14, e113_15, e113_18, e113_21, e113_22, e113_23, e113_26, e113_28, e113_29, e113_30, e113_33, e113_36, e113_38, e113_39, e113_40, e113_43, e113_44, e113_47, e113_48, e113_49, e113_52, e113_53, e113_56, e113_57, e113_58, e113_61, e113_63, e113_66, e113_69, e6_0, e6_1, e6_2, e6_5, e6_6, e6_7, e6_10, e6_11, e6_14, e7_0, e7_1, e7_2, e7_5, e7_6, e7_7, e7_10, e7_11, e7_14, e134_0, e134_1, e134_4, e134_5, e134_6, e134_7, e134_8, e134_11, e134_12, e134_15, e134_16, s0, s0_0, s0_1, s0_2, s0_3, s0_4, s0_5, s0_6, s0_7, r0_0, r0_1, r0_2, r0_3, r0_4, r0_5, r0_6, r0_7, s21, s21_0, s21_1, s21_2, s21_3, s21_4, r21_0, r21_1, s22, s23, s24, s24_0, s24_1, s24_2, s24_3, s24_4, s24_5, s24_6, s24_7, s24_8, r24_0, r24_1, r24_2, r24_3, r24_4, r24_5, r24_6, s25, s26, s27, s28, s29, s30, s31, s32, s33, s34, s35, i1, i2, i3, i4, z10, z01, z1m, zm1, z0m, zm0, h5', r1, t1, e0, q2, am_bv_s, am_bw_s, eq_self, true_or, or_true, am_b0, am_b1, am_em, if_true, if_false, true_and, and_true, false_and, and_false, not_true_eq_false, not_false_eq_true, false_or, or_false, Bool.false_eq_true]
              rfl
            · have q2 : am_e X 87 0 [some (.ref (21 : Nat)), some (.ref (34 : Nat)), some (.ref (35 : Nat)), some (.int 1), none, none] [] kS M2 = _ := q 1 (by decide)
              have e0 : (nI 1 = 0) = False := eq_false (by decide)
              have e1 : (nI 1 = 1) = True := eq_true rfl
              simp only [e113_0, e113_1, e113_4, e113_7, e113_8, e113_11, e113_14, e113_15, e113_18, e113_21, e113_22, e113_23, e113_26, e113_28, e113_29, e113_30, e113_33, e113_36, e113_38, e113_39, e113_40, e113_43, e113_44, e113_47, e113_48, e113_49, e113_52, e113_53, e113_56, e113_57, e113_58, e113_61, e113_63, e113_66, e113_69, e6_0, e6_1, e6_2, e6_5, e6_6, e6_7, e6_10, e6_11, e6_14, e7_0, e7_1, e7_2, e7_5, e7_6, e7_7, e7_10, e7_11, e7_14, e134_0, e134_1, e134_4, e134_5, e134_6, e134_7, e134_8, e134_11, e134_12, e134_15, e134_16, s0, s0_0, s0_1, s0_2, s0_3, s0_4, s0_5, s0_6, s0_7, r0_0, r0_1, r0_2, r0_3, r0_4, r0_5, r0_6, r0_7, s21, s21_0, s21_1, s21_2, s21_3, s21_4, r21_0, r21_1, s22, s23, s24, s24_0, s24_1, s24_2, s24_3, s24_4, s24_5, s24_6, s24_7, s24_8, r24_0, r24_1, r24_2, r24_3, r24_4, r24_5, r24_6, s25, s26, s27, s28, s29, s30, s31, s32, s33, s34, s35, i1, i2, i3, i4, z10, z01, z1m, zm1, z0m, zm0, h5', r1, t1, e0, e1, q2, am_bv_s, am_bw_s, eq_self, true_or, or_true, am_b0, am_b1, am_em, if_true, if_false, true_and, and_true, false_and, and_false, not_true_eq_false, not_false_eq_true, false_or, or_false, Bool.false_eq_true]
              rfl
            · have q2 : am_e X 87 0 [some (.ref (21 : Nat)), some (.ref (34 : Nat)), some (.ref (35 : Nat)), some (.int 0), none, none] [] kS M2 = _ := q 0 (by decide)
              have e0 : (nI 2 = 0) = False := eq_false (by decide)
              have e1 : (nI 2 = 1) = False := eq_false (by decide)
              simp only [e113_0, e113_1, e113_4, e113_7, e113_8, e113_11, e113_14, e113_15, e113_18, e113_21, e113_22, e113_23, e113_26, e113_28, e113_29, e113_30, e113_33, e113_36, e113_38, e113_39, e113_40, e113_43, e113_44, e113_47, e113_48, e113_49, e113_52, e113_53, e113_56, e113_57, e113_58, e113_61, e113_63, e113_66, e113_69, e6_0, e6_1, e6_2, e6_5, e6_6, e6_7, e6_10, e6_11, e6_14, e7_0, e7_1, e7_2, e7_5, e7_6, e7_7, e7_10, e7_11, e7_14, e134_0, e134_1, e134_4, e134_5, e134_6, e134_7, e134_8, e134_11, e134_12, e134_15, e134_16, s0, s0_0, s0_1, s0_2, s0_3, s0_4, s0_5, s0_6, s0_7, r0_0, r0_1, r0_2, r0_3, r0_4, r0_5, r0_6, r0_7, s21, s21_0, s21_1, s21_2, s21_3, s21_4, r21_0, r21_1, s22, s23, s24, s24_0, s24_1, s24_2, s24_3, s24_4, s24_5, s24_6, s24_7, s24_8, r24_0, r24_1, r24_2, r24_3, r24_4, r24_5, r24_6, s25, s26, s27, s28, s29, s30, s31, s32, s33, s34, s35, i1, i2, i3, i4, z10, z01, z1m, zm1, z0m, zm0, h5', r1, t1, e0, e1, q2, am_bv_s, am_bw_s, eq_self, true_or, or_true, am_b0, am_b1, am_em, if_true, if_false, true_and, and_true, false_and, and_false, not_true_eq_false, not_false_eq_true, false_or, or_false, Bool.false_eq_true]
              rfl
          · rw [am_bf h4] at i4
            rw [if_neg (fun q => h4 q.2.2.2.2)]
            refine ⟨M, ?_, hx, am_of.rf⟩
            simp only [e113_0, e113_1, e113_4, e113_7, e113_8, e113_11, e113_14, e113_15, e113_18, e113_21, e113_22, e113_23, e113_26, e113_28, e113_29, e113_30, e113_33, e113_36, e113_38, e113_39, e113_40, e113_43, e113_44, e113_47, e113_48, e113_49, e113_52, e113_53, e113_56, e113_57, e113_58, e113_61, e113_63, e113_66, e113_69, i1, i2, i3, i4, z10, z01, z1m, zm1, z0m, zm0, h5, am_bv_s, am_bw_s, eq_self, true_or, or_true, am_b0, am_b1, am_em, if_true, if_false, true_and, and_true, false_and, and_false, not_true_eq_false, not_false_eq_true, false_or, or_false, Bool.false_eq_true]
      · rw [am_bf h3] at i3
        rw [if_neg (fun q => h3 q.2.2.1)]
        refine ⟨M, ?_, hx, am_of.rf⟩
        simp only [e113_0, e113_1, e113_4, e113_7, e113_8, e113_11, e113_14, e113_15, e113_18, e113_21, e113_22, e113_23, e113_26, e113_28, e113_29, e113_30, e113_33, e113_36, e113_38, e113_39, e113_40, e113_43, e113_44, e113_47, e113_48, e113_49, e113_52, e113_53, e113_56, e113_57, e113_58, e113_61, e113_63, e113_66, e113_69, i1, i2, i3, z10, z01, z1m, zm1, z0m, zm0, am_bv_s, am_bw_s, eq_self, true_or, or_true, am_b0, am_b1, am_em, if_true, if_false, true_and, and_true, false_and, and_false, not_true_eq_false, not_false_eq_true, false_or, or_false, Bool.false_eq_true]
    · rw [am_bf h2] at i2
      rw [if_neg (fun q => h2 q.2.1)]
      refine ⟨M, ?_, hx, am_of.rf⟩
      simp only [e113_0, e113_1, e113_4, e113_7, e113_8, e113_11, e113_14, e113_15, e113_18, e113_21, e113_22, e113_23, e113_26, e113_28, e113_29, e113_30, e113_33, e113_36, e113_38, e113_39, e113_40, e113_43, e113_44, e113_47, e113_48, e113_49, e113_52, e113_53, e113_56, e113_57, e113_58, e113_61, e113_63, e113_66, e113_69, i1, i2, z10, z01, z1m, zm1, z0m, zm0, am_bv_s, am_bw_s, eq_self, true_or, or_true, am_b0, am_b1, am_em, if_true, if_false, true_and, and_true, false_and, and_false, not_true_eq_false, not_false_eq_true, false_or, or_false, Bool.false_eq_true]
  · rw [am_bf h1] at i1
    rw [if_neg (fun q => h1 q.1)]
    refine ⟨M, ?_, hx, am_of.rf⟩
    simp only [e113_0, e113_1, e113_4, e113_7, e113_8, e113_11, e113_14, e113_15, e113_18, e113_21, e113_22, e113_23, e113_26, e113_28, e113_29, e113_30, e113_33, e113_36, e113_38, e113_39, e113_40, e113_43, e113_44, e113_47, e113_48, e113_49, e113_52, e113_53, e113_56, e113_57, e113_58, e113_61, e113_63, e113_66, e113_69, i1, am_bv_s, am_bw_s, eq_self, true_or, or_true, am_b0, am_b1, am_em, if_true, if_false, true_and, and_true, false_and, and_false, not_true_eq_false, not_false_eq_true, false_or, or_false, Bool.false_eq_true]
theorem q_allSizes {d : sgD} (hx : xD d M) (ho : okD d) : am_e X 24 0 [some (.ref (1 : Nat)), none, none] [] kS M = some (some (.int (nI (sm d.2 d.1))), kS, M) := by
  obtain ⟨d1, d2⟩ := hx
  have h6 := ho.1
  obtain ⟨M', e1, g1⟩ := am_lp (X := X) (S := kS) (mi := 24) (pc := 4) d.1 (fun i => [some (.ref (1 : Nat)), some (.int (nI (sm d.2 i))), some (.int (nI i))])
    (fun i M' => M' = M) (M := M) rfl (by
      intro j M2 hj hI
      subst hI
      refine ⟨M2, ?_, rfl⟩
      have c1 : (nI j < nI d.1) = True := eq_true (nI_lt hj (by omega))
      have cj : (nI j).toNatClampNeg = j := nI_clamp (by omega)
      rw [e24_4]
      simp only [e24_0, e24_1, e24_2, e24_3, e24_5, e24_6, e24_9, e24_12, e24_13, e24_14, e24_17, e24_18, e24_19, e24_20, e24_21, e24_24, e24_27, e24_28, s1, s1_0, s1_1, s1_2, s1_3, s1_4, r1_0, r1_1, r1_2, r1_3, s2, s3, s4, s5, d1, d2 j hj, c1, cj, sm, a2 (show j < 6 by omega), nI_1, nI_add, am_bv_s, am_bw_s, eq_self, true_or, or_true, am_b0, am_b1, am_em, if_true, if_false, true_and, and_true, false_and, and_false, not_true_eq_false, not_false_eq_true, false_or, or_false, Bool.false_eq_true])
  subst g1
  have c1 : (nI d.1 < nI d.1) = False := eq_false (nI_nlt (Nat.le_refl _) (by omega))
  have e2 : am_e X 24 4 [some (.ref (1 : Nat)), some (.int (nI (sm d.2 d.1))), some (.int (nI d.1))] [] kS M' = some (some (.int (nI (sm d.2 d.1))), kS, M') := by
    rw [e24_4]
    simp only [e24_0, e24_1, e24_2, e24_3, e24_5, e24_6, e24_9, e24_12, e24_13, e24_14, e24_17, e24_18, e24_19, e24_20, e24_21, e24_24, e24_27, e24_28, s1, s1_0, s1_1, s1_2, s1_3, s1_4, r1_0, r1_1, r1_2, r1_3, s2, s3, s4, s5, d1, c1, am_bv_s, am_bw_s, eq_self, true_or, or_true, am_b0, am_b1, am_em, if_true, if_false, true_and, and_true, false_and, and_false, not_true_eq_false, not_false_eq_true, false_or, or_false, Bool.false_eq_true]
  rw [e2] at e1
  rw [← e1]
  simp only [e24_0, e24_1, e24_2, e24_3, e24_5, e24_6, e24_9, e24_12, e24_13, e24_14, e24_17, e24_18, e24_19, e24_20, e24_21, e24_24, e24_27, e24_28, am_bv_s, am_bw_s, eq_self, true_or, or_true, am_b0, am_b1, am_em, if_true, if_false, true_and, and_true, false_and, and_false, not_true_eq_false, not_false_eq_true, false_or, or_false, Bool.false_eq_true]
  rfl
theorem q_askedOfAll {nb : Nat} {l : sgL} {A : sgA} (hx : xT nb l A M) : am_e X 69 0 [some (.ref (36 : Nat)), none, none, none] [] kS M = some (some (.int (nI (sAll nb l A))), kS, M) := by
  obtain ⟨M', e1, g1⟩ := am_lp (X := X) (S := kS) (mi := 69) (pc := 4) 4 (fun i => [some (.ref (36 : Nat)), some (.int (nI (sm (fun t => sm (fun k => sAs nb l A t k) 7) i))), some (.int (nI i)), none])
    (fun i M' => M' = M) (M := M) rfl (by
      intro j M2 hj hI
      subst hI
      refine ⟨M2, ?_, rfl⟩
      have c1 : (nI j < 4) = True := eq_true (nI_lt (b := 4) hj (by decide))
      have cj : (nI j).toNatClampNeg = j := nI_clamp (by omega)
      obtain ⟨M3, f1, g1⟩ := am_lp (X := X) (S := kS) (mi := 69) (pc := 11) 7 (fun i => [some (.ref (36 : Nat)), some (.int (nI (sm (fun t => sm (fun k => sAs nb l A t k) 7) j + sm (fun k => sAs nb l A j k) i))), some (.int (nI j)), some (.int (nI i))])
        (fun i M' => M' = M2) (M := M2) rfl (by
          intro i M4 hi hI
          subst hI
          refine ⟨M4, ?_, rfl⟩
          have c2 : (nI i < 7) = True := eq_true (nI_lt (b := 7) hi (by decide))
          have ci : (nI i).toNatClampNeg = i := nI_clamp (by omega)
          rw [e69_11]
          simp only [e69_0, e69_1, e69_2, e69_3, e69_5, e69_6, e69_9, e69_10, e69_12, e69_14, e69_17, e69_18, e69_19, e69_22, e69_23, e69_24, e69_25, e69_26, e69_27, e69_28, e69_31, e69_34, e69_37, e69_40, e69_41, s36, s36_0, s36_1, s36_2, r36_0, r36_1, r36_2, s37, s38, s39, s40, s41, s42, s43, s44, s45, s46, s47, s47_0, s47_1, c2, ci, cj, (hx j hj i hi).1, sm, a37 hj, r37 j hj, t37 j hj, g37 hj hi, nI_1, nI_add, Nat.add_assoc, am_bv_s, am_bw_s, eq_self, true_or, or_true, am_b0, am_b1, am_em, if_true, if_false, true_and, and_true, false_and, and_false, not_true_eq_false, not_false_eq_true, false_or, or_false, Bool.false_eq_true])
      subst g1
      have c3 : (nI 7 < 7) = False := eq_false (by decide)
      rw [e69_4]
      simp only [e69_0, e69_1, e69_2, e69_3, e69_5, e69_6, e69_9, e69_10, e69_12, e69_14, e69_17, e69_18, e69_19, e69_22, e69_23, e69_24, e69_25, e69_26, e69_27, e69_28, e69_31, e69_34, e69_37, e69_40, e69_41, c1, am_bv_s, am_bw_s, eq_self, true_or, or_true, am_b0, am_b1, am_em, if_true, if_false, true_and, and_true, false_and, and_false, not_true_eq_false, not_false_eq_true, false_or, or_false, Bool.false_eq_true]
      refine Eq.trans f1 ?_
      rw [e69_11]
      simp only [e69_0, e69_1, e69_2, e69_3, e69_5, e69_6, e69_9, e69_10, e69_12, e69_14, e69_17, e69_18, e69_19, e69_22, e69_23, e69_24, e69_25, e69_26, e69_27, e69_28, e69_31, e69_34, e69_37, e69_40, e69_41, c3, nI_1, am_bv_s, am_bw_s, eq_self, true_or, or_true, am_b0, am_b1, am_em, if_true, if_false, true_and, and_true, false_and, and_false, not_true_eq_false, not_false_eq_true, false_or, or_false, Bool.false_eq_true]
      rfl)
  subst g1
  have c1 : (nI 4 < 4) = False := eq_false (by decide)
  have e2 : am_e X 69 4 [some (.ref (36 : Nat)), some (.int (nI (sm (fun t => sm (fun k => sAs nb l A t k) 7) 4))), some (.int (nI 4)), none] [] kS M' = some (some (.int (nI (sAll nb l A))), kS, M') := by
    rw [e69_4]
    simp only [e69_0, e69_1, e69_2, e69_3, e69_5, e69_6, e69_9, e69_10, e69_12, e69_14, e69_17, e69_18, e69_19, e69_22, e69_23, e69_24, e69_25, e69_26, e69_27, e69_28, e69_31, e69_34, e69_37, e69_40, e69_41, c1, sAll, am_bv_s, am_bw_s, eq_self, true_or, or_true, am_b0, am_b1, am_em, if_true, if_false, true_and, and_true, false_and, and_false, not_true_eq_false, not_false_eq_true, false_or, or_false, Bool.false_eq_true]
  rw [e2] at e1
  rw [← e1]
  simp only [e69_0, e69_1, e69_2, e69_3, e69_5, e69_6, e69_9, e69_10, e69_12, e69_14, e69_17, e69_18, e69_19, e69_22, e69_23, e69_24, e69_25, e69_26, e69_27, e69_28, e69_31, e69_34, e69_37, e69_40, e69_41, am_bv_s, am_bw_s, eq_self, true_or, or_true, am_b0, am_b1, am_em, if_true, if_false, true_and, and_true, false_and, and_false, not_true_eq_false, not_false_eq_true, false_or, or_false, Bool.false_eq_true]
  rfl
end
