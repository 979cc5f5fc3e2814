/-! the reference: the book with the most cover -/
theorem bit_r : ∀ r, r < 64 → ∀ k, k < 6 → (nI r >>> (nI k &&& 31)) &&& 1 = if r.testBit k = true then 1 else 0 := by decide +kernel
theorem bit_w : ∀ r, r < 64 → ∀ k, k < 6 → nI r ||| (1 <<< (nI k &&& 31)) = nI (r ||| 1 <<< k) ∧ (r ||| 1 <<< k) < 64 ∧ ∀ j, j < 6 → (r ||| 1 <<< k).testBit j = if j = k then true else r.testBit j := by decide +kernel
def mRb (rb : Nat → Bool) (M : am_Me) : Prop := ∃ r, r < 64 ∧ M.1 59 29 = nI r ∧ ∀ k, k < 6 → r.testBit k = rb k
theorem fr_le2 {a b p : Nat} (hb : 0 < b) : p * (fr a b).2 ≤ 100 * (fr a b).1 ↔ p * b ≤ 100 * a := by
  have x := @fr_x a b
  have p0 := fr_pos (a := a) hb
  generalize fr a b = q at *
  constructor
  · intro h
    apply Nat.le_of_mul_le_mul_right _ p0
    calc p * b * q.2 = p * q.2 * b := by ac_rfl
      _ ≤ 100 * q.1 * b := Nat.mul_le_mul_right _ h
      _ = 100 * (q.1 * b) := by ac_rfl
      _ = 100 * a * q.2 := by rw [x]; ac_rfl
  · intro h
    apply Nat.le_of_mul_le_mul_right _ hb
    calc p * q.2 * b = p * b * q.2 := by ac_rfl
      _ ≤ 100 * a * q.2 := Nat.mul_le_mul_right _ h
      _ = 100 * (a * q.2) := by ac_rfl
      _ = 100 * q.1 * b := by rw [← x]; ac_rfl
theorem fr_lt2 {a b c d : Nat} (hb : 0 < b) (hd : 0 < d) : (fr c d).1 * (fr a b).2 < (fr a b).1 * (fr c d).2 ↔ c * b < a * d := by
  have x := @fr_x a b
  have y := @fr_x c d
  have p0 := fr_pos (a := a) hb
  have q0 := fr_pos (a := c) hd
  generalize fr a b = p at *
  generalize fr c d = q at *
  have e1 : q.1 * p.2 * (b * d) = c * b * (p.2 * q.2) := by
    calc q.1 * p.2 * (b * d) = (q.1 * d) * (p.2 * b) := by ac_rfl
      _ = c * b * (p.2 * q.2) := by rw [y]; ac_rfl
  have e2 : p.1 * q.2 * (b * d) = a * d * (p.2 * q.2) := by
    calc p.1 * q.2 * (b * d) = (p.1 * b) * (q.2 * d) := by ac_rfl
      _ = a * d * (p.2 * q.2) := by rw [x]; ac_rfl
  have m1 := Nat.mul_pos hb hd
  have m2 := Nat.mul_pos p0 q0
  constructor
  · intro h
    have := Nat.mul_lt_mul_of_pos_right h m1
    rw [e1, e2] at this
    exact Nat.lt_of_mul_lt_mul_right this
  · intro h
    have := Nat.mul_lt_mul_of_pos_right h m2
    rw [← e1, ← e2] at this
    exact Nat.lt_of_mul_lt_mul_right this
/-- what the reference keeps of the best -/
def bAB (s : sgm) (t : Nat) (lr : Nat → Bool) : Option Nat → Nat × Nat
  | none => (0, 1)
  | some j => ((cvF s t lr j).1, (cvF s t lr j).2 * rAll s j)
section
variable {X : am_X} {S : am_Sh} {M M' : am_Me} {P : Nat → Nat → Prop} {s : sgm}
theorem m_isMore {a b c d : Nat} (h1 : a * d < 2 ^ 63) (h2 : c * b < 2 ^ 63) : am_e X 194 0 [some (.long (lI a)), none, some (.long (lI b)), none, some (.long (lI c)), none, some (.long (lI d)), none] [] S M = some (some (.int (am_b (c * b < a * d))), S, M) := by
  have e := lI_lt h2 h1
  by_cases h : c * b < a * d
  · rw [am_bt h]
    simp only [e194_0, e194_1, e194_3, e194_4, e194_6, e194_7, e194_8, e194_9, e194_12, e194_13, e194_16, e194_17, lI_mul, lc_gt, e, h, am_bv_s, am_bw_s, eq_self, true_or, or_true, am_b0, am_b1, am_em, if_true, if_false, true_and, and_true, false_and, and_false, not_true_eq_false, not_false_eq_true, false_or, or_false, Bool.false_eq_true]
  · rw [am_bf h]
    simp only [e194_0, e194_1, e194_3, e194_4, e194_6, e194_7, e194_8, e194_9, e194_12, e194_13, e194_16, e194_17, lI_mul, lc_gt, e, h, am_bv_s, am_bw_s, eq_self, true_or, or_true, am_b0, am_b1, am_em, if_true, if_false, true_and, and_true, false_and, and_false, not_true_eq_false, not_false_eq_true, false_or, or_false, Bool.false_eq_true]
theorem m_most {t p : Nat} {lr rb : Nat → Bool} (hx : JM s M) (ho : okm s) (mt : mT s t M) (hc : mCl s lr M) (hr : mRb rb M) (hp : p ≤ 100) (hD : 0 < gD s.2.1.1 s.2.2.2.1 s.2.2.2.2 t) : ∃ M', am_e X 193 0 [some (.ref (59 : Nat)), some (.int (nI p)), none, none, none, none, none, none, none] [] kS M = some (some (.int (oI (bst s t lr rb p s.2.2.1.1))), kS, M') ∧ am_of pmQ M M' := by
  have b6 := ho.2.2.1.1
  obtain ⟨r, r64, rM, rB⟩ := hr
  have pj : ∀ {Mb : am_Me}, am_of pmQ M Mb → JM s Mb := fun o => hx.of o (fun a k q => by unfold pmQ at q; unfold pR; omega)
  have pt : ∀ {Mb : am_Me}, am_of pmQ M Mb → mT s t Mb := fun o b hb => ⟨((o _ _ (by unfold pmQ; omega)).2).trans (mt b hb).1, ((o _ _ (by unfold pmQ; omega)).2).trans (mt b hb).2⟩
  have pc : ∀ {Mb : am_Me}, am_of pmQ M Mb → mCl s lr Mb := fun o => hc.of o (fun a k q => by unfold pmQ at q; omega)
  have n0 : ((-1 : Int32) = -1) = True := eq_true rfl
  have o0 : ((1 : Int32) = 0) = False := eq_false (by decide)
  have z0 : ((0 : Int32) = 0) = True := eq_true rfl
  obtain ⟨M', e1, g1⟩ := am_lp (X := X) (S := kS) (mi := 193) (pc := 10) s.2.2.1.1 (fun i => [some (.ref (59 : Nat)), some (.int (nI p)), some (.int (oI (bst s t lr rb p i))), some (.long (lI (bAB s t lr (bst s t lr rb p i)).1)), none, some (.long (lI (bAB s t lr (bst s t lr rb p i)).2)), none, some (.int (nI i)), none])
    (fun i M' => am_of pmQ M M') (M := M) am_of.rf (by
      intro j M2 hj i2
      have j2 := pj i2
      have c1 : (nI j < nI s.2.2.1.1) = True := eq_true (nI_lt hj (by omega))
      have bk := j2.2.2.1.1
      have r2 : M2.1 59 29 = nI r := ((i2 _ _ (by unfold pmQ; omega)).1).trans rM
      have br := bit_r r r64 j (by omega)
      rw [rB j (by omega)] at br
      by_cases hrb : rb j = true
      · rw [if_pos hrb] at br
        have eb : bst s t lr rb p (j + 1) = bst s t lr rb p j := by
          rw [bst, if_neg]
          intro q
          have := q.1.1
          rw [hrb] at this
          cases this
        refine ⟨M2, ?_, i2⟩
        rw [eb, e193_10]
        simp only [e193_0, e193_1, e193_2, e193_3, e193_4, e193_5, e193_7, e193_8, e193_12, e193_13, e193_16, e193_19, e193_20, e193_23, e193_25, e193_26, e193_27, e193_28, e193_31, e193_32, e193_34, e193_37, e193_40, e193_41, e193_43, e193_46, e193_49, e193_50, e193_53, e193_54, e193_55, e193_56, e193_57, e193_60, e193_61, e193_62, e193_65, e193_66, e193_69, e193_70, e193_72, e193_74, e193_77, e193_78, e193_79, e193_82, e193_83, e193_86, e193_87, e193_90, e193_91, e193_93, e193_96, e193_99, e193_101, e193_102, e193_103, e193_106, e193_107, e193_108, e193_111, e193_113, e193_116, e193_119, e193_120, s59, s59_0, s59_1, s59_2, s59_3, s59_4, s59_5, s59_6, s59_7, s59_8, s59_9, s59_10, s59_11, s59_12, s59_13, s59_14, s59_15, s59_16, s59_17, s59_18, s59_19, s59_20, s59_21, s59_22, s59_23, s59_24, s59_25, s59_26, s59_27, s59_28, s59_29, s59_30, s59_31, r59_0, r59_1, r59_2, r59_3, r59_6, r59_8, r59_9, r59_13, r59_15, r59_16, r59_17, r59_19, r59_22, r59_23, r59_26, r59_30, r59_31, s60, s61, s62, s63, s64, s65, s66, s67, s68, s69, s70, s71, s72, s73, s74, s75, s76, bk, c1, r2, br, o0, nI_1, am_bv_s, am_bw_s, eq_self, true_or, or_true, am_b0, am_b1, am_em, if_true, if_false, true_and, and_true, false_and, and_false, not_true_eq_false, not_false_eq_true, false_or, or_false, Bool.false_eq_true]
      · rw [if_neg hrb] at br
        have hrf : rb j = false := by cases h : rb j; rfl; exact absurd h hrb
        have ro := m_runningOf (X := X) j2 (show j < 6 by omega)
        have ra := rAll_le ho (show j < 6 by omega)
        have c0 : (0 < nI (rAll s j)) = (0 < rAll s j) := propext (nI_ltI (a := 0) (by decide) (by omega))
        by_cases h0 : rAll s j = 0
        · have c00 : (0 < rAll s j) = False := eq_false (by omega)
          have eb : bst s t lr rb p (j + 1) = bst s t lr rb p j := by
            rw [bst, if_neg]
            exact fun q => q.1.2.1 (Or.inl h0)
          refine ⟨M2, ?_, i2⟩
          rw [eb, e193_10]
          simp only [e193_0, e193_1, e193_2, e193_3, e193_4, e193_5, e193_7, e193_8, e193_12, e193_13, e193_16, e193_19, e193_20, e193_23, e193_25, e193_26, e193_27, e193_28, e193_31, e193_32, e193_34, e193_37, e193_40, e193_41, e193_43, e193_46, e193_49, e193_50, e193_53, e193_54, e193_55, e193_56, e193_57, e193_60, e193_61, e193_62, e193_65, e193_66, e193_69, e193_70, e193_72, e193_74, e193_77, e193_78, e193_79, e193_82, e193_83, e193_86, e193_87, e193_90, e193_91, e193_93, e193_96, e193_99, e193_101, e193_102, e193_103, e193_106, e193_107, e193_108, e193_111, e193_113, e193_116, e193_119, e193_120, s59, s59_0, s59_1, s59_2, s59_3, s59_4, s59_5, s59_6, s59_7, s59_8, s59_9, s59_10, s59_11, s59_12, s59_13, s59_14, s59_15, s59_16, s59_17, s59_18, s59_19, s59_20, s59_21, s59_22, s59_23, s59_24, s59_25, s59_26, s59_27, s59_28, s59_29, s59_30, s59_31, r59_0, r59_1, r59_2, r59_3, r59_6, r59_8, r59_9, r59_13, r59_15, r59_16, r59_17, r59_19, r59_22, r59_23, r59_26, r59_30, r59_31, s60, s61, s62, s63, s64, s65, s66, s67, s68, s69, s70, s71, s72, s73, s74, s75, s76, bk, c1, r2, br, z0, ro, c0, c00, nI_1, am_bv_s, am_bw_s, eq_self, true_or, or_true, am_b0, am_b1, am_em, if_true, if_false, true_and, and_true, false_and, and_false, not_true_eq_false, not_false_eq_true, false_or, or_false, Bool.false_eq_true]
        · have c00 : (0 < rAll s j) = True := eq_true (by omega)
          have hnn : ¬ (rAll s j = 0 ∨ gD s.2.1.1 s.2.2.2.1 s.2.2.2.2 t = 0) := by omega
          obtain ⟨M3, d1, d2, d3⟩ := m_findCover (X := X) j2 ho (pt i2) (pc i2) (show j < 6 by omega) hD
          have fb := fun k (hk : k < 6) => cvF_bd ho (t := t) (k := k) (lr := lr) hk hD
          have fp0 := fun k (h : 0 < rAll s k) => Nat.mul_pos (cvF_pos (k := k) (lr := lr) hD) h
          obtain ⟨z1, z2⟩ := fb j (by omega)
          have z3 : (cvF s t lr j).2 * rAll s j ≤ 2300000 * 594 := Nat.mul_le_mul (by omega) ra
          have pj0 := fp0 j (by omega)
          have lp := lI_w (n := p) (by omega)
          have l100 : (100 : Int64) = lI 100 := rfl
          have z4 : p * ((cvF s t lr j).2 * rAll s j) ≤ 100 * (2300000 * 594) := Nat.mul_le_mul hp z3
          have c2 := lI_lt (a := 100 * (cvF s t lr j).1) (b := p * ((cvF s t lr j).2 * rAll s j)) (by omega) (by omega)
          have eq1 := fr_le2 (a := (cvF s t lr j).1) (p := p) pj0
          by_cases h1 : 100 * (cvF s t lr j).1 < p * ((cvF s t lr j).2 * rAll s j)
          · have eb : bst s t lr rb p (j + 1) = bst s t lr rb p j := by
              rw [bst, if_neg]
              exact fun q => by have := eq1.mp q.1.2.2; omega
            refine ⟨M3, ?_, i2.tr d3⟩
            rw [eb, e193_10]
            simp only [e193_0, e193_1, e193_2, e193_3, e193_4, e193_5, e193_7, e193_8, e193_12, e193_13, e193_16, e193_19, e193_20, e193_23, e193_25, e193_26, e193_27, e193_28, e193_31, e193_32, e193_34, e193_37, e193_40, e193_41, e193_43, e193_46, e193_49, e193_50, e193_53, e193_54, e193_55, e193_56, e193_57, e193_60, e193_61, e193_62, e193_65, e193_66, e193_69, e193_70, e193_72, e193_74, e193_77, e193_78, e193_79, e193_82, e193_83, e193_86, e193_87, e193_90, e193_91, e193_93, e193_96, e193_99, e193_101, e193_102, e193_103, e193_106, e193_107, e193_108, e193_111, e193_113, e193_116, e193_119, e193_120, s59, s59_0, s59_1, s59_2, s59_3, s59_4, s59_5, s59_6, s59_7, s59_8, s59_9, s59_10, s59_11, s59_12, s59_13, s59_14, s59_15, s59_16, s59_17, s59_18, s59_19, s59_20, s59_21, s59_22, s59_23, s59_24, s59_25, s59_26, s59_27, s59_28, s59_29, s59_30, s59_31, r59_0, r59_1, r59_2, r59_3, r59_6, r59_8, r59_9, r59_13, r59_15, r59_16, r59_17, r59_19, r59_22, r59_23, r59_26, r59_30, r59_31, s60, s61, s62, s63, s64, s65, s66, s67, s68, s69, s70, s71, s72, s73, s74, s75, s76, bk, c1, r2, br, z0, ro, c0, c00, d1, d2.1, d2.2, lp, l100, lI_mul, lc_lt, c2, h1, nI_1, am_bv_s, am_bw_s, eq_self, true_or, or_true, am_b0, am_b1, am_em, if_true, if_false, true_and, and_true, false_and, and_false, not_true_eq_false, not_false_eq_true, false_or, or_false, Bool.false_eq_true]
          · have hok : bOk s t lr rb p j := ⟨hrf, hnn, eq1.mpr (by omega)⟩
            cases hb : bst s t lr rb p j with
            | none =>
              have eb : bst s t lr rb p (j + 1) = some j := by
                rw [bst, hb, if_pos ⟨hok, rfl⟩]
              refine ⟨M3, ?_, i2.tr d3⟩
              rw [eb, oI, oI, bAB, bAB, e193_10]
              simp only [e193_0, e193_1, e193_2, e193_3, e193_4, e193_5, e193_7, e193_8, e193_12, e193_13, e193_16, e193_19, e193_20, e193_23, e193_25, e193_26, e193_27, e193_28, e193_31, e193_32, e193_34, e193_37, e193_40, e193_41, e193_43, e193_46, e193_49, e193_50, e193_53, e193_54, e193_55, e193_56, e193_57, e193_60, e193_61, e193_62, e193_65, e193_66, e193_69, e193_70, e193_72, e193_74, e193_77, e193_78, e193_79, e193_82, e193_83, e193_86, e193_87, e193_90, e193_91, e193_93, e193_96, e193_99, e193_101, e193_102, e193_103, e193_106, e193_107, e193_108, e193_111, e193_113, e193_116, e193_119, e193_120, s59, s59_0, s59_1, s59_2, s59_3, s59_4, s59_5, s59_6, s59_7, s59_8, s59_9, s59_10, s59_11, s59_12, s59_13, s59_14, s59_15, s59_16, s59_17, s59_18, s59_19, s59_20, s59_21, s59_22, s59_23, s59_24, s59_25, s59_26, s59_27, s59_28, s59_29, s59_30, s59_31, r59_0, r59_1, r59_2, r59_3, r59_6, r59_8, r59_9, r59_13, r59_15, r59_16, r59_17, r59_19, r59_22, r59_23, r59_26, r59_30, r59_31, s60, s61, s62, s63, s64, s65, s66, s67, s68, s69, s70, s71, s72, s73, s74, s75, s76, bk, c1, r2, br, z0, o0, n0, ro, c0, c00, d1, d2.1, d2.2, lp, l100, lI_mul, lc_lt, c2, h1, nI_1, am_bv_s, am_bw_s, eq_self, true_or, or_true, am_b0, am_b1, am_em, if_true, if_false, true_and, and_true, false_and, and_false, not_true_eq_false, not_false_eq_true, false_or, or_false, Bool.false_eq_true]
            | some j0 =>
              obtain ⟨q1, q2⟩ := bst_ok j hb
              have ra0 := rAll_le ho (show j0 < 6 by omega)
              have hr0 : 0 < rAll s j0 := by have := q2.2.1; omega
              obtain ⟨y1, y2⟩ := fb j0 (by omega)
              have y3 : (cvF s t lr j0).2 * rAll s j0 ≤ 2300000 * 594 := Nat.mul_le_mul (by omega) ra0
              have pj1 := fp0 j0 hr0
              have n1 := nI_n1 (k := j0) (by omega)
              have w1 : (cvF s t lr j).1 * ((cvF s t lr j0).2 * rAll s j0) < 2 ^ 63 := Nat.lt_of_le_of_lt (Nat.mul_le_mul (show (cvF s t lr j).1 ≤ 594 * 2300000 by omega) y3) (by decide)
              have w2 : (cvF s t lr j0).1 * ((cvF s t lr j).2 * rAll s j) < 2 ^ 63 := Nat.lt_of_le_of_lt (Nat.mul_le_mul (show (cvF s t lr j0).1 ≤ 594 * 2300000 by omega) z3) (by decide)
              have mm := m_isMore (X := X) (S := kS) (M := M3) w1 w2
              have eq2 := fr_lt2 (a := (cvF s t lr j).1) (c := (cvF s t lr j0).1) pj0 pj1
              by_cases h2 : (cvF s t lr j0).1 * ((cvF s t lr j).2 * rAll s j) < (cvF s t lr j).1 * ((cvF s t lr j0).2 * rAll s j0)
              · rw [am_bt h2] at mm
                have eb : bst s t lr rb p (j + 1) = some j := by
                  rw [bst, hb, if_pos ⟨hok, decide_eq_true (eq2.mpr h2)⟩]
                refine ⟨M3, ?_, i2.tr d3⟩
                rw [eb, oI, oI, bAB, bAB, e193_10]
                simp only [e193_0, e193_1, e193_2, e193_3, e193_4, e193_5, e193_7, e193_8, e193_12, e193_13, e193_16, e193_19, e193_20, e193_23, e193_25, e193_26, e193_27, e193_28, e193_31, e193_32, e193_34, e193_37, e193_40, e193_41, e193_43, e193_46, e193_49, e193_50, e193_53, e193_54, e193_55, e193_56, e193_57, e193_60, e193_61, e193_62, e193_65, e193_66, e193_69, e193_70, e193_72, e193_74, e193_77, e193_78, e193_79, e193_82, e193_83, e193_86, e193_87, e193_90, e193_91, e193_93, e193_96, e193_99, e193_101, e193_102, e193_103, e193_106, e193_107, e193_108, e193_111, e193_113, e193_116, e193_119, e193_120, s59, s59_0, s59_1, s59_2, s59_3, s59_4, s59_5, s59_6, s59_7, s59_8, s59_9, s59_10, s59_11, s59_12, s59_13, s59_14, s59_15, s59_16, s59_17, s59_18, s59_19, s59_20, s59_21, s59_22, s59_23, s59_24, s59_25, s59_26, s59_27, s59_28, s59_29, s59_30, s59_31, r59_0, r59_1, r59_2, r59_3, r59_6, r59_8, r59_9, r59_13, r59_15, r59_16, r59_17, r59_19, r59_22, r59_23, r59_26, r59_30, r59_31, s60, s61, s62, s63, s64, s65, s66, s67, s68, s69, s70, s71, s72, s73, s74, s75, s76, bk, c1, r2, br, z0, o0, n1, ro, c0, c00, d1, d2.1, d2.2, lp, l100, lI_mul, lc_lt, c2, h1, mm, nI_1, am_bv_s, am_bw_s, eq_self, true_or, or_true, am_b0, am_b1, am_em, if_true, if_false, true_and, and_true, false_and, and_false, not_true_eq_false, not_false_eq_true, false_or, or_false, Bool.false_eq_true]
              · rw [am_bf h2] at mm
                have eb : bst s t lr rb p (j + 1) = some j0 := by
                  rw [bst, hb, if_neg (fun q => h2 (eq2.mp (of_decide_eq_true q.2)))]
                refine ⟨M3, ?_, i2.tr d3⟩
                rw [eb, oI, bAB, e193_10]
                simp only [e193_0, e193_1, e193_2, e193_3, e193_4, e193_5, e193_7, e193_8, e193_12, e193_13, e193_16, e193_19, e193_20, e193_23, e193_25, e193_26, e193_27, e193_28, e193_31, e193_32, e193_34, e193_37, e193_40, e193_41, e193_43, e193_46, e193_49, e193_50, e193_53, e193_54, e193_55, e193_56, e193_57, e193_60, e193_61, e193_62, e193_65, e193_66, e193_69, e193_70, e193_72, e193_74, e193_77, e193_78, e193_79, e193_82, e193_83, e193_86, e193_87, e193_90, e193_91, e193_93, e193_96, e193_99, e193_101, e193_102, e193_103, e193_106, e193_107, e193_108, e193_111, e193_113, e193_116, e193_119, e193_120, s59, s59_0, s59_1, s59_2, s59_3, s59_4, s59_5, s59_6, s59_7, s59_8, s59_9, s59_10, s59_11, s59_12, s59_13, s59_14, s59_15, s59_16, s59_17, s59_18, s59_19, s59_20, s59_21, s59_22, s59_23, s59_24, s59_25, s59_26, s59_27, s59_28, s59_29, s59_30, s59_31, r59_0, r59_1, r59_2, r59_3, r59_6, r59_8, r59_9, r59_13, r59_15, r59_16, r59_17, r59_19, r59_22, r59_23, r59_26, r59_30, r59_31, s60, s61, s62, s63, s64, s65, s66, s67, s68, s69, s70, s71, s72, s73, s74, s75, s76, bk, c1, r2, br, z0, o0, n1, ro, c0, c00, d1, d2.1, d2.2, lp, l100, lI_mul, lc_lt, c2, h1, mm, nI_1, am_bv_s, am_bw_s, eq_self, true_or, or_true, am_b0, am_b1, am_em, if_true, if_false, true_and, and_true, false_and, and_false, not_true_eq_false, not_false_eq_true, false_or, or_false, Bool.false_eq_true])
  refine ⟨M', ?_, g1⟩
  have bk := (pj g1).2.2.1.1
  have cn : (nI s.2.2.1.1 < nI s.2.2.1.1) = False := eq_false (nI_nlt (Nat.le_refl _) (by omega))
  have fin : am_e X 193 10 [some (.ref (59 : Nat)), some (.int (nI p)), some (.int (oI (bst s t lr rb p s.2.2.1.1))), some (.long (lI (bAB s t lr (bst s t lr rb p s.2.2.1.1)).1)), none, some (.long (lI (bAB s t lr (bst s t lr rb p s.2.2.1.1)).2)), none, some (.int (nI s.2.2.1.1)), none] [] kS M' = some (some (.int (oI (bst s t lr rb p s.2.2.1.1))), kS, M') := by
    rw [e193_10]
    simp only [e193_0, e193_1, e193_2, e193_3, e193_4, e193_5, e193_7, e193_8, e193_12, e193_13, e193_16, e193_19, e193_20, e193_23, e193_25, e193_26, e193_27, e193_28, e193_31, e193_32, e193_34, e193_37, e193_40, e193_41, e193_43, e193_46, e193_49, e193_50, e193_53, e193_54, e193_55, e193_56, e193_57, e193_60, e193_61, e193_62, e193_65, e193_66, e193_69, e193_70, e193_72, e193_74, e193_77, e193_78, e193_79, e193_82, e193_83, e193_86, e193_87, e193_90, e193_91, e193_93, e193_96, e193_99, e193_101, e193_102, e193_103, e193_106, e193_107, e193_108, e193_111, e193_113, e193_116, e193_119, e193_120, s59, s59_0, s59_1, s59_2, s59_3, s59_4, s59_5, s59_6, s59_7, s59_8, s59_9, s59_10, s59_11, s59_12, s59_13, s59_14, s59_15, s59_16, s59_17, s59_18, s59_19, s59_20, s59_21, s59_22, s59_23, s59_24, s59_25, s59_26, s59_27, s59_28, s59_29, s59_30, s59_31, r59_0, r59_1, r59_2, r59_3, r59_6, r59_8, r59_9, r59_13, r59_15, r59_16, r59_17, r59_19, r59_22, r59_23, r59_26, r59_30, r59_31, s60, s61, s62, s63, s64, s65, s66, s67, s68, s69, s70, s71, s72, s73, s74, s75, s76, bk, cn, am_bv_s, am_bw_s, eq_self, true_or, or_true, am_b0, am_b1, am_em, if_true, if_false, true_and, and_true, false_and, and_false, not_true_eq_false, not_false_eq_true, false_or, or_false, Bool.false_eq_true]
  rw [fin, nI_0] at e1
  rw [← e1]
  simp only [e193_0, e193_1, e193_2, e193_3, e193_4, e193_5, e193_7, e193_8, e193_12, e193_13, e193_16, e193_19, e193_20, e193_23, e193_25, e193_26, e193_27, e193_28, e193_31, e193_32, e193_34, e193_37, e193_40, e193_41, e193_43, e193_46, e193_49, e193_50, e193_53, e193_54, e193_55, e193_56, e193_57, e193_60, e193_61, e193_62, e193_65, e193_66, e193_69, e193_70, e193_72, e193_74, e193_77, e193_78, e193_79, e193_82, e193_83, e193_86, e193_87, e193_90, e193_91, e193_93, e193_96, e193_99, e193_101, e193_102, e193_103, e193_106, e193_107, e193_108, e193_111, e193_113, e193_116, e193_119, e193_120, am_bv_s, am_bw_s, eq_self, true_or, or_true, am_b0, am_b1, am_em, if_true, if_false, true_and, and_true, false_and, and_false, not_true_eq_false, not_false_eq_true, false_or, or_false, Bool.false_eq_true]
  rfl
end
