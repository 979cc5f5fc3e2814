/-! the class: next, deal -/
def gwm (sz : Nat → Nat) : Option Nat → Nat
  | none => 0
  | some j => sz j
/-- the largest of those that hold nothing -/
def gwo (h sz : Nat → Nat) : Nat → Option Nat
  | 0 => none
  | n + 1 => if h n = 0 ∧ gwm sz (gwo h sz n) < sz n then some n else gwo h sz n
def gMo (A B : Nat → Nat) (n : Nat) : Option Nat → Bool
  | none => true
  | some j => decide (A j * B n < A n * B j)
/-- the greatest quotient, the first of them -/
def ggo (A B : Nat → Nat) : Nat → Option Nat
  | 0 => none
  | n + 1 => if gMo A B n (ggo A B n) = true then some n else ggo A B n
def orE (a b : Option Nat) : Option Nat := match a with
  | some j => some j
  | none => b
theorem gwo_lt {h sz : Nat → Nat} {j : Nat} : ∀ n, gwo h sz n = some j → j < n
  | 0, q => by cases q
  | n + 1, q => by
    rw [gwo] at q
    by_cases c : h n = 0 ∧ gwm sz (gwo h sz n) < sz n
    · rw [if_pos c] at q
      cases q
      omega
    · rw [if_neg c] at q
      have := gwo_lt n q
      omega
theorem ggo_lt {A B : Nat → Nat} {j : Nat} : ∀ n, ggo A B n = some j → j < n
  | 0, q => by cases q
  | n + 1, q => by
    rw [ggo] at q
    by_cases c : gMo A B n (ggo A B n) = true
    · rw [if_pos c] at q
      cases q
      omega
    · rw [if_neg c] at q
      have := ggo_lt n q
      omega
theorem oI_n {o : Option Nat} (h : ∀ j, o = some j → j < 2 ^ 31) : (oI o = -1) = (o = none) := by
  cases o with
  | none => exact propext ⟨fun _ => rfl, fun _ => rfl⟩
  | some j =>
    rw [oI, nI_n1 (h j rfl)]
    exact (eq_false (fun q => by cases q)).symm
def xHd (n : Nat) (h : Nat → Nat) (M : am_Me) : Prop := ∀ b, b < n → M.1 3 b = nI (h b)
def xGa (n : Nat) (A B : Nat → Nat) (M : am_Me) : Prop := ∀ b, b < n → M.2 4 b = lI (A b) ∧ M.2 5 b = lI (B b)
def nA (s : sgm) (t b : Nat) : Nat := s.2.1.2 b * s.2.1.2 b * (sYe s.2.1.1 s.2.2.2.1 s.2.2.2.2 t b + 1) * (sAs s.2.1.1 s.2.2.2.1 s.2.2.2.2 t b - sYe s.2.1.1 s.2.2.2.1 s.2.2.2.2 t b + 1)
def nB (s : sgm) (t b : Nat) : Nat := (sAs s.2.1.1 s.2.2.2.1 s.2.2.2.2 t b + 2) * (sAs s.2.1.1 s.2.2.2.1 s.2.2.2.2 t b + 2) * sAs s.2.1.1 s.2.2.2.1 s.2.2.2.2 t b * (sAs s.2.1.1 s.2.2.2.1 s.2.2.2.2 t b + 1)
def sNx (s : sgm) (t : Nat) : Option Nat := orE (gwo (sAs s.2.1.1 s.2.2.2.1 s.2.2.2.2 t) s.2.1.2 s.2.1.1) (ggo (nA s t) (nB s t) s.2.1.1)
def sp_next (s : sgm) (t : Int32) : Int32 := if 0 ≤ t ∧ t ≤ 3 then oI (sNx s t.toNatClampNeg) else -2
theorem nA_le {s : sgm} (ho : okm s) {t b : Nat} (hb : b < s.2.1.1) : nA s t b ≤ 99 * 99 * 41 * 41 ∧ nB s t b ≤ 42 * 42 * 40 * 41 := by
  have h40 := sAs_le ho.2.1.1 (l := s.2.2.2.1) (A := s.2.2.2.2) (t := t) (k := b)
  have hy := sYe_le (nb := s.2.1.1) (l := s.2.2.2.1) (A := s.2.2.2.2) (t := t) (k := b)
  have s99 := (ho.2.1.2 b hb).2
  exact ⟨Nat.mul_le_mul (Nat.mul_le_mul (Nat.mul_le_mul s99 s99) (by omega)) (by omega), Nat.mul_le_mul (Nat.mul_le_mul (Nat.mul_le_mul (by omega) (by omega)) h40) (by omega)⟩
section
variable {X : am_X} {S : am_Sh} {M M' : am_Me} {P : Nat → Nat → Prop} {s : sgm}
theorem q_without {d : sgD} {h : Nat → Nat} (hx : xD d M) (ho : okD d) (hh : xHd d.1 h M) (hb : ∀ b, b < d.1 → h b < 2 ^ 31) : am_e X 29 0 [some (.ref (1 : Nat)), none, none, none] [] kS M = some (some (.int (oI (gwo h d.2 d.1))), kS, M) := by
  have d6 := ho.1
  obtain ⟨M', e1, rfl⟩ := am_lp (X := X) (S := kS) (mi := 29) (pc := 6) d.1 (fun i => [some (.ref (1 : Nat)), some (.int (oI (gwo h d.2 i))), some (.int (nI (gwm d.2 (gwo h d.2 i)))), some (.int (nI i))])
    (fun i M' => M' = M) (M := M) rfl (by
      intro j M2 hj hI
      subst hI
      have c1 : (nI j < nI d.1) = True := eq_true (nI_lt hj (by omega))
      have cj : (nI j).toNatClampNeg = j := nI_clamp (by omega)
      have c2 : (nI (h j) = 0) = (h j = 0) := nI_0e (hb j hj)
      have s99 := ho.2 j hj
      have gm : gwm d.2 (gwo h d.2 j) ≤ 99 := by
        cases hq : gwo h d.2 j with
        | none => exact Nat.zero_le _
        | some q =>
          have := gwo_lt j hq
          exact (ho.2 q (by omega)).2
      have c3 : (nI (gwm d.2 (gwo h d.2 j)) < nI (d.2 j)) = (gwm d.2 (gwo h d.2 j) < d.2 j) := ok_lt (by omega) (by omega)
      refine ⟨M2, ?_, rfl⟩
      by_cases h0 : h j = 0
      · by_cases h1 : gwm d.2 (gwo h d.2 j) < d.2 j
        · have e : gwo h d.2 (j + 1) = some j := by rw [gwo, if_pos ⟨h0, h1⟩]
          rw [e, oI, gwm, e29_6]
          simp only [e29_0, e29_1, e29_2, e29_3, e29_4, e29_5, e29_7, e29_8, e29_11, e29_14, e29_15, e29_18, e29_19, e29_20, e29_23, e29_24, e29_27, e29_28, e29_29, e29_30, e29_33, e29_34, e29_35, e29_36, e29_39, e29_40, e29_41, e29_42, e29_45, e29_48, e29_49, s1, s1_0, s1_1, s1_2, s1_3, s1_4, r1_0, r1_1, r1_2, r1_3, s2, s3, s4, s5, hx.1, c1, cj, hh j hj, hx.2 j hj, h0, (eq_true rfl : (nI 0 = 0) = True), c3, h1, nI_1, a3 (show j < 6 by omega), a2 (show j < 6 by omega), am_bv_s, am_bw_s, eq_self, true_or, or_true, am_b0, am_b1, am_em, if_true, if_false, true_and, and_true, false_and, and_false, not_true_eq_false, not_false_eq_true, false_or, or_false, Bool.false_eq_true]
        · have e : gwo h d.2 (j + 1) = gwo h d.2 j := by rw [gwo, if_neg (fun q => h1 q.2)]
          rw [e, e29_6]
          simp only [e29_0, e29_1, e29_2, e29_3, e29_4, e29_5, e29_7, e29_8, e29_11, e29_14, e29_15, e29_18, e29_19, e29_20, e29_23, e29_24, e29_27, e29_28, e29_29, e29_30, e29_33, e29_34, e29_35, e29_36, e29_39, e29_40, e29_41, e29_42, e29_45, e29_48, e29_49, s1, s1_0, s1_1, s1_2, s1_3, s1_4, r1_0, r1_1, r1_2, r1_3, s2, s3, s4, s5, hx.1, c1, cj, hh j hj, hx.2 j hj, h0, (eq_true rfl : (nI 0 = 0) = True), c3, h1, nI_1, a3 (show j < 6 by omega), a2 (show j < 6 by omega), am_bv_s, am_bw_s, eq_self, true_or, or_true, am_b0, am_b1, am_em, if_true, if_false, true_and, and_true, false_and, and_false, not_true_eq_false, not_false_eq_true, false_or, or_false, Bool.false_eq_true]
      · have e : gwo h d.2 (j + 1) = gwo h d.2 j := by rw [gwo, if_neg (fun q => h0 q.1)]
        rw [e, e29_6]
        simp only [e29_0, e29_1, e29_2, e29_3, e29_4, e29_5, e29_7, e29_8, e29_11, e29_14, e29_15, e29_18, e29_19, e29_20, e29_23, e29_24, e29_27, e29_28, e29_29, e29_30, e29_33, e29_34, e29_35, e29_36, e29_39, e29_40, e29_41, e29_42, e29_45, e29_48, e29_49, s1, s1_0, s1_1, s1_2, s1_3, s1_4, r1_0, r1_1, r1_2, r1_3, s2, s3, s4, s5, hx.1, c1, cj, hh j hj, c2, h0, nI_1, a3 (show j < 6 by omega), am_bv_s, am_bw_s, eq_self, true_or, or_true, am_b0, am_b1, am_em, if_true, if_false, true_and, and_true, false_and, and_false, not_true_eq_false, not_false_eq_true, false_or, or_false, Bool.false_eq_true])
  have cn : (nI d.1 < nI d.1) = False := eq_false (nI_nlt (Nat.le_refl _) (by omega))
  have fin : am_e X 29 6 [some (.ref (1 : Nat)), some (.int (oI (gwo h d.2 d.1))), some (.int (nI (gwm d.2 (gwo h d.2 d.1)))), some (.int (nI d.1))] [] kS M' = some (some (.int (oI (gwo h d.2 d.1))), kS, M') := by
    rw [e29_6]
    simp only [e29_0, e29_1, e29_2, e29_3, e29_4, e29_5, e29_7, e29_8, e29_11, e29_14, e29_15, e29_18, e29_19, e29_20, e29_23, e29_24, e29_27, e29_28, e29_29, e29_30, e29_33, e29_34, e29_35, e29_36, e29_39, e29_40, e29_41, e29_42, e29_45, e29_48, e29_49, s1, s1_0, s1_1, s1_2, s1_3, s1_4, r1_0, r1_1, r1_2, r1_3, s2, s3, s4, s5, hx.1, cn, am_bv_s, am_bw_s, eq_self, true_or, or_true, am_b0, am_b1, am_em, if_true, if_false, true_and, and_true, false_and, and_false, not_true_eq_false, not_false_eq_true, false_or, or_false, Bool.false_eq_true]
  rw [fin, nI_0] at e1
  rw [← e1]
  simp only [e29_0, e29_1, e29_2, e29_3, e29_4, e29_5, e29_7, e29_8, e29_11, e29_14, e29_15, e29_18, e29_19, e29_20, e29_23, e29_24, e29_27, e29_28, e29_29, e29_30, e29_33, e29_34, e29_35, e29_36, e29_39, e29_40, e29_41, e29_42, e29_45, e29_48, e29_49, am_bv_s, am_bw_s, eq_self, true_or, or_true, am_b0, am_b1, am_em, if_true, if_false, true_and, and_true, false_and, and_false, not_true_eq_false, not_false_eq_true, false_or, or_false, Bool.false_eq_true]
  rfl
theorem q_gain {d : sgD} {A B : Nat → Nat} (hx : xD d M) (ho : okD d) (hg : xGa d.1 A B M) (hb : ∀ i j, i < d.1 → j < d.1 → A i * B j < 2 ^ 63) : am_e X 30 0 [some (.ref (1 : Nat)), none, none] [] kS M = some (some (.int (oI (ggo A B d.1))), kS, M) := by
  have d6 := ho.1
  obtain ⟨M', e1, rfl⟩ := am_lp (X := X) (S := kS) (mi := 30) (pc := 4) d.1 (fun i => [some (.ref (1 : Nat)), some (.int (oI (ggo A B i))), some (.int (nI i))])
    (fun i M' => M' = M) (M := M) rfl (by
      intro j M2 hj hI
      subst hI
      have c1 : (nI j < nI d.1) = True := eq_true (nI_lt hj (by omega))
      have cj : (nI j).toNatClampNeg = j := nI_clamp (by omega)
      refine ⟨M2, ?_, rfl⟩
      cases hq : ggo A B j with
      | none =>
        have e : ggo A B (j + 1) = some j := by rw [ggo, hq, if_pos (show gMo A B j none = true from rfl)]
        rw [e, oI, oI, e30_4]
        simp only [e30_0, e30_1, e30_2, e30_3, e30_5, e30_6, e30_9, e30_12, e30_13, e30_14, e30_17, e30_18, e30_21, e30_22, e30_23, e30_24, e30_27, e30_28, e30_29, e30_30, e30_31, e30_34, e30_35, e30_36, e30_37, e30_40, e30_41, e30_42, e30_43, e30_44, e30_47, e30_48, e30_49, e30_52, e30_55, e30_56, s1, s1_0, s1_1, s1_2, s1_3, s1_4, r1_0, r1_1, r1_2, r1_3, s2, s3, s4, s5, hx.1, c1, (eq_true rfl : ((-1 : Int32) = -1) = True), nI_1, am_bv_s, am_bw_s, eq_self, true_or, or_true, am_b0, am_b1, am_em, if_true, if_false, true_and, and_true, false_and, and_false, not_true_eq_false, not_false_eq_true, false_or, or_false, Bool.false_eq_true]
      | some q =>
        have ql := ggo_lt j hq
        have n1 := nI_n1 (k := q) (by omega)
        have cq : (nI q).toNatClampNeg = q := nI_clamp (by omega)
        obtain ⟨g1, g2⟩ := hg j hj
        obtain ⟨g3, g4⟩ := hg q (by omega)
        have c2 := lI_lt (hb q j (by omega) hj) (hb j q hj (by omega))
        by_cases h : A q * B j < A j * B q
        · have e : ggo A B (j + 1) = some j := by rw [ggo, hq, if_pos (show gMo A B j (some q) = true from decide_eq_true h)]
          rw [e, oI, oI, e30_4]
          simp only [e30_0, e30_1, e30_2, e30_3, e30_5, e30_6, e30_9, e30_12, e30_13, e30_14, e30_17, e30_18, e30_21, e30_22, e30_23, e30_24, e30_27, e30_28, e30_29, e30_30, e30_31, e30_34, e30_35, e30_36, e30_37, e30_40, e30_41, e30_42, e30_43, e30_44, e30_47, e30_48, e30_49, e30_52, e30_55, e30_56, s1, s1_0, s1_1, s1_2, s1_3, s1_4, r1_0, r1_1, r1_2, r1_3, s2, s3, s4, s5, hx.1, c1, cj, cq, n1, g1, g2, g3, g4, lI_mul, lc_gt, c2, h, nI_1, a4 (show j < 6 by omega), a5 (show j < 6 by omega), a4 (show q < 6 by omega), a5 (show q < 6 by omega), am_bv_s, am_bw_s, eq_self, true_or, or_true, am_b0, am_b1, am_em, if_true, if_false, true_and, and_true, false_and, and_false, not_true_eq_false, not_false_eq_true, false_or, or_false, Bool.false_eq_true]
        · have e : ggo A B (j + 1) = some q := by rw [ggo, hq, if_neg (show ¬ gMo A B j (some q) = true from fun z => h (of_decide_eq_true z))]
          rw [e, oI, e30_4]
          simp only [e30_0, e30_1, e30_2, e30_3, e30_5, e30_6, e30_9, e30_12, e30_13, e30_14, e30_17, e30_18, e30_21, e30_22, e30_23, e30_24, e30_27, e30_28, e30_29, e30_30, e30_31, e30_34, e30_35, e30_36, e30_37, e30_40, e30_41, e30_42, e30_43, e30_44, e30_47, e30_48, e30_49, e30_52, e30_55, e30_56, s1, s1_0, s1_1, s1_2, s1_3, s1_4, r1_0, r1_1, r1_2, r1_3, s2, s3, s4, s5, hx.1, c1, cj, cq, n1, g1, g2, g3, g4, lI_mul, lc_gt, c2, h, nI_1, a4 (show j < 6 by omega), a5 (show j < 6 by omega), a4 (show q < 6 by omega), a5 (show q < 6 by omega), am_bv_s, am_bw_s, eq_self, true_or, or_true, am_b0, am_b1, am_em, if_true, if_false, true_and, and_true, false_and, and_false, not_true_eq_false, not_false_eq_true, false_or, or_false, Bool.false_eq_true])
  have cn : (nI d.1 < nI d.1) = False := eq_false (nI_nlt (Nat.le_refl _) (by omega))
  have fin : am_e X 30 4 [some (.ref (1 : Nat)), some (.int (oI (ggo A B d.1))), some (.int (nI d.1))] [] kS M' = some (some (.int (oI (ggo A B d.1))), kS, M') := by
    rw [e30_4]
    simp only [e30_0, e30_1, e30_2, e30_3, e30_5, e30_6, e30_9, e30_12, e30_13, e30_14, e30_17, e30_18, e30_21, e30_22, e30_23, e30_24, e30_27, e30_28, e30_29, e30_30, e30_31, e30_34, e30_35, e30_36, e30_37, e30_40, e30_41, e30_42, e30_43, e30_44, e30_47, e30_48, e30_49, e30_52, e30_55, e30_56, s1, s1_0, s1_1, s1_2, s1_3, s1_4, r1_0, r1_1, r1_2, r1_3, s2, s3, s4, s5, hx.1, cn, am_bv_s, am_bw_s, eq_self, true_or, or_true, am_b0, am_b1, am_em, if_true, if_false, true_and, and_true, false_and, and_false, not_true_eq_false, not_false_eq_true, false_or, or_false, Bool.false_eq_true]
  rw [fin, nI_0] at e1
  rw [← e1]
  simp only [e30_0, e30_1, e30_2, e30_3, e30_5, e30_6, e30_9, e30_12, e30_13, e30_14, e30_17, e30_18, e30_21, e30_22, e30_23, e30_24, e30_27, e30_28, e30_29, e30_30, e30_31, e30_34, e30_35, e30_36, e30_37, e30_40, e30_41, e30_42, e30_43, e30_44, e30_47, e30_48, e30_49, e30_52, e30_55, e30_56, am_bv_s, am_bw_s, eq_self, true_or, or_true, am_b0, am_b1, am_em, if_true, if_false, true_and, and_true, false_and, and_false, not_true_eq_false, not_false_eq_true, false_or, or_false, Bool.false_eq_true]
  rfl
/-- cells of gains -/
def pGa (a _ : Nat) : Prop := a = 3 ∨ a = 4 ∨ a = 5
theorem pGa_S {a k : Nat} (q : pGa a k) : pS a k := by unfold pGa at q; unfold pS; omega
theorem x_bandToAsk {t : Nat} (hx : JX s M) (ho : okm s) (ht : t < 4) : ∃ M', am_e X 26 0 [some (.ref (1 : Nat)), some (.ref (36 : Nat)), some (.int (nI t)), none, none, none, none, none, none] [] kS M = some (some (.int (oI (sNx s t))), kS, M') ∧ JX s M' ∧ am_of pGa M M' := by
  have d6 := ho.2.1.1
  have pj : ∀ {Mb : am_Me}, am_of pGa M Mb → JX s Mb := fun o => hx.of o (fun a k q => pGa_S q)
  have h40 := fun k => sAs_le d6 (l := s.2.2.2.1) (A := s.2.2.2.2) (t := t) (k := k)
  have hy := fun k => sYe_le (nb := s.2.1.1) (l := s.2.2.2.1) (A := s.2.2.2.2) (t := t) (k := k)
  obtain ⟨M1, e1, h1, of1⟩ := am_lp (X := X) (S := kS) (mi := 26) (pc := 2) s.2.1.1 (fun i => [some (.ref (1 : Nat)), some (.ref (36 : Nat)), some (.int (nI t)), some (.int (nI i)), none, none, none, none, none])
    (fun i M' => xHd i (sAs s.2.1.1 s.2.2.2.1 s.2.2.2.2 t) M' ∧ am_of (fun a _ => a = 3) M M') (M := M) ⟨fun b hb => absurd hb (Nat.not_lt_zero _), am_of.rf⟩ (by
      intro j M2 hj hI
      obtain ⟨i1, i2⟩ := hI
      have j2 := pj (i2.mo fun a k q => (Or.inl q : pGa a k))
      have c1 : (nI j < nI s.2.1.1) = True := eq_true (nI_lt hj (by omega))
      have cj : (nI j).toNatClampNeg = j := nI_clamp (by omega)
      have qa := q_askedOf (X := X) j2.2.2 ht (show j < 7 by omega)
      refine ⟨am_setI M2 3 j (nI (sAs s.2.1.1 s.2.2.2.1 s.2.2.2.2 t j)), ?_, fun b hb => ?_, i2.sI rfl⟩
      · rw [e26_2]
        simp only [e26_0, e26_1, e26_3, e26_4, e26_7, e26_10, e26_11, e26_14, e26_15, e26_16, e26_17, e26_18, e26_21, e26_22, e26_25, e26_28, e26_29, e26_32, e26_33, e26_34, e26_35, e26_38, e26_39, e26_40, e26_41, e26_45, e26_46, e26_49, e26_52, e26_53, e26_56, e26_58, e26_59, e26_60, e26_62, e26_63, e26_64, e26_66, e26_69, e26_70, e26_72, e26_73, e26_76, e26_78, e26_79, e26_82, e26_84, e26_85, e26_86, e26_87, e26_90, e26_92, e26_93, e26_94, e26_95, e26_97, e26_98, e26_99, e26_100, e26_102, e26_104, e26_105, e26_106, e26_107, e26_108, e26_109, e26_110, e26_113, e26_115, e26_117, e26_120, e26_121, e26_123, e26_126, e26_127, e26_128, e26_130, e26_131, e26_133, e26_134, e26_135, e26_136, e26_137, e26_140, e26_143, e26_144, e26_147, s1, s1_0, s1_1, s1_2, s1_3, s1_4, r1_0, r1_1, r1_2, r1_3, s2, s3, s4, s5, s36, s36_0, s36_1, s36_2, r36_0, r36_1, r36_2, s37, s38, s39, s40, s41, s42, s43, s44, s45, s46, s47, s47_0, s47_1, j2.1.2.1.1, c1, cj, qa, nI_1, a3 (show j < 6 by omega), am_bv_s, am_bw_s, eq_self, true_or, or_true, am_b0, am_b1, am_em, if_true, if_false, true_and, and_true, false_and, and_false, not_true_eq_false, not_false_eq_true, false_or, or_false, Bool.false_eq_true]
      · rw [gI]
        by_cases e : b = j
        · rw [if_pos ⟨rfl, e⟩, e]
        · rw [if_neg (fun q => e q.2)]; exact i1 b (by omega))
  have of1' := of1.mo fun a k q => (Or.inl q : pGa a k)
  have j1 := pj of1'
  have wo := q_without (X := X) j1.1.2.1 ho.2.1 h1 (fun b hb => by have := h40 b; omega)
  have cn : (nI s.2.1.1 < nI s.2.1.1) = False := eq_false (nI_nlt (Nat.le_refl _) (by omega))
  rw [nI_0] at e1
  have cf := oI_n (o := gwo (sAs s.2.1.1 s.2.2.2.1 s.2.2.2.2 t) s.2.1.2 s.2.1.1) (fun j h => by have := gwo_lt _ h; omega)
  unfold sNx
  cases hq : gwo (sAs s.2.1.1 s.2.2.2.1 s.2.2.2.2 t) s.2.1.2 s.2.1.1 with
  | some q =>
    rw [hq] at wo cf
    have cf2 : (oI (some q) = -1) = False := by rw [cf]; exact eq_false (fun z => by cases z)
    refine ⟨M1, ?_, j1, of1'⟩
    have fin : am_e X 26 2 [some (.ref (1 : Nat)), some (.ref (36 : Nat)), some (.int (nI t)), some (.int (nI s.2.1.1)), none, none, none, none, none] [] kS M1 = some (some (.int (oI (some q))), kS, M1) := by
      rw [e26_2]
      simp only [e26_0, e26_1, e26_3, e26_4, e26_7, e26_10, e26_11, e26_14, e26_15, e26_16, e26_17, e26_18, e26_21, e26_22, e26_25, e26_28, e26_29, e26_32, e26_33, e26_34, e26_35, e26_38, e26_39, e26_40, e26_41, e26_45, e26_46, e26_49, e26_52, e26_53, e26_56, e26_58, e26_59, e26_60, e26_62, e26_63, e26_64, e26_66, e26_69, e26_70, e26_72, e26_73, e26_76, e26_78, e26_79, e26_82, e26_84, e26_85, e26_86, e26_87, e26_90, e26_92, e26_93, e26_94, e26_95, e26_97, e26_98, e26_99, e26_100, e26_102, e26_104, e26_105, e26_106, e26_107, e26_108, e26_109, e26_110, e26_113, e26_115, e26_117, e26_120, e26_121, e26_123, e26_126, e26_127, e26_128, e26_130, e26_131, e26_133, e26_134, e26_135, e26_136, e26_137, e26_140, e26_143, e26_144, e26_147, s1, s1_0, s1_1, s1_2, s1_3, s1_4, r1_0, r1_1, r1_2, r1_3, s2, s3, s4, s5, j1.1.2.1.1, cn, wo, cf2, am_bv_s, am_bw_s, eq_self, true_or, or_true, am_b0, am_b1, am_em, if_true, if_false, true_and, and_true, false_and, and_false, not_true_eq_false, not_false_eq_true, false_or, or_false, Bool.false_eq_true]
    rw [fin] at e1
    have eo : ∀ b, orE (some q) b = some q := fun _ => rfl
    rw [eo, ← e1]
    simp only [e26_0, e26_1, e26_3, e26_4, e26_7, e26_10, e26_11, e26_14, e26_15, e26_16, e26_17, e26_18, e26_21, e26_22, e26_25, e26_28, e26_29, e26_32, e26_33, e26_34, e26_35, e26_38, e26_39, e26_40, e26_41, e26_45, e26_46, e26_49, e26_52, e26_53, e26_56, e26_58, e26_59, e26_60, e26_62, e26_63, e26_64, e26_66, e26_69, e26_70, e26_72, e26_73, e26_76, e26_78, e26_79, e26_82, e26_84, e26_85, e26_86, e26_87, e26_90, e26_92, e26_93, e26_94, e26_95, e26_97, e26_98, e26_99, e26_100, e26_102, e26_104, e26_105, e26_106, e26_107, e26_108, e26_109, e26_110, e26_113, e26_115, e26_117, e26_120, e26_121, e26_123, e26_126, e26_127, e26_128, e26_130, e26_131, e26_133, e26_134, e26_135, e26_136, e26_137, e26_140, e26_143, e26_144, e26_147, am_bv_s, am_bw_s, eq_self, true_or, or_true, am_b0, am_b1, am_em, if_true, if_false, true_and, and_true, false_and, and_false, not_true_eq_false, not_false_eq_true, false_or, or_false, Bool.false_eq_true]
  | none =>
    rw [hq] at wo
    obtain ⟨M3, e3, g3, of3⟩ := am_lp (X := X) (S := kS) (mi := 26) (pc := 43) s.2.1.1 (fun i => [some (.ref (1 : Nat)), some (.ref (36 : Nat)), some (.int (nI t)), none, some (.int (nI i)), none, none, none, none])
      (fun i M' => xGa i (nA s t) (nB s t) M' ∧ am_of (fun a _ => a = 4 ∨ a = 5) M1 M') (M := M1) ⟨fun b hb => absurd hb (Nat.not_lt_zero _), am_of.rf⟩ (by
        intro j M2 hj hI
        obtain ⟨i1, i2⟩ := hI
        have j2 := pj (of1'.tr (i2.mo fun a k q => (Or.inr q : pGa a k)))
        have c1 : (nI j < nI s.2.1.1) = True := eq_true (nI_lt hj (by omega))
        have cj : (nI j).toNatClampNeg = j := nI_clamp (by omega)
        have hd : M2.1 3 j = nI (sAs s.2.1.1 s.2.2.2.1 s.2.2.2.2 t j) := ((i2 _ _ (by omega)).1).trans (h1 j hj)
        have qy := q_yesesOf (X := X) j2.2.2 ht (show j < 7 by omega)
        have sz := j2.1.2.1.2 j hj
        have l1 := lI_w (n := sAs s.2.1.1 s.2.2.2.1 s.2.2.2.2 t j) (by have := h40 j; omega)
        have l2 := lI_w (n := sYe s.2.1.1 s.2.2.2.1 s.2.2.2.2 t j) (by have := h40 j; have := hy j; omega)
        have l3 := lI_w (n := s.2.1.2 j) (by have := (ho.2.1.2 j hj).2; omega)
        have o1 : ∀ a, lI a + 1 = lI (a + 1) := fun a => lI_add
        have o2 : ∀ a, lI a + 2 = lI (a + 2) := fun a => lI_add
        have sb : lI (sAs s.2.1.1 s.2.2.2.1 s.2.2.2.2 t j) - lI (sYe s.2.1.1 s.2.2.2.1 s.2.2.2.2 t j) = lI (sAs s.2.1.1 s.2.2.2.1 s.2.2.2.2 t j - sYe s.2.1.1 s.2.2.2.1 s.2.2.2.2 t j) := lI_sub (hy j)
        refine ⟨am_setL (am_setL M2 4 j (lI (nA s t j))) 5 j (lI (nB s t j)), ?_, fun b hb => ?_, (i2.sL (Or.inl rfl)).sL (Or.inr rfl)⟩
        · rw [e26_43]
          simp only [e26_0, e26_1, e26_3, e26_4, e26_7, e26_10, e26_11, e26_14, e26_15, e26_16, e26_17, e26_18, e26_21, e26_22, e26_25, e26_28, e26_29, e26_32, e26_33, e26_34, e26_35, e26_38, e26_39, e26_40, e26_41, e26_45, e26_46, e26_49, e26_52, e26_53, e26_56, e26_58, e26_59, e26_60, e26_62, e26_63, e26_64, e26_66, e26_69, e26_70, e26_72, e26_73, e26_76, e26_78, e26_79, e26_82, e26_84, e26_85, e26_86, e26_87, e26_90, e26_92, e26_93, e26_94, e26_95, e26_97, e26_98, e26_99, e26_100, e26_102, e26_104, e26_105, e26_106, e26_107, e26_108, e26_109, e26_110, e26_113, e26_115, e26_117, e26_120, e26_121, e26_123, e26_126, e26_127, e26_128, e26_130, e26_131, e26_133, e26_134, e26_135, e26_136, e26_137, e26_140, e26_143, e26_144, e26_147, s1, s1_0, s1_1, s1_2, s1_3, s1_4, r1_0, r1_1, r1_2, r1_3, s2, s3, s4, s5, s36, s36_0, s36_1, s36_2, r36_0, r36_1, r36_2, s37, s38, s39, s40, s41, s42, s43, s44, s45, s46, s47, s47_0, s47_1, j2.1.2.1.1, c1, cj, hd, qy, sz, l1, l2, l3, o1, o2, sb, lI_mul, nI_1, nA, nB, a3 (show j < 6 by omega), a2 (show j < 6 by omega), a4 (show j < 6 by omega), a5 (show j < 6 by omega), am_bv_s, am_bw_s, eq_self, true_or, or_true, am_b0, am_b1, am_em, if_true, if_false, true_and, and_true, false_and, and_false, not_true_eq_false, not_false_eq_true, false_or, or_false, Bool.false_eq_true]
        · by_cases e : b = j
          · subst e
            exact ⟨by rw [gL, if_neg (by omega), gL, if_pos ⟨rfl, rfl⟩], by rw [gL, if_pos ⟨rfl, rfl⟩]⟩
          · obtain ⟨q1, q2⟩ := i1 b (by omega)
            exact ⟨by rw [gL, if_neg (by omega), gL, if_neg (by omega)]; exact q1, by rw [gL, if_neg (by omega), gL, if_neg (by omega)]; exact q2⟩)
    have of3' := of1'.tr (of3.mo fun a k q => (Or.inr q : pGa a k))
    have j3 := pj of3'
    have gg := q_gain (X := X) j3.1.2.1 ho.2.1 g3 (fun i j hi hj => Nat.lt_of_le_of_lt (Nat.mul_le_mul (nA_le ho hi).1 (nA_le ho hj).2) (by decide))
    refine ⟨M3, ?_, j3, of3'⟩
    have f3 : am_e X 26 43 [some (.ref (1 : Nat)), some (.ref (36 : Nat)), some (.int (nI t)), none, some (.int (nI s.2.1.1)), none, none, none, none] [] kS M3 = some (some (.int (oI (ggo (nA s t) (nB s t) s.2.1.1))), kS, M3) := by
      rw [e26_43]
      simp only [e26_0, e26_1, e26_3, e26_4, e26_7, e26_10, e26_11, e26_14, e26_15, e26_16, e26_17, e26_18, e26_21, e26_22, e26_25, e26_28, e26_29, e26_32, e26_33, e26_34, e26_35, e26_38, e26_39, e26_40, e26_41, e26_45, e26_46, e26_49, e26_52, e26_53, e26_56, e26_58, e26_59, e26_60, e26_62, e26_63, e26_64, e26_66, e26_69, e26_70, e26_72, e26_73, e26_76, e26_78, e26_79, e26_82, e26_84, e26_85, e26_86, e26_87, e26_90, e26_92, e26_93, e26_94, e26_95, e26_97, e26_98, e26_99, e26_100, e26_102, e26_104, e26_105, e26_106, e26_107, e26_108, e26_109, e26_110, e26_113, e26_115, e26_117, e26_120, e26_121, e26_123, e26_126, e26_127, e26_128, e26_130, e26_131, e26_133, e26_134, e26_135, e26_136, e26_137, e26_140, e26_143, e26_144, e26_147, s1, s1_0, s1_1, s1_2, s1_3, s1_4, r1_0, r1_1, r1_2, r1_3, s2, s3, s4, s5, j3.1.2.1.1, cn, gg, am_bv_s, am_bw_s, eq_self, true_or, or_true, am_b0, am_b1, am_em, if_true, if_false, true_and, and_true, false_and, and_false, not_true_eq_false, not_false_eq_true, false_or, or_false, Bool.false_eq_true]
    rw [f3, nI_0] at e3
    have fin : am_e X 26 2 [some (.ref (1 : Nat)), some (.ref (36 : Nat)), some (.int (nI t)), some (.int (nI s.2.1.1)), none, none, none, none, none] [] kS M1 = some (some (.int (oI (ggo (nA s t) (nB s t) s.2.1.1))), kS, M3) := by
      rw [e26_2]
      simp only [e26_0, e26_1, e26_3, e26_4, e26_7, e26_10, e26_11, e26_14, e26_15, e26_16, e26_17, e26_18, e26_21, e26_22, e26_25, e26_28, e26_29, e26_32, e26_33, e26_34, e26_35, e26_38, e26_39, e26_40, e26_41, e26_45, e26_46, e26_49, e26_52, e26_53, e26_56, e26_58, e26_59, e26_60, e26_62, e26_63, e26_64, e26_66, e26_69, e26_70, e26_72, e26_73, e26_76, e26_78, e26_79, e26_82, e26_84, e26_85, e26_86, e26_87, e26_90, e26_92, e26_93, e26_94, e26_95, e26_97, e26_98, e26_99, e26_100, e26_102, e26_104, e26_105, e26_106, e26_107, e26_108, e26_109, e26_110, e26_113, e26_115, e26_117, e26_120, e26_121, e26_123, e26_126, e26_127, e26_128, e26_130, e26_131, e26_133, e26_134, e26_135, e26_136, e26_137, e26_140, e26_143, e26_144, e26_147, s1, s1_0, s1_1, s1_2, s1_3, s1_4, r1_0, r1_1, r1_2, r1_3, s2, s3, s4, s5, j1.1.2.1.1, cn, wo, oI, (eq_true rfl : ((-1 : Int32) = -1) = True), e3, am_bv_s, am_bw_s, eq_self, true_or, or_true, am_b0, am_b1, am_em, if_true, if_false, true_and, and_true, false_and, and_false, not_true_eq_false, not_false_eq_true, false_or, or_false, Bool.false_eq_true]
    rw [fin] at e1
    have eo : ∀ b, orE none b = b := fun _ => rfl
    rw [eo, ← e1]
    simp only [e26_0, e26_1, e26_3, e26_4, e26_7, e26_10, e26_11, e26_14, e26_15, e26_16, e26_17, e26_18, e26_21, e26_22, e26_25, e26_28, e26_29, e26_32, e26_33, e26_34, e26_35, e26_38, e26_39, e26_40, e26_41, e26_45, e26_46, e26_49, e26_52, e26_53, e26_56, e26_58, e26_59, e26_60, e26_62, e26_63, e26_64, e26_66, e26_69, e26_70, e26_72, e26_73, e26_76, e26_78, e26_79, e26_82, e26_84, e26_85, e26_86, e26_87, e26_90, e26_92, e26_93, e26_94, e26_95, e26_97, e26_98, e26_99, e26_100, e26_102, e26_104, e26_105, e26_106, e26_107, e26_108, e26_109, e26_110, e26_113, e26_115, e26_117, e26_120, e26_121, e26_123, e26_126, e26_127, e26_128, e26_130, e26_131, e26_133, e26_134, e26_135, e26_136, e26_137, e26_140, e26_143, e26_144, e26_147, am_bv_s, am_bw_s, eq_self, true_or, or_true, am_b0, am_b1, am_em, if_true, if_false, true_and, and_true, false_and, and_false, not_true_eq_false, not_false_eq_true, false_or, or_false, Bool.false_eq_true]
theorem x_next (hx : JX s M) (ho : okm s) (t : Int32) : ∃ M', am_e X 108 0 [some (.ref (0 : Nat)), some (.int t)] [] kS M = some (some (.int (sp_next s t)), kS, M') ∧ JX s M' ∧ am_of pX M M' := by
  have i1 := q_isTaker (X := X) (S := kS) (M := M) t
  unfold sp_next
  by_cases h1 : 0 ≤ t ∧ t ≤ 3
  · rw [am_bt h1] at i1
    rw [if_pos h1]
    obtain ⟨tn, htn, rfl⟩ := in_n (n := 3) h1 (by decide)
    rw [nI_clamp (n := tn) (by omega)]
    obtain ⟨M', r1, r2, r3⟩ := x_bandToAsk (X := X) hx ho (show tn < 4 by omega)
    refine ⟨M', ?_, r2, r3.mo fun a k q => by unfold pGa at q; unfold pX; omega⟩
    simp only [e108_0, e108_1, e108_4, e108_7, e108_9, e108_10, e108_11, e108_14, e108_15, e108_18, e108_19, e108_22, s0, s0_0, s0_1, s0_2, s0_3, s0_4, s0_5, s0_6, s0_7, r0_0, r0_1, r0_2, r0_3, r0_4, r0_5, r0_6, r0_7, s1, s1_0, s1_1, s1_2, s1_3, s1_4, r1_0, r1_1, r1_2, r1_3, s2, s3, s4, s5, s36, s36_0, s36_1, s36_2, r36_0, r36_1, r36_2, s37, s38, s39, s40, s41, s42, s43, s44, s45, s46, s47, s47_0, s47_1, i1, z10, z01, z1m, zm1, z0m, zm0, r1, am_bv_s, am_bw_s, eq_self, true_or, or_true, am_b0, am_b1, am_em, if_true, if_false, true_and, and_true, false_and, and_false, not_true_eq_false, not_false_eq_true, false_or, or_false, Bool.false_eq_true]
  · rw [am_bf h1] at i1
    rw [if_neg h1]
    refine ⟨M, ?_, hx, am_of.rf⟩
    simp only [e108_0, e108_1, e108_4, e108_7, e108_9, e108_10, e108_11, e108_14, e108_15, e108_18, e108_19, e108_22, i1, am_bv_s, am_bw_s, eq_self, true_or, or_true, am_b0, am_b1, am_em, if_true, if_false, true_and, and_true, false_and, and_false, not_true_eq_false, not_false_eq_true, false_or, or_false, Bool.false_eq_true]
end
