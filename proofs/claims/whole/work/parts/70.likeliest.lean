/-! likeliest, of both -/
/-- the weight of a known number, without the factor that is of no account -/
def wT (size n y g c j : Nat) : Nat := dW size n c j * (ch (n - j) (y - j) * g ^ (y - j) * 16 ^ j)
def wY (size n y g c : Nat) : Nat := sm (wT size n y g c) (y + 1)
def lik (w : Nat → Nat) : Nat → Nat
  | 0 => 0
  | k + 1 => if w (lik w k) < w (k + 1) then k + 1 else lik w k
theorem lik_le {w : Nat → Nat} : ∀ k, lik w k ≤ k
  | 0 => Nat.le_refl _
  | k + 1 => by
    have := lik_le (w := w) k
    rw [lik]
    split <;> omega
theorem dW_le {size n c j : Nat} (hs : size ≤ 99) (hc : c ≤ size) (hn : n ≤ 5) (hj : j ≤ n) : dW size n c j ≤ 99 ^ 5 := by
  have h := ch_mul c (size - c) j (n - j)
  rw [show c + (size - c) = size by omega, show j + (n - j) = n by omega] at h
  exact Nat.le_trans h (Nat.le_trans (ch_pw size n) (Nat.le_trans (Nat.pow_le_pow_left hs n) (Nat.pow_le_pow_right (by decide) hn)))
theorem wT_le {size n y g c j : Nat} (hs : size ≤ 99) (hc : c ≤ size) (hn : n ≤ 5) (hy : y ≤ n) (hg : g ≤ 15) (hj : j ≤ y) : wT size n y g c j * (16 - g) ^ (n - y) ≤ 99 ^ 5 * (2 ^ 5 * 16 ^ 5) := by
  unfold wT
  have h1 := dW_le (j := j) hs hc hn (by omega)
  have h2 : ch (n - j) (y - j) ≤ 2 ^ 5 := Nat.le_trans (ch_2 _ _) (Nat.pow_le_pow_right (by decide) (by omega))
  have h3 : g ^ (y - j) ≤ 16 ^ (y - j) := Nat.pow_le_pow_left (by omega) _
  have h4 : (16 - g) ^ (n - y) ≤ 16 ^ (n - y) := Nat.pow_le_pow_left (by omega) _
  have h5 : 16 ^ (y - j) * 16 ^ j * 16 ^ (n - y) ≤ 16 ^ 5 := by
    rw [← Nat.pow_add, ← Nat.pow_add]
    exact Nat.pow_le_pow_right (by decide) (by omega)
  calc dW size n c j * (ch (n - j) (y - j) * g ^ (y - j) * 16 ^ j) * (16 - g) ^ (n - y) = dW size n c j * (ch (n - j) (y - j) * (g ^ (y - j) * 16 ^ j * (16 - g) ^ (n - y))) := by ac_rfl
    _ ≤ 99 ^ 5 * (2 ^ 5 * (16 ^ (y - j) * 16 ^ j * 16 ^ (n - y))) := Nat.mul_le_mul h1 (Nat.mul_le_mul h2 (Nat.mul_le_mul (Nat.mul_le_mul_right _ h3) h4))
    _ ≤ 99 ^ 5 * (2 ^ 5 * 16 ^ 5) := Nat.mul_le_mul_left _ (Nat.mul_le_mul_left _ h5)
theorem sm_mul {f : Nat → Nat} {K : Nat} : ∀ n, sm f n * K = sm (fun i => f i * K) n
  | 0 => Nat.zero_mul _
  | n + 1 => by rw [sm, sm, Nat.add_mul, sm_mul n]
theorem wY_le {size n y g c : Nat} (hs : size ≤ 99) (hc : c ≤ size) (hn : n ≤ 5) (hy : y ≤ n) (hg : g ≤ 15) : wY size n y g c * (16 - g) ^ (n - y) < 2 ^ 63 := by
  unfold wY
  rw [sm_mul]
  have h := sm_le (f := fun i => wT size n y g c i * (16 - g) ^ (n - y)) (b := 99 ^ 5 * (2 ^ 5 * 16 ^ 5)) (y + 1) (fun i hi => wT_le hs hc hn hy hg (by omega))
  have h2 : (y + 1) * (99 ^ 5 * (2 ^ 5 * 16 ^ 5)) ≤ 6 * (99 ^ 5 * (2 ^ 5 * 16 ^ 5)) := Nat.mul_le_mul_right _ (by omega)
  exact Nat.lt_of_le_of_lt (Nat.le_trans h h2) (by decide)
section
variable {X : am_X} {S : am_Sh} {M M' : am_Me} {P : Nat → Nat → Prop} {s : sgm}
theorem q_power {b e : Nat} (he : e < 2 ^ 31) : am_e X 19 0 [some (.long (lI b)), none, some (.int (nI e)), none, none, none] [] S M = some (some (.long (lI (b ^ e))), S, M) := by
  obtain ⟨M', e1, rfl⟩ := am_lp (X := X) (S := S) (mi := 19) (pc := 5) e (fun i => [some (.long (lI b)), none, some (.int (nI e)), some (.long (lI (b ^ i))), none, some (.int (nI i))])
    (fun i M' => M' = M) (M := M) rfl (by
      intro j M2 hj hI
      subst hI
      have c1 : (nI j < nI e) = True := eq_true (nI_lt hj he)
      have em : b ^ j * b = b ^ (j + 1) := (Nat.pow_succ _ _).symm
      refine ⟨M2, ?_, rfl⟩
      rw [e19_5]
      simp only [e19_0, e19_1, e19_2, e19_3, e19_7, e19_8, e19_11, e19_12, e19_13, e19_14, e19_15, e19_18, e19_21, e19_22, c1, lI_mul, em, nI_1, am_bv_s, am_bw_s, eq_self, true_or, or_true, am_b0, am_b1, am_em, if_true, if_false, true_and, and_true, false_and, and_false, not_true_eq_false, not_false_eq_true, false_or, or_false, Bool.false_eq_true])
  have c1 : (nI e < nI e) = False := eq_false (nI_nlt (Nat.le_refl _) he)
  have fin : am_e X 19 5 [some (.long (lI b)), none, some (.int (nI e)), some (.long (lI (b ^ e))), none, some (.int (nI e))] [] S M' = some (some (.long (lI (b ^ e))), S, M') := by
    rw [e19_5]
    simp only [e19_0, e19_1, e19_2, e19_3, e19_7, e19_8, e19_11, e19_12, e19_13, e19_14, e19_15, e19_18, e19_21, e19_22, c1, am_bv_s, am_bw_s, eq_self, true_or, or_true, am_b0, am_b1, am_em, if_true, if_false, true_and, and_true, false_and, and_false, not_true_eq_false, not_false_eq_true, false_or, or_false, Bool.false_eq_true]
  rw [fin, nI_0, Nat.pow_zero, lI_1] at e1
  rw [← e1]
  simp only [e19_0, e19_1, e19_2, e19_3, e19_7, e19_8, e19_11, e19_12, e19_13, e19_14, e19_15, e19_18, e19_21, e19_22, am_bv_s, am_bw_s, eq_self, true_or, or_true, am_b0, am_b1, am_em, if_true, if_false, true_and, and_true, false_and, and_false, not_true_eq_false, not_false_eq_true, false_or, or_false, Bool.false_eq_true]
theorem m_power {b e : Nat} (hb : b < 2 ^ 31) (he : e < 2 ^ 31) : am_e X 154 0 [some (.int (nI b)), some (.int (nI e)), none, none, none] [] S M = some (some (.long (lI (b ^ e))), S, M) := by
  have lb := lI_w hb
  obtain ⟨M', e1, rfl⟩ := am_lp (X := X) (S := S) (mi := 154) (pc := 5) e (fun i => [some (.int (nI b)), some (.int (nI e)), some (.long (lI (b ^ i))), none, some (.int (nI i))])
    (fun i M' => M' = M) (M := M) rfl (by
      intro j M2 hj hI
      subst hI
      have c1 : (nI j < nI e) = True := eq_true (nI_lt hj he)
      have em : b ^ j * b = b ^ (j + 1) := (Nat.pow_succ _ _).symm
      refine ⟨M2, ?_, rfl⟩
      rw [e154_5]
      simp only [e154_0, e154_1, e154_2, e154_3, e154_7, e154_8, e154_11, e154_12, e154_13, e154_14, e154_15, e154_16, e154_19, e154_22, e154_23, c1, lb, lI_mul, em, nI_1, am_bv_s, am_bw_s, eq_self, true_or, or_true, am_b0, am_b1, am_em, if_true, if_false, true_and, and_true, false_and, and_false, not_true_eq_false, not_false_eq_true, false_or, or_false, Bool.false_eq_true])
  have c1 : (nI e < nI e) = False := eq_false (nI_nlt (Nat.le_refl _) he)
  have fin : am_e X 154 5 [some (.int (nI b)), some (.int (nI e)), some (.long (lI (b ^ e))), none, some (.int (nI e))] [] S M' = some (some (.long (lI (b ^ e))), S, M') := by
    rw [e154_5]
    simp only [e154_0, e154_1, e154_2, e154_3, e154_7, e154_8, e154_11, e154_12, e154_13, e154_14, e154_15, e154_16, e154_19, e154_22, e154_23, c1, am_bv_s, am_bw_s, eq_self, true_or, or_true, am_b0, am_b1, am_em, if_true, if_false, true_and, and_true, false_and, and_false, not_true_eq_false, not_false_eq_true, false_or, or_false, Bool.false_eq_true]
  rw [fin, nI_0, Nat.pow_zero, lI_1] at e1
  rw [← e1]
  simp only [e154_0, e154_1, e154_2, e154_3, e154_7, e154_8, e154_11, e154_12, e154_13, e154_14, e154_15, e154_16, e154_19, e154_22, e154_23, am_bv_s, am_bw_s, eq_self, true_or, or_true, am_b0, am_b1, am_em, if_true, if_false, true_and, and_true, false_and, and_false, not_true_eq_false, not_false_eq_true, false_or, or_false, Bool.false_eq_true]
theorem q_weight {size n y g c : Nat} (hx : xC M) (hs : size ≤ 99) (hc : c ≤ size) (hn : n ≤ 5) (hy : y ≤ n) (hg : g ≤ 15) : am_e X 18 0 [some (.ref (48 : Nat)), some (.int (nI size)), some (.int (nI c)), some (.int (nI n)), some (.int (nI y)), some (.int (nI g)), none, none, none, none, none] [] kS M = some (some (.long (lI (wY size n y g c))), kS, M) := by
  have lg := lI_w (n := g) (by omega)
  have l16 : (16 : Int64) = lI 16 := rfl
  obtain ⟨M', e1, rfl⟩ := am_lp (X := X) (S := kS) (mi := 18) (pc := 6) (y + 1) (fun i => [some (.ref (48 : Nat)), some (.int (nI size)), some (.int (nI c)), some (.int (nI n)), some (.int (nI y)), some (.int (nI g)), some (.long (lI (sm (wT size n y g c) i))), none, some (.int (nI i)), none, none])
    (fun i M' => M' = M) (M := M) rfl (by
      intro j M2 hj hI
      subst hI
      have c1 : (nI y < nI j) = False := eq_false (nI_nlt (by omega) (by omega))
      have d1 : nI n - nI j = nI (n - j) := pk_sub (by omega)
      have d2 : nI y - nI j = nI (y - j) := pk_sub (by omega)
      have cs := q_choose (X := X) hx (show n - j ≤ 99 by omega) (show y - j ≤ 8 by omega)
      have p1 := q_power (X := X) (S := kS) (M := M2) (b := g) (e := y - j) (by omega)
      have p2 := q_power (X := X) (S := kS) (M := M2) (b := 16) (e := j) (by omega)
      have dw := q_drawWays (X := X) (k := j) hx hs hc (show n ≤ 8 by omega) (by omega)
      have es : lI (sm (wT size n y g c) j) + lI (dW size n c j * (ch (n - j) (y - j) * g ^ (y - j) * 16 ^ j)) = lI (sm (wT size n y g c) (j + 1)) := lI_add
      refine ⟨M2, ?_, rfl⟩
      rw [e18_6]
      simp only [e18_0, e18_1, e18_3, e18_4, e18_8, e18_10, e18_13, e18_14, e18_15, e18_17, e18_18, e18_20, e18_22, e18_23, e18_26, e18_28, e18_29, e18_31, e18_33, e18_34, e18_37, e18_38, e18_41, e18_43, e18_46, e18_47, e18_49, e18_51, e18_52, e18_53, e18_54, e18_55, e18_57, e18_60, e18_62, e18_63, e18_64, e18_66, e18_69, e18_72, e18_74, s48, s48_0, r48_0, s49, c1, d1, d2, cs, lg, l16, p1, p2, dw, lI_mul, es, nI_1, am_bv_s, am_bw_s, eq_self, true_or, or_true, am_b0, am_b1, am_em, if_true, if_false, true_and, and_true, false_and, and_false, not_true_eq_false, not_false_eq_true, false_or, or_false, Bool.false_eq_true])
  have c1 : (nI y < nI (y + 1)) = True := eq_true (nI_lt (by omega) (by omega))
  have fin : am_e X 18 6 [some (.ref (48 : Nat)), some (.int (nI size)), some (.int (nI c)), some (.int (nI n)), some (.int (nI y)), some (.int (nI g)), some (.long (lI (sm (wT size n y g c) (y + 1)))), none, some (.int (nI (y + 1))), none, none] [] kS M' = some (some (.long (lI (wY size n y g c))), kS, M') := by
    rw [e18_6]
    simp only [e18_0, e18_1, e18_3, e18_4, e18_8, e18_10, e18_13, e18_14, e18_15, e18_17, e18_18, e18_20, e18_22, e18_23, e18_26, e18_28, e18_29, e18_31, e18_33, e18_34, e18_37, e18_38, e18_41, e18_43, e18_46, e18_47, e18_49, e18_51, e18_52, e18_53, e18_54, e18_55, e18_57, e18_60, e18_62, e18_63, e18_64, e18_66, e18_69, e18_72, e18_74, c1, am_bv_s, am_bw_s, eq_self, true_or, or_true, am_b0, am_b1, am_em, if_true, if_false, true_and, and_true, false_and, and_false, not_true_eq_false, not_false_eq_true, false_or, or_false, Bool.false_eq_true]
    rfl
  rw [fin, nI_0] at e1
  rw [← e1]
  simp only [e18_0, e18_1, e18_3, e18_4, e18_8, e18_10, e18_13, e18_14, e18_15, e18_17, e18_18, e18_20, e18_22, e18_23, e18_26, e18_28, e18_29, e18_31, e18_33, e18_34, e18_37, e18_38, e18_41, e18_43, e18_46, e18_47, e18_49, e18_51, e18_52, e18_53, e18_54, e18_55, e18_57, e18_60, e18_62, e18_63, e18_64, e18_66, e18_69, e18_72, e18_74, am_bv_s, am_bw_s, eq_self, true_or, or_true, am_b0, am_b1, am_em, if_true, if_false, true_and, and_true, false_and, and_false, not_true_eq_false, not_false_eq_true, false_or, or_false, Bool.false_eq_true]
  rfl
theorem q_likeliestKnown {size n y g : Nat} (hx : xC M) (hs : size ≤ 99) (hn : n ≤ 5) (hy : y ≤ n) (hg : g ≤ 15) : am_e X 17 0 [some (.ref (48 : Nat)), some (.int (nI size)), some (.int (nI n)), some (.int (nI y)), some (.int (nI g)), none, none, none, none, none, none] [] kS M = some (some (.int (nI (lik (wY size n y g) size))), kS, M) := by
  have wb : ∀ c, c ≤ size → wY size n y g c < 2 ^ 63 := fun c hc => by
    have h := wY_le hs hc hn hy hg
    have p : 0 < (16 - g) ^ (n - y) := Nat.pow_pos (by omega)
    exact Nat.lt_of_le_of_lt (Nat.le_mul_of_pos_right _ p) h
  obtain ⟨M', e1, rfl⟩ := am_lp (X := X) (S := kS) (mi := 17) (pc := 11) size (fun i => [some (.ref (48 : Nat)), some (.int (nI size)), some (.int (nI n)), some (.int (nI y)), some (.int (nI g)), some (.int (nI (lik (wY size n y g) i))), some (.long (lI (wY size n y g (lik (wY size n y g) i)))), none, some (.int (nI (i + 1))), none, none])
    (fun i M' => M' = M) (M := M) rfl (by
      intro j M2 hj hI
      subst hI
      have c1 : (nI size < nI (j + 1)) = False := eq_false (nI_nlt (by omega) (by omega))
      have ww := q_weight (X := X) (c := j + 1) hx hs (by omega) hn hy hg
      have ll := lik_le (w := wY size n y g) j
      have c2 := lI_lt (wb (lik (wY size n y g) j) (by omega)) (wb (j + 1) (by omega))
      refine ⟨M2, ?_, rfl⟩
      by_cases h : wY size n y g (lik (wY size n y g) j) < wY size n y g (j + 1)
      · have e : lik (wY size n y g) (j + 1) = j + 1 := by rw [lik, if_pos h]
        rw [e, e17_11]
        simp only [e17_0, e17_1, e17_3, e17_6, e17_8, e17_9, e17_13, e17_14, e17_17, e17_18, e17_19, e17_21, e17_22, e17_23, e17_25, e17_28, e17_30, e17_32, e17_34, e17_35, e17_38, e17_40, e17_42, e17_44, e17_46, e17_49, e17_52, e17_54, s48, s48_0, r48_0, s49, c1, ww, lc_gt, c2, h, nI_1, am_bv_s, am_bw_s, eq_self, true_or, or_true, am_b0, am_b1, am_em, if_true, if_false, true_and, and_true, false_and, and_false, not_true_eq_false, not_false_eq_true, false_or, or_false, Bool.false_eq_true]
      · have e : lik (wY size n y g) (j + 1) = lik (wY size n y g) j := by rw [lik, if_neg h]
        rw [e, e17_11]
        simp only [e17_0, e17_1, e17_3, e17_6, e17_8, e17_9, e17_13, e17_14, e17_17, e17_18, e17_19, e17_21, e17_22, e17_23, e17_25, e17_28, e17_30, e17_32, e17_34, e17_35, e17_38, e17_40, e17_42, e17_44, e17_46, e17_49, e17_52, e17_54, s48, s48_0, r48_0, s49, c1, ww, lc_gt, c2, h, nI_1, am_bv_s, am_bw_s, eq_self, true_or, or_true, am_b0, am_b1, am_em, if_true, if_false, true_and, and_true, false_and, and_false, not_true_eq_false, not_false_eq_true, false_or, or_false, Bool.false_eq_true])
  have c1 : (nI size < nI (size + 1)) = True := eq_true (nI_lt (by omega) (by omega))
  have fin : am_e X 17 11 [some (.ref (48 : Nat)), some (.int (nI size)), some (.int (nI n)), some (.int (nI y)), some (.int (nI g)), some (.int (nI (lik (wY size n y g) size))), some (.long (lI (wY size n y g (lik (wY size n y g) size)))), none, some (.int (nI (size + 1))), none, none] [] kS M' = some (some (.int (nI (lik (wY size n y g) size))), kS, M') := by
    rw [e17_11]
    simp only [e17_0, e17_1, e17_3, e17_6, e17_8, e17_9, e17_13, e17_14, e17_17, e17_18, e17_19, e17_21, e17_22, e17_23, e17_25, e17_28, e17_30, e17_32, e17_34, e17_35, e17_38, e17_40, e17_42, e17_44, e17_46, e17_49, e17_52, e17_54, c1, am_bv_s, am_bw_s, eq_self, true_or, or_true, am_b0, am_b1, am_em, if_true, if_false, true_and, and_true, false_and, and_false, not_true_eq_false, not_false_eq_true, false_or, or_false, Bool.false_eq_true]
  rw [fin] at e1
  have c0 : (nI size < nI 0) = False := eq_false (nI_nlt (by omega) (by omega))
  have w0 := q_weight (X := X) (c := 0) hx hs (by omega) hn hy hg
  have cm : ((-1 : Int64) < lI (wY size n y g 0)) = True := eq_true (by
    rw [Int64.lt_iff_toInt_lt, lI_toInt (wb 0 (by omega)), show (-1 : Int64).toInt = -1 from by decide]
    omega)
  have st : am_e X 17 11 [some (.ref (48 : Nat)), some (.int (nI size)), some (.int (nI n)), some (.int (nI y)), some (.int (nI g)), some (.int 0), some (.long (-1)), none, some (.int (nI 0)), none, none] [] kS M' = some (some (.int (nI (lik (wY size n y g) size))), kS, M') := by
    rw [← e1, e17_11]
    simp only [e17_0, e17_1, e17_3, e17_6, e17_8, e17_9, e17_13, e17_14, e17_17, e17_18, e17_19, e17_21, e17_22, e17_23, e17_25, e17_28, e17_30, e17_32, e17_34, e17_35, e17_38, e17_40, e17_42, e17_44, e17_46, e17_49, e17_52, e17_54, s48, s48_0, r48_0, s49, c0, w0, lc_gt, cm, nI_1, am_bv_s, am_bw_s, eq_self, true_or, or_true, am_b0, am_b1, am_em, if_true, if_false, true_and, and_true, false_and, and_false, not_true_eq_false, not_false_eq_true, false_or, or_false, Bool.false_eq_true]
    rfl
  rw [← st]
  simp only [e17_0, e17_1, e17_3, e17_6, e17_8, e17_9, e17_13, e17_14, e17_17, e17_18, e17_19, e17_21, e17_22, e17_23, e17_25, e17_28, e17_30, e17_32, e17_34, e17_35, e17_38, e17_40, e17_42, e17_44, e17_46, e17_49, e17_52, e17_54, nI_0, am_bv_s, am_bw_s, eq_self, true_or, or_true, am_b0, am_b1, am_em, if_true, if_false, true_and, and_true, false_and, and_false, not_true_eq_false, not_false_eq_true, false_or, or_false, Bool.false_eq_true]
theorem m_weight {size n y g c : Nat} (hs : size ≤ 99) (hc : c ≤ size) (hn : n ≤ 5) (hy : y ≤ n) (hg : g ≤ 15) : am_e X 186 0 [some (.int (nI size)), some (.int (nI c)), some (.int (nI n)), some (.int (nI y)), some (.int (nI g)), none, none, none, none, none] [] S M = some (some (.long (lI (wY size n y g c * (16 - g) ^ (n - y)))), S, M) := by
  obtain ⟨M', e1, rfl⟩ := am_lp (X := X) (S := S) (mi := 186) (pc := 6) (y + 1) (fun i => [some (.int (nI size)), some (.int (nI c)), some (.int (nI n)), some (.int (nI y)), some (.int (nI g)), some (.long (lI (sm (wT size n y g c) i * (16 - g) ^ (n - y)))), none, some (.int (nI i)), none, none])
    (fun i M' => M' = M) (M := M) rfl (by
      intro j M2 hj hI
      subst hI
      have c1 : (nI y < nI j) = False := eq_false (nI_nlt (by omega) (by omega))
      have d0 : nI size - nI c = nI (size - c) := pk_sub hc
      have d1 : nI n - nI j = nI (n - j) := pk_sub (by omega)
      have d2 : nI y - nI j = nI (y - j) := pk_sub (by omega)
      have d3 : nI n - nI y = nI (n - y) := pk_sub hy
      have d4 : (16 : Int32) - nI g = nI (16 - g) := pk_sub (a := 16) (by omega)
      have o1 := m_over8 (X := X) (S := S) (M := M2) (c := c) (k := j) (by omega) (by omega)
      have o2 := m_over8 (X := X) (S := S) (M := M2) (c := size - c) (k := n - j) (by omega) (by omega)
      have o3 := m_over8 (X := X) (S := S) (M := M2) (c := n - j) (k := y - j) (by omega) (by omega)
      have p1 := m_power (X := X) (S := S) (M := M2) (b := g) (e := y - j) (by omega) (by omega)
      have p2 := m_power (X := X) (S := S) (M := M2) (b := 16) (e := j) (by decide) (by omega)
      have p3 := m_power (X := X) (S := S) (M := M2) (b := 16 - g) (e := n - y) (by omega) (by omega)
      have n16 : (16 : Int32) = nI 16 := rfl
      rw [← n16] at p2
      have es : lI (sm (wT size n y g c) j * (16 - g) ^ (n - y)) + lI (ch c j * ch (size - c) (n - j) * ch (n - j) (y - j) * g ^ (y - j) * (16 - g) ^ (n - y) * 16 ^ j) = lI (sm (wT size n y g c) (j + 1) * (16 - g) ^ (n - y)) := by
        rw [lI_add, sm, Nat.add_mul]
        unfold wT dW
        congr 2
        ac_rfl
      refine ⟨M2, ?_, rfl⟩
      rw [e186_6]
      simp only [e186_0, e186_1, e186_3, e186_4, e186_8, e186_9, e186_12, e186_13, e186_15, e186_18, e186_19, e186_20, e186_21, e186_22, e186_24, e186_25, e186_28, e186_29, e186_31, e186_33, e186_35, e186_36, e186_38, e186_39, e186_40, e186_42, e186_43, e186_46, e186_47, e186_49, e186_50, e186_52, e186_53, e186_56, e186_57, e186_59, e186_61, e186_62, e186_63, e186_64, e186_65, e186_68, e186_69, e186_71, e186_73, e186_76, e186_77, e186_78, e186_80, e186_83, e186_86, e186_88, c1, d0, d1, d2, d3, d4, o1, o2, o3, p1, p2, p3, lI_mul, es, nI_1, am_bv_s, am_bw_s, eq_self, true_or, or_true, am_b0, am_b1, am_em, if_true, if_false, true_and, and_true, false_and, and_false, not_true_eq_false, not_false_eq_true, false_or, or_false, Bool.false_eq_true])
  have c1 : (nI y < nI (y + 1)) = True := eq_true (nI_lt (by omega) (by omega))
  have fin : am_e X 186 6 [some (.int (nI size)), some (.int (nI c)), some (.int (nI n)), some (.int (nI y)), some (.int (nI g)), some (.long (lI (sm (wT size n y g c) (y + 1) * (16 - g) ^ (n - y)))), none, some (.int (nI (y + 1))), none, none] [] S M' = some (some (.long (lI (wY size n y g c * (16 - g) ^ (n - y)))), S, M') := by
    rw [e186_6]
    simp only [e186_0, e186_1, e186_3, e186_4, e186_8, e186_9, e186_12, e186_13, e186_15, e186_18, e186_19, e186_20, e186_21, e186_22, e186_24, e186_25, e186_28, e186_29, e186_31, e186_33, e186_35, e186_36, e186_38, e186_39, e186_40, e186_42, e186_43, e186_46, e186_47, e186_49, e186_50, e186_52, e186_53, e186_56, e186_57, e186_59, e186_61, e186_62, e186_63, e186_64, e186_65, e186_68, e186_69, e186_71, e186_73, e186_76, e186_77, e186_78, e186_80, e186_83, e186_86, e186_88, c1, am_bv_s, am_bw_s, eq_self, true_or, or_true, am_b0, am_b1, am_em, if_true, if_false, true_and, and_true, false_and, and_false, not_true_eq_false, not_false_eq_true, false_or, or_false, Bool.false_eq_true]
    rfl
  have z0 : sm (wT size n y g c) 0 * (16 - g) ^ (n - y) = 0 := Nat.zero_mul _
  rw [fin, z0, nI_0, lI_0] at e1
  rw [← e1]
  simp only [e186_0, e186_1, e186_3, e186_4, e186_8, e186_9, e186_12, e186_13, e186_15, e186_18, e186_19, e186_20, e186_21, e186_22, e186_24, e186_25, e186_28, e186_29, e186_31, e186_33, e186_35, e186_36, e186_38, e186_39, e186_40, e186_42, e186_43, e186_46, e186_47, e186_49, e186_50, e186_52, e186_53, e186_56, e186_57, e186_59, e186_61, e186_62, e186_63, e186_64, e186_65, e186_68, e186_69, e186_71, e186_73, e186_76, e186_77, e186_78, e186_80, e186_83, e186_86, e186_88, am_bv_s, am_bw_s, eq_self, true_or, or_true, am_b0, am_b1, am_em, if_true, if_false, true_and, and_true, false_and, and_false, not_true_eq_false, not_false_eq_true, false_or, or_false, Bool.false_eq_true]
def sp_likeliest (s : sgm) (t b g : Int32) : Int32 := if ((0 ≤ t ∧ t ≤ 3) ∧ (0 ≤ b ∧ b ≤ nI s.2.1.1 - 1)) ∧ (0 ≤ g ∧ g ≤ 15) then (if sAs s.2.1.1 s.2.2.2.1 s.2.2.2.2 t.toNatClampNeg b.toNatClampNeg = 0 then -3 else if 5 < sAs s.2.1.1 s.2.2.2.1 s.2.2.2.2 t.toNatClampNeg b.toNatClampNeg ∨ s.2.1.2 b.toNatClampNeg < sAs s.2.1.1 s.2.2.2.1 s.2.2.2.2 t.toNatClampNeg b.toNatClampNeg then -4 else nI (lik (wY (s.2.1.2 b.toNatClampNeg) (sAs s.2.1.1 s.2.2.2.1 s.2.2.2.2 t.toNatClampNeg b.toNatClampNeg) (sYe s.2.1.1 s.2.2.2.1 s.2.2.2.2 t.toNatClampNeg b.toNatClampNeg) g.toNatClampNeg) (s.2.1.2 b.toNatClampNeg))) else -2
theorem x_likeliest (hx : JX s M) (ho : okm s) (t b g : Int32) : am_e X 104 0 [some (.ref (0 : Nat)), some (.int t), some (.int b), some (.int g), none, none] [] kS M = some (some (.int (sp_likeliest s t b g)), kS, M) := by
  have i1 := q_isTaker (X := X) (S := kS) (M := M) t
  have i2 := x_isBand (X := X) (M := M) hx.1.2.1 b
  have i3 := q_isIn (X := X) (S := kS) (M := M) g 0 15
  have d6 := ho.2.1.1
  unfold sp_likeliest
  by_cases h1 : 0 ≤ t ∧ t ≤ 3
  · rw [am_bt h1] at i1
    by_cases h2 : 0 ≤ b ∧ b ≤ nI s.2.1.1 - 1
    · rw [am_bt h2] at i2
      by_cases h3 : 0 ≤ g ∧ g ≤ 15
      · rw [am_bt h3] at i3
        rw [if_pos ⟨⟨h1, h2⟩, h3⟩]
        obtain ⟨tn, htn, rfl⟩ := in_n (n := 3) h1 (by decide)
        obtain ⟨bn, hbn, rfl⟩ := (pred_le (by omega)).mp h2
        obtain ⟨gn, hgn, rfl⟩ := in_n (n := 15) h3 (by decide)
        have cb : (nI bn).toNatClampNeg = bn := nI_clamp (by omega)
        rw [nI_clamp (n := tn) (by omega), cb, nI_clamp (n := gn) (by omega)]
        have qa := q_askedOf (X := X) hx.2.2 (show tn < 4 by omega) (show bn < 7 by omega)
        have qy := q_yesesOf (X := X) hx.2.2 (show tn < 4 by omega) (show bn < 7 by omega)
        have sz := hx.1.2.1.2 bn hbn
        have s99 := ho.2.1.2 bn hbn
        have h40 := sAs_le d6 (l := s.2.2.2.1) (A := s.2.2.2.2) (t := tn) (k := bn)
        have hy := sYe_le (nb := s.2.1.1) (l := s.2.2.2.1) (A := s.2.2.2.2) (t := tn) (k := bn)
        have xc := hx.1.2.2.2.2.2.2
        generalize sAs s.2.1.1 s.2.2.2.1 s.2.2.2.2 tn bn = n at *
        generalize sYe s.2.1.1 s.2.2.2.1 s.2.2.2.2 tn bn = y at *
        generalize s.2.1.2 bn = size at *
        have c0 : (nI n = 0) = (n = 0) := nI_0e (by omega)
        have c8 : (5 < nI n) = (5 < n) := ok_lt (x := 5) (by decide) (by omega)
        have cz : (nI size < nI n) = (size < n) := ok_lt (by omega) (by omega)
        by_cases h5 : n = 0
        · rw [if_pos h5]
          simp only [e104_0, e104_1, e104_4, e104_7, e104_8, e104_9, e104_12, e104_15, e104_16, e104_17, e104_19, e104_22, e104_25, e104_27, e104_28, e104_29, e104_32, e104_33, e104_34, e104_37, e104_39, e104_40, e104_43, e104_44, e104_47, e104_49, e104_51, e104_54, e104_56, e104_57, e104_59, e104_60, e104_63, e104_65, e104_67, e104_70, e104_72, e104_73, e104_74, e104_77, e104_79, e104_81, e104_82, e104_85, e104_86, e104_87, e104_90, e104_91, e104_94, e23_0, e23_1, e23_4, e23_5, e23_6, s0, s0_0, s0_1, s0_2, s0_3, s0_4, s0_5, s0_6, s0_7, r0_0, r0_1, r0_2, r0_3, r0_4, r0_5, r0_6, r0_7, s1, s1_0, s1_1, s1_2, s1_3, s1_4, r1_0, r1_1, r1_2, r1_3, s2, s3, s4, s5, s36, s36_0, s36_1, s36_2, r36_0, r36_1, r36_2, s37, s38, s39, s40, s41, s42, s43, s44, s45, s46, s47, s47_0, s47_1, i1, i2, i3, z10, z01, z1m, zm1, z0m, zm0, qa, cb, sz, c0, h5, (eq_true rfl : (nI 0 = 0) = True), a2 (show bn < 6 by omega), am_bv_s, am_bw_s, eq_self, true_or, or_true, am_b0, am_b1, am_em, if_true, if_false, true_and, and_true, false_and, and_false, not_true_eq_false, not_false_eq_true, false_or, or_false, Bool.false_eq_true]
        · rw [if_neg h5]
          by_cases h6 : 5 < n
          · rw [if_pos (Or.inl h6)]
            simp only [e104_0, e104_1, e104_4, e104_7, e104_8, e104_9, e104_12, e104_15, e104_16, e104_17, e104_19, e104_22, e104_25, e104_27, e104_28, e104_29, e104_32, e104_33, e104_34, e104_37, e104_39, e104_40, e104_43, e104_44, e104_47, e104_49, e104_51, e104_54, e104_56, e104_57, e104_59, e104_60, e104_63, e104_65, e104_67, e104_70, e104_72, e104_73, e104_74, e104_77, e104_79, e104_81, e104_82, e104_85, e104_86, e104_87, e104_90, e104_91, e104_94, e23_0, e23_1, e23_4, e23_5, e23_6, s0, s0_0, s0_1, s0_2, s0_3, s0_4, s0_5, s0_6, s0_7, r0_0, r0_1, r0_2, r0_3, r0_4, r0_5, r0_6, r0_7, s1, s1_0, s1_1, s1_2, s1_3, s1_4, r1_0, r1_1, r1_2, r1_3, s2, s3, s4, s5, s36, s36_0, s36_1, s36_2, r36_0, r36_1, r36_2, s37, s38, s39, s40, s41, s42, s43, s44, s45, s46, s47, s47_0, s47_1, i1, i2, i3, z10, z01, z1m, zm1, z0m, zm0, qa, cb, sz, c0, h5, c8, h6, a2 (show bn < 6 by omega), am_bv_s, am_bw_s, eq_self, true_or, or_true, am_b0, am_b1, am_em, if_true, if_false, true_and, and_true, false_and, and_false, not_true_eq_false, not_false_eq_true, false_or, or_false, Bool.false_eq_true]
          · by_cases h7 : size < n
            · rw [if_pos (Or.inr h7)]
              simp only [e104_0, e104_1, e104_4, e104_7, e104_8, e104_9, e104_12, e104_15, e104_16, e104_17, e104_19, e104_22, e104_25, e104_27, e104_28, e104_29, e104_32, e104_33, e104_34, e104_37, e104_39, e104_40, e104_43, e104_44, e104_47, e104_49, e104_51, e104_54, e104_56, e104_57, e104_59, e104_60, e104_63, e104_65, e104_67, e104_70, e104_72, e104_73, e104_74, e104_77, e104_79, e104_81, e104_82, e104_85, e104_86, e104_87, e104_90, e104_91, e104_94, e23_0, e23_1, e23_4, e23_5, e23_6, s0, s0_0, s0_1, s0_2, s0_3, s0_4, s0_5, s0_6, s0_7, r0_0, r0_1, r0_2, r0_3, r0_4, r0_5, r0_6, r0_7, s1, s1_0, s1_1, s1_2, s1_3, s1_4, r1_0, r1_1, r1_2, r1_3, s2, s3, s4, s5, s36, s36_0, s36_1, s36_2, r36_0, r36_1, r36_2, s37, s38, s39, s40, s41, s42, s43, s44, s45, s46, s47, s47_0, s47_1, i1, i2, i3, z10, z01, z1m, zm1, z0m, zm0, qa, cb, sz, c0, h5, c8, h6, cz, h7, a2 (show bn < 6 by omega), am_bv_s, am_bw_s, eq_self, true_or, or_true, am_b0, am_b1, am_em, if_true, if_false, true_and, and_true, false_and, and_false, not_true_eq_false, not_false_eq_true, false_or, or_false, Bool.false_eq_true]
            · rw [if_neg (by omega)]
              have lk := q_likeliestKnown (X := X) (size := size) (n := n) (y := y) (g := gn) xc (by omega) (by omega) hy hgn
              simp only [e104_0, e104_1, e104_4, e104_7, e104_8, e104_9, e104_12, e104_15, e104_16, e104_17, e104_19, e104_22, e104_25, e104_27, e104_28, e104_29, e104_32, e104_33, e104_34, e104_37, e104_39, e104_40, e104_43, e104_44, e104_47, e104_49, e104_51, e104_54, e104_56, e104_57, e104_59, e104_60, e104_63, e104_65, e104_67, e104_70, e104_72, e104_73, e104_74, e104_77, e104_79, e104_81, e104_82, e104_85, e104_86, e104_87, e104_90, e104_91, e104_94, e23_0, e23_1, e23_4, e23_5, e23_6, s0, s0_0, s0_1, s0_2, s0_3, s0_4, s0_5, s0_6, s0_7, r0_0, r0_1, r0_2, r0_3, r0_4, r0_5, r0_6, r0_7, s1, s1_0, s1_1, s1_2, s1_3, s1_4, r1_0, r1_1, r1_2, r1_3, s2, s3, s4, s5, s36, s36_0, s36_1, s36_2, r36_0, r36_1, r36_2, s37, s38, s39, s40, s41, s42, s43, s44, s45, s46, s47, s47_0, s47_1, s48, s48_0, r48_0, s49, i1, i2, i3, z10, z01, z1m, zm1, z0m, zm0, qa, qy, cb, sz, c0, h5, c8, h6, cz, h7, lk, a2 (show bn < 6 by omega), am_bv_s, am_bw_s, eq_self, true_or, or_true, am_b0, am_b1, am_em, if_true, if_false, true_and, and_true, false_and, and_false, not_true_eq_false, not_false_eq_true, false_or, or_false, Bool.false_eq_true]
      · rw [am_bf h3] at i3
        rw [if_neg (fun q => h3 q.2)]
        simp only [e104_0, e104_1, e104_4, e104_7, e104_8, e104_9, e104_12, e104_15, e104_16, e104_17, e104_19, e104_22, e104_25, e104_27, e104_28, e104_29, e104_32, e104_33, e104_34, e104_37, e104_39, e104_40, e104_43, e104_44, e104_47, e104_49, e104_51, e104_54, e104_56, e104_57, e104_59, e104_60, e104_63, e104_65, e104_67, e104_70, e104_72, e104_73, e104_74, e104_77, e104_79, e104_81, e104_82, e104_85, e104_86, e104_87, e104_90, e104_91, e104_94, s0, s0_0, s0_1, s0_2, s0_3, s0_4, s0_5, s0_6, s0_7, r0_0, r0_1, r0_2, r0_3, r0_4, r0_5, r0_6, r0_7, i1, i2, i3, z10, z01, z1m, zm1, z0m, zm0, am_bv_s, am_bw_s, eq_self, true_or, or_true, am_b0, am_b1, am_em, if_true, if_false, true_and, and_true, false_and, and_false, not_true_eq_false, not_false_eq_true, false_or, or_false, Bool.false_eq_true]
    · rw [am_bf h2] at i2
      rw [if_neg (fun q => h2 q.1.2)]
      simp only [e104_0, e104_1, e104_4, e104_7, e104_8, e104_9, e104_12, e104_15, e104_16, e104_17, e104_19, e104_22, e104_25, e104_27, e104_28, e104_29, e104_32, e104_33, e104_34, e104_37, e104_39, e104_40, e104_43, e104_44, e104_47, e104_49, e104_51, e104_54, e104_56, e104_57, e104_59, e104_60, e104_63, e104_65, e104_67, e104_70, e104_72, e104_73, e104_74, e104_77, e104_79, e104_81, e104_82, e104_85, e104_86, e104_87, e104_90, e104_91, e104_94, s0, s0_0, s0_1, s0_2, s0_3, s0_4, s0_5, s0_6, s0_7, r0_0, r0_1, r0_2, r0_3, r0_4, r0_5, r0_6, r0_7, i1, i2, z10, z01, z1m, zm1, z0m, zm0, am_bv_s, am_bw_s, eq_self, true_or, or_true, am_b0, am_b1, am_em, if_true, if_false, true_and, and_true, false_and, and_false, not_true_eq_false, not_false_eq_true, false_or, or_false, Bool.false_eq_true]
  · rw [am_bf h1] at i1
    rw [if_neg (fun q => h1 q.1.1)]
    simp only [e104_0, e104_1, e104_4, e104_7, e104_8, e104_9, e104_12, e104_15, e104_16, e104_17, e104_19, e104_22, e104_25, e104_27, e104_28, e104_29, e104_32, e104_33, e104_34, e104_37, e104_39, e104_40, e104_43, e104_44, e104_47, e104_49, e104_51, e104_54, e104_56, e104_57, e104_59, e104_60, e104_63, e104_65, e104_67, e104_70, e104_72, e104_73, e104_74, e104_77, e104_79, e104_81, e104_82, e104_85, e104_86, e104_87, e104_90, e104_91, e104_94, s0, s0_0, s0_1, s0_2, s0_3, s0_4, s0_5, s0_6, s0_7, r0_0, r0_1, r0_2, r0_3, r0_4, r0_5, r0_6, r0_7, i1, z10, z01, z1m, zm1, z0m, zm0, am_bv_s, am_bw_s, eq_self, true_or, or_true, am_b0, am_b1, am_em, if_true, if_false, true_and, and_true, false_and, and_false, not_true_eq_false, not_false_eq_true, false_or, or_false, Bool.false_eq_true]
theorem m_likeliest (hx : JM s M) (ho : okm s) (t b g : Int32) : ∃ M', am_e X 187 0 [some (.ref (59 : Nat)), some (.int t), some (.int b), some (.int g), none, none, none, none, none] [] kS M = some (some (.int (sp_likeliest s t b g)), kS, M') ∧ JM s M' ∧ am_of pM M M' := by
  have i1 := m_isTaker (X := X) (S := kS) (M := M) t
  have i2 := m_isBand2 (X := X) (M := M) hx.2.1 b
  have i3 := q_in (X := X) (S := kS) (M := M) g 0 15 (by decide : (0 : Int32).toInt64 = 0) (by decide : (15 : Int32).toInt64 = 15)
  have d6 := ho.2.1.1
  have y52 := hx.2.2.2.2.2.1
  unfold sp_likeliest
  by_cases h1 : 0 ≤ t ∧ t ≤ 3
  · rw [am_bt h1] at i1
    by_cases h2 : 0 ≤ b ∧ b ≤ nI s.2.1.1 - 1
    · rw [am_bt h2] at i2
      by_cases h3 : 0 ≤ g ∧ g ≤ 15
      · rw [am_bt h3] at i3
        rw [if_pos ⟨⟨h1, h2⟩, h3⟩]
        obtain ⟨tn, htn, rfl⟩ := in_n (n := 3) h1 (by decide)
        obtain ⟨bn, hbn, rfl⟩ := (pred_le (by omega)).mp h2
        obtain ⟨gn, hgn, rfl⟩ := in_n (n := 15) h3 (by decide)
        have cb : (nI bn).toNatClampNeg = bn := nI_clamp (by omega)
        rw [nI_clamp (n := tn) (by omega), cb, nI_clamp (n := gn) (by omega)]
        obtain ⟨M1, r1, j1, of1⟩ := m_said (X := X) hx ho
        have qa := j1.as (X := X) ho (show tn < 4 by omega) (show bn < 7 by omega)
        have qy := j1.ye (X := X) ho (show tn < 4 by omega) (show bn < 7 by omega)
        have sz := j1.1.2.1.2 bn hbn
        have s99 := ho.2.1.2 bn hbn
        have h40 := sAs_le d6 (l := s.2.2.2.1) (A := s.2.2.2.2) (t := tn) (k := bn)
        have hy := sYe_le (nb := s.2.1.1) (l := s.2.2.2.1) (A := s.2.2.2.2) (t := tn) (k := bn)
        refine ⟨M1, ?_, j1.1, of1.mo fun a k q => by unfold pmS pmW at q; unfold pM; omega⟩
        generalize sAs s.2.1.1 s.2.2.2.1 s.2.2.2.2 tn bn = n at *
        generalize sYe s.2.1.1 s.2.2.2.1 s.2.2.2.2 tn bn = y at *
        generalize s.2.1.2 bn = size at *
        have c0 : (nI n = 0) = (n = 0) := nI_0e (by omega)
        have c8 : (5 < nI n) = (5 < n) := ok_lt (x := 5) (by decide) (by omega)
        have cz : (nI size < nI n) = (size < n) := ok_lt (by omega) (by omega)
        by_cases h5 : n = 0
        · rw [if_pos h5]
          simp only [e187_0, e187_1, e187_4, e187_7, e187_8, e187_9, e187_12, e187_15, e187_16, e187_17, e187_18, e187_21, e187_24, e187_27, e187_29, e187_30, e187_31, e187_32, e187_35, e187_38, e187_39, e187_40, e187_41, e187_42, e187_45, e187_47, e187_48, e187_49, e187_50, e187_51, e187_54, e187_56, e187_57, e187_60, e187_61, e187_62, e187_64, e187_66, e187_69, e187_71, e187_72, e187_74, e187_75, e187_78, e187_80, e187_82, e187_85, e187_87, e187_88, e187_89, e187_91, e187_92, e187_96, e187_98, e187_101, e187_103, e187_105, e187_107, e187_109, e187_110, e187_113, e187_115, e187_117, e187_119, e187_121, e187_122, e187_125, e187_126, e187_129, e187_131, e187_134, e187_136, e187_138, e187_141, e187_144, e187_146, s59, s59_0, s59_1, s59_2, s59_3, s59_4, s59_5, s59_6, s59_7, s59_8, s59_9, s59_10, s59_11, s59_12, s59_13, s59_14, s59_15, s59_16, s59_17, s59_18, s59_19, s59_20, s59_21, s59_22, s59_23, s59_24, s59_25, s59_26, s59_27, s59_28, s59_29, s59_30, s59_31, r59_0, r59_1, r59_2, r59_3, r59_6, r59_8, r59_9, r59_13, r59_15, r59_16, r59_17, r59_19, r59_22, r59_23, r59_26, r59_30, r59_31, s60, s61, s62, s63, s64, s65, s66, s67, s68, s69, s70, s71, s72, s73, s74, s75, s76, i1, i2, i3, z10, z01, z1m, zm1, z0m, zm0, y52, r1, qa, qy, cb, sz, c0, h5, (eq_true rfl : (nI 0 = 0) = True), a64 (show bn < 6 by omega), am_bv_s, am_bw_s, eq_self, true_or, or_true, am_b0, am_b1, am_em, if_true, if_false, true_and, and_true, false_and, and_false, not_true_eq_false, not_false_eq_true, false_or, or_false, Bool.false_eq_true]
        · rw [if_neg h5]
          by_cases h6 : 5 < n
          · rw [if_pos (Or.inl h6)]
            simp only [e187_0, e187_1, e187_4, e187_7, e187_8, e187_9, e187_12, e187_15, e187_16, e187_17, e187_18, e187_21, e187_24, e187_27, e187_29, e187_30, e187_31, e187_32, e187_35, e187_38, e187_39, e187_40, e187_41, e187_42, e187_45, e187_47, e187_48, e187_49, e187_50, e187_51, e187_54, e187_56, e187_57, e187_60, e187_61, e187_62, e187_64, e187_66, e187_69, e187_71, e187_72, e187_74, e187_75, e187_78, e187_80, e187_82, e187_85, e187_87, e187_88, e187_89, e187_91, e187_92, e187_96, e187_98, e187_101, e187_103, e187_105, e187_107, e187_109, e187_110, e187_113, e187_115, e187_117, e187_119, e187_121, e187_122, e187_125, e187_126, e187_129, e187_131, e187_134, e187_136, e187_138, e187_141, e187_144, e187_146, s59, s59_0, s59_1, s59_2, s59_3, s59_4, s59_5, s59_6, s59_7, s59_8, s59_9, s59_10, s59_11, s59_12, s59_13, s59_14, s59_15, s59_16, s59_17, s59_18, s59_19, s59_20, s59_21, s59_22, s59_23, s59_24, s59_25, s59_26, s59_27, s59_28, s59_29, s59_30, s59_31, r59_0, r59_1, r59_2, r59_3, r59_6, r59_8, r59_9, r59_13, r59_15, r59_16, r59_17, r59_19, r59_22, r59_23, r59_26, r59_30, r59_31, s60, s61, s62, s63, s64, s65, s66, s67, s68, s69, s70, s71, s72, s73, s74, s75, s76, i1, i2, i3, z10, z01, z1m, zm1, z0m, zm0, y52, r1, qa, qy, cb, sz, c0, h5, c8, h6, a64 (show bn < 6 by omega), am_bv_s, am_bw_s, eq_self, true_or, or_true, am_b0, am_b1, am_em, if_true, if_false, true_and, and_true, false_and, and_false, not_true_eq_false, not_false_eq_true, false_or, or_false, Bool.false_eq_true]
          · by_cases h7 : size < n
            · rw [if_pos (Or.inr h7)]
              simp only [e187_0, e187_1, e187_4, e187_7, e187_8, e187_9, e187_12, e187_15, e187_16, e187_17, e187_18, e187_21, e187_24, e187_27, e187_29, e187_30, e187_31, e187_32, e187_35, e187_38, e187_39, e187_40, e187_41, e187_42, e187_45, e187_47, e187_48, e187_49, e187_50, e187_51, e187_54, e187_56, e187_57, e187_60, e187_61, e187_62, e187_64, e187_66, e187_69, e187_71, e187_72, e187_74, e187_75, e187_78, e187_80, e187_82, e187_85, e187_87, e187_88, e187_89, e187_91, e187_92, e187_96, e187_98, e187_101, e187_103, e187_105, e187_107, e187_109, e187_110, e187_113, e187_115, e187_117, e187_119, e187_121, e187_122, e187_125, e187_126, e187_129, e187_131, e187_134, e187_136, e187_138, e187_141, e187_144, e187_146, s59, s59_0, s59_1, s59_2, s59_3, s59_4, s59_5, s59_6, s59_7, s59_8, s59_9, s59_10, s59_11, s59_12, s59_13, s59_14, s59_15, s59_16, s59_17, s59_18, s59_19, s59_20, s59_21, s59_22, s59_23, s59_24, s59_25, s59_26, s59_27, s59_28, s59_29, s59_30, s59_31, r59_0, r59_1, r59_2, r59_3, r59_6, r59_8, r59_9, r59_13, r59_15, r59_16, r59_17, r59_19, r59_22, r59_23, r59_26, r59_30, r59_31, s60, s61, s62, s63, s64, s65, s66, s67, s68, s69, s70, s71, s72, s73, s74, s75, s76, i1, i2, i3, z10, z01, z1m, zm1, z0m, zm0, y52, r1, qa, qy, cb, sz, c0, h5, c8, h6, cz, h7, a64 (show bn < 6 by omega), am_bv_s, am_bw_s, eq_self, true_or, or_true, am_b0, am_b1, am_em, if_true, if_false, true_and, and_true, false_and, and_false, not_true_eq_false, not_false_eq_true, false_or, or_false, Bool.false_eq_true]
            · rw [if_neg (by omega)]
              have kp : 0 < (16 - gn) ^ (n - y) := Nat.pow_pos (by omega)
              have wl := fun c (hc : c ≤ size) => wY_le (c := c) (show size ≤ 99 by omega) hc (show n ≤ 5 by omega) hy hgn
              obtain ⟨M', e1, rfl⟩ := am_lp (X := X) (S := kS) (mi := 187) (pc := 94) size (fun i => [none, none, none, some (.int (nI gn)), some (.int (nI n)), some (.int (nI y)), some (.int (nI size)), some (.int (nI (lik (wY size n y gn) i))), some (.int (nI (i + 1)))])
                (fun i M' => M' = M1) (M := M1) rfl (by
                  intro j M2 hj hI
                  subst hI
                  have c1 : (nI size < nI (j + 1)) = False := eq_false (nI_nlt (by omega) (by omega))
                  have ll := lik_le (w := wY size n y gn) j
                  have w1 := m_weight (X := X) (S := kS) (M := M2) (c := j + 1) (show size ≤ 99 by omega) (show j + 1 ≤ size by omega) (show n ≤ 5 by omega) hy hgn
                  have w2 := m_weight (X := X) (S := kS) (M := M2) (c := lik (wY size n y gn) j) (show size ≤ 99 by omega) (by omega) (show n ≤ 5 by omega) hy hgn
                  have c2 := lI_lt (wl (lik (wY size n y gn) j) (by omega)) (wl (j + 1) (by omega))
                  have c3 : (wY size n y gn (lik (wY size n y gn) j) * (16 - gn) ^ (n - y) < wY size n y gn (j + 1) * (16 - gn) ^ (n - y)) = (wY size n y gn (lik (wY size n y gn) j) < wY size n y gn (j + 1)) := propext ⟨fun q => Nat.lt_of_mul_lt_mul_right q, fun q => Nat.mul_lt_mul_of_pos_right q kp⟩
                  refine ⟨M2, ?_, rfl⟩
                  by_cases h : wY size n y gn (lik (wY size n y gn) j) < wY size n y gn (j + 1)
                  · have e : lik (wY size n y gn) (j + 1) = j + 1 := by rw [lik, if_pos h]
                    rw [e, e187_94]
                    simp only [e187_0, e187_1, e187_4, e187_7, e187_8, e187_9, e187_12, e187_15, e187_16, e187_17, e187_18, e187_21, e187_24, e187_27, e187_29, e187_30, e187_31, e187_32, e187_35, e187_38, e187_39, e187_40, e187_41, e187_42, e187_45, e187_47, e187_48, e187_49, e187_50, e187_51, e187_54, e187_56, e187_57, e187_60, e187_61, e187_62, e187_64, e187_66, e187_69, e187_71, e187_72, e187_74, e187_75, e187_78, e187_80, e187_82, e187_85, e187_87, e187_88, e187_89, e187_91, e187_92, e187_96, e187_98, e187_101, e187_103, e187_105, e187_107, e187_109, e187_110, e187_113, e187_115, e187_117, e187_119, e187_121, e187_122, e187_125, e187_126, e187_129, e187_131, e187_134, e187_136, e187_138, e187_141, e187_144, e187_146, c1, w1, w2, lc_gt, c2, c3, h, nI_1, am_bv_s, am_bw_s, eq_self, true_or, or_true, am_b0, am_b1, am_em, if_true, if_false, true_and, and_true, false_and, and_false, not_true_eq_false, not_false_eq_true, false_or, or_false, Bool.false_eq_true]
                  · have e : lik (wY size n y gn) (j + 1) = lik (wY size n y gn) j := by rw [lik, if_neg h]
                    rw [e, e187_94]
                    simp only [e187_0, e187_1, e187_4, e187_7, e187_8, e187_9, e187_12, e187_15, e187_16, e187_17, e187_18, e187_21, e187_24, e187_27, e187_29, e187_30, e187_31, e187_32, e187_35, e187_38, e187_39, e187_40, e187_41, e187_42, e187_45, e187_47, e187_48, e187_49, e187_50, e187_51, e187_54, e187_56, e187_57, e187_60, e187_61, e187_62, e187_64, e187_66, e187_69, e187_71, e187_72, e187_74, e187_75, e187_78, e187_80, e187_82, e187_85, e187_87, e187_88, e187_89, e187_91, e187_92, e187_96, e187_98, e187_101, e187_103, e187_105, e187_107, e187_109, e187_110, e187_113, e187_115, e187_117, e187_119, e187_121, e187_122, e187_125, e187_126, e187_129, e187_131, e187_134, e187_136, e187_138, e187_141, e187_144, e187_146, c1, w1, w2, lc_gt, c2, c3, h, nI_1, am_bv_s, am_bw_s, eq_self, true_or, or_true, am_b0, am_b1, am_em, if_true, if_false, true_and, and_true, false_and, and_false, not_true_eq_false, not_false_eq_true, false_or, or_false, Bool.false_eq_true])
              have cn : (nI size < nI (size + 1)) = True := eq_true (nI_lt (by omega) (by omega))
              have fin : am_e X 187 94 [none, none, none, some (.int (nI gn)), some (.int (nI n)), some (.int (nI y)), some (.int (nI size)), some (.int (nI (lik (wY size n y gn) size))), some (.int (nI (size + 1)))] [] kS M' = some (some (.int (nI (lik (wY size n y gn) size))), kS, M') := by
                rw [e187_94]
                simp only [e187_0, e187_1, e187_4, e187_7, e187_8, e187_9, e187_12, e187_15, e187_16, e187_17, e187_18, e187_21, e187_24, e187_27, e187_29, e187_30, e187_31, e187_32, e187_35, e187_38, e187_39, e187_40, e187_41, e187_42, e187_45, e187_47, e187_48, e187_49, e187_50, e187_51, e187_54, e187_56, e187_57, e187_60, e187_61, e187_62, e187_64, e187_66, e187_69, e187_71, e187_72, e187_74, e187_75, e187_78, e187_80, e187_82, e187_85, e187_87, e187_88, e187_89, e187_91, e187_92, e187_96, e187_98, e187_101, e187_103, e187_105, e187_107, e187_109, e187_110, e187_113, e187_115, e187_117, e187_119, e187_121, e187_122, e187_125, e187_126, e187_129, e187_131, e187_134, e187_136, e187_138, e187_141, e187_144, e187_146, cn, am_bv_s, am_bw_s, eq_self, true_or, or_true, am_b0, am_b1, am_em, if_true, if_false, true_and, and_true, false_and, and_false, not_true_eq_false, not_false_eq_true, false_or, or_false, Bool.false_eq_true]
              have z1 : nI (0 + 1) = 1 := rfl
              have z2 : nI (lik (wY size n y gn) 0) = 0 := rfl
              rw [fin, z1, z2] at e1
              rw [← e1]
              simp only [e187_0, e187_1, e187_4, e187_7, e187_8, e187_9, e187_12, e187_15, e187_16, e187_17, e187_18, e187_21, e187_24, e187_27, e187_29, e187_30, e187_31, e187_32, e187_35, e187_38, e187_39, e187_40, e187_41, e187_42, e187_45, e187_47, e187_48, e187_49, e187_50, e187_51, e187_54, e187_56, e187_57, e187_60, e187_61, e187_62, e187_64, e187_66, e187_69, e187_71, e187_72, e187_74, e187_75, e187_78, e187_80, e187_82, e187_85, e187_87, e187_88, e187_89, e187_91, e187_92, e187_96, e187_98, e187_101, e187_103, e187_105, e187_107, e187_109, e187_110, e187_113, e187_115, e187_117, e187_119, e187_121, e187_122, e187_125, e187_126, e187_129, e187_131, e187_134, e187_136, e187_138, e187_141, e187_144, e187_146, s59, s59_0, s59_1, s59_2, s59_3, s59_4, s59_5, s59_6, s59_7, s59_8, s59_9, s59_10, s59_11, s59_12, s59_13, s59_14, s59_15, s59_16, s59_17, s59_18, s59_19, s59_20, s59_21, s59_22, s59_23, s59_24, s59_25, s59_26, s59_27, s59_28, s59_29, s59_30, s59_31, r59_0, r59_1, r59_2, r59_3, r59_6, r59_8, r59_9, r59_13, r59_15, r59_16, r59_17, r59_19, r59_22, r59_23, r59_26, r59_30, r59_31, s60, s61, s62, s63, s64, s65, s66, s67, s68, s69, s70, s71, s72, s73, s74, s75, s76, i1, i2, i3, z10, z01, z1m, zm1, z0m, zm0, y52, r1, qa, qy, cb, sz, c0, h5, c8, h6, cz, h7, a64 (show bn < 6 by omega), am_bv_s, am_bw_s, eq_self, true_or, or_true, am_b0, am_b1, am_em, if_true, if_false, true_and, and_true, false_and, and_false, not_true_eq_false, not_false_eq_true, false_or, or_false, Bool.false_eq_true]
      · rw [am_bf h3] at i3
        rw [if_neg (fun q => h3 q.2)]
        refine ⟨M, ?_, hx, am_of.rf⟩
        simp only [e187_0, e187_1, e187_4, e187_7, e187_8, e187_9, e187_12, e187_15, e187_16, e187_17, e187_18, e187_21, e187_24, e187_27, e187_29, e187_30, e187_31, e187_32, e187_35, e187_38, e187_39, e187_40, e187_41, e187_42, e187_45, e187_47, e187_48, e187_49, e187_50, e187_51, e187_54, e187_56, e187_57, e187_60, e187_61, e187_62, e187_64, e187_66, e187_69, e187_71, e187_72, e187_74, e187_75, e187_78, e187_80, e187_82, e187_85, e187_87, e187_88, e187_89, e187_91, e187_92, e187_96, e187_98, e187_101, e187_103, e187_105, e187_107, e187_109, e187_110, e187_113, e187_115, e187_117, e187_119, e187_121, e187_122, e187_125, e187_126, e187_129, e187_131, e187_134, e187_136, e187_138, e187_141, e187_144, e187_146, s59, s59_0, s59_1, s59_2, s59_3, s59_4, s59_5, s59_6, s59_7, s59_8, s59_9, s59_10, s59_11, s59_12, s59_13, s59_14, s59_15, s59_16, s59_17, s59_18, s59_19, s59_20, s59_21, s59_22, s59_23, s59_24, s59_25, s59_26, s59_27, s59_28, s59_29, s59_30, s59_31, r59_0, r59_1, r59_2, r59_3, r59_6, r59_8, r59_9, r59_13, r59_15, r59_16, r59_17, r59_19, r59_22, r59_23, r59_26, r59_30, r59_31, s60, s61, s62, s63, s64, s65, s66, s67, s68, s69, s70, s71, s72, s73, s74, s75, s76, i1, i2, i3, z10, z01, z1m, zm1, z0m, zm0, am_bv_s, am_bw_s, eq_self, true_or, or_true, am_b0, am_b1, am_em, if_true, if_false, true_and, and_true, false_and, and_false, not_true_eq_false, not_false_eq_true, false_or, or_false, Bool.false_eq_true]
    · rw [am_bf h2] at i2
      rw [if_neg (fun q => h2 q.1.2)]
      refine ⟨M, ?_, hx, am_of.rf⟩
      simp only [e187_0, e187_1, e187_4, e187_7, e187_8, e187_9, e187_12, e187_15, e187_16, e187_17, e187_18, e187_21, e187_24, e187_27, e187_29, e187_30, e187_31, e187_32, e187_35, e187_38, e187_39, e187_40, e187_41, e187_42, e187_45, e187_47, e187_48, e187_49, e187_50, e187_51, e187_54, e187_56, e187_57, e187_60, e187_61, e187_62, e187_64, e187_66, e187_69, e187_71, e187_72, e187_74, e187_75, e187_78, e187_80, e187_82, e187_85, e187_87, e187_88, e187_89, e187_91, e187_92, e187_96, e187_98, e187_101, e187_103, e187_105, e187_107, e187_109, e187_110, e187_113, e187_115, e187_117, e187_119, e187_121, e187_122, e187_125, e187_126, e187_129, e187_131, e187_134, e187_136, e187_138, e187_141, e187_144, e187_146, s59, s59_0, s59_1, s59_2, s59_3, s59_4, s59_5, s59_6, s59_7, s59_8, s59_9, s59_10, s59_11, s59_12, s59_13, s59_14, s59_15, s59_16, s59_17, s59_18, s59_19, s59_20, s59_21, s59_22, s59_23, s59_24, s59_25, s59_26, s59_27, s59_28, s59_29, s59_30, s59_31, r59_0, r59_1, r59_2, r59_3, r59_6, r59_8, r59_9, r59_13, r59_15, r59_16, r59_17, r59_19, r59_22, r59_23, r59_26, r59_30, r59_31, s60, s61, s62, s63, s64, s65, s66, s67, s68, s69, s70, s71, s72, s73, s74, s75, s76, i1, i2, z10, z01, z1m, zm1, z0m, zm0, am_bv_s, am_bw_s, eq_self, true_or, or_true, am_b0, am_b1, am_em, if_true, if_false, true_and, and_true, false_and, and_false, not_true_eq_false, not_false_eq_true, false_or, or_false, Bool.false_eq_true]
  · rw [am_bf h1] at i1
    rw [if_neg (fun q => h1 q.1.1)]
    refine ⟨M, ?_, hx, am_of.rf⟩
    simp only [e187_0, e187_1, e187_4, e187_7, e187_8, e187_9, e187_12, e187_15, e187_16, e187_17, e187_18, e187_21, e187_24, e187_27, e187_29, e187_30, e187_31, e187_32, e187_35, e187_38, e187_39, e187_40, e187_41, e187_42, e187_45, e187_47, e187_48, e187_49, e187_50, e187_51, e187_54, e187_56, e187_57, e187_60, e187_61, e187_62, e187_64, e187_66, e187_69, e187_71, e187_72, e187_74, e187_75, e187_78, e187_80, e187_82, e187_85, e187_87, e187_88, e187_89, e187_91, e187_92, e187_96, e187_98, e187_101, e187_103, e187_105, e187_107, e187_109, e187_110, e187_113, e187_115, e187_117, e187_119, e187_121, e187_122, e187_125, e187_126, e187_129, e187_131, e187_134, e187_136, e187_138, e187_141, e187_144, e187_146, s59, s59_0, s59_1, s59_2, s59_3, s59_4, s59_5, s59_6, s59_7, s59_8, s59_9, s59_10, s59_11, s59_12, s59_13, s59_14, s59_15, s59_16, s59_17, s59_18, s59_19, s59_20, s59_21, s59_22, s59_23, s59_24, s59_25, s59_26, s59_27, s59_28, s59_29, s59_30, s59_31, r59_0, r59_1, r59_2, r59_3, r59_6, r59_8, r59_9, r59_13, r59_15, r59_16, r59_17, r59_19, r59_22, r59_23, r59_26, r59_30, r59_31, s60, s61, s62, s63, s64, s65, s66, s67, s68, s69, s70, s71, s72, s73, s74, s75, s76, i1, z10, z01, z1m, zm1, z0m, zm0, am_bv_s, am_bw_s, eq_self, true_or, or_true, am_b0, am_b1, am_em, if_true, if_false, true_and, and_true, false_and, and_false, not_true_eq_false, not_false_eq_true, false_or, or_false, Bool.false_eq_true]
end
