/-! the class: chances; may -/
theorem ch_0 : ∀ n k, n < k → ch n k = 0
  | 0, 0, h => absurd h (Nat.lt_irrefl _)
  | 0, _ + 1, _ => rfl
  | n + 1, 0, h => absurd h (Nat.not_lt_zero _)
  | n + 1, k + 1, h => by rw [ch, ch_0 n k (by omega), ch_0 n (k + 1) (by omega)]
theorem ch_z (n : Nat) : ch n 0 = 1 := by cases n <;> rfl
theorem ch_st : ∀ n k, ch n (k + 1) * (k + 1) = ch n k * (n - k)
  | 0, 0 => rfl
  | 0, k + 1 => by rw [ch, ch, Nat.zero_mul, Nat.zero_mul]
  | n + 1, 0 => by
    have ih := ch_st n 0
    rw [ch_z] at ih ⊢
    rw [show ch (n + 1) (0 + 1) = ch n 0 + ch n (0 + 1) from rfl, Nat.add_mul, ih, ch_z]
    omega
  | n + 1, k + 1 => by
    have h1 := ch_st n k
    have h2 := ch_st n (k + 1)
    rw [ch, ch]
    by_cases h : k < n
    · have e1 : n - k = (n - (k + 1)) + 1 := by omega
      rw [e1] at h1
      have e2 : n + 1 - (k + 1) = (n - (k + 1)) + 1 := by omega
      rw [e2, Nat.add_mul, h2]
      generalize ch n k = A at *
      generalize ch n (k + 1) = B at *
      generalize n - (k + 1) = d at *
      have e3 : B * (k + 1 + 1) = B * (k + 1) + B := Nat.mul_succ _ _
      have e4 : A * (d + 1) = A * d + A := Nat.mul_succ _ _
      have e5 : (A + B) * (d + 1) = A * d + A + (B * d + B) := by rw [Nat.add_mul, Nat.mul_succ, Nat.mul_succ]
      rw [e5]
      omega
    · rw [ch_0 n (k + 1) (by omega), ch_0 n (k + 1 + 1) (by omega), show n + 1 - (k + 1) = 0 by omega]
      rw [Nat.add_zero, Nat.zero_mul, Nat.mul_zero]
theorem ch_pw : ∀ n k, ch n k ≤ n ^ k
  | n, 0 => by rw [ch_z]; exact Nat.le_refl _
  | 0, k + 1 => Nat.zero_le _
  | n + 1, k + 1 => by
    rw [ch]
    have h1 := ch_pw n k
    have h2 := ch_pw n (k + 1)
    calc ch n k + ch n (k + 1) ≤ n ^ k + n ^ (k + 1) := Nat.add_le_add h1 h2
      _ = n ^ k * (n + 1) := by rw [Nat.pow_succ, Nat.mul_add, Nat.mul_one, Nat.add_comm]
      _ ≤ (n + 1) ^ k * (n + 1) := Nat.mul_le_mul_right _ (Nat.pow_le_pow_left (by omega) k)
      _ = (n + 1) ^ (k + 1) := (Nat.pow_succ _ _).symm
theorem ch_2 : ∀ n k, ch n k ≤ 2 ^ n
  | n, 0 => by rw [ch_z]; exact Nat.one_le_two_pow
  | 0, k + 1 => Nat.zero_le _
  | n + 1, k + 1 => by
    rw [ch, Nat.pow_succ]
    have h1 := ch_2 n k
    have h2 := ch_2 n (k + 1)
    omega
theorem ch_mo : ∀ n k, ch n k ≤ ch (n + 1) k
  | n, 0 => by rw [ch_z, ch_z]; exact Nat.le_refl _
  | n, k + 1 => by rw [ch]; omega
/-- a draw of each of two is a draw of both -/
theorem ch_mul : ∀ a b i j, ch a i * ch b j ≤ ch (a + b) (i + j)
  | 0, b, 0, j => by rw [ch_z, Nat.one_mul, Nat.zero_add, Nat.zero_add]; exact Nat.le_refl _
  | 0, b, i + 1, j => by rw [ch, Nat.zero_mul]; exact Nat.zero_le _
  | a + 1, b, 0, j => by
    have h := ch_mul a b 0 j
    rw [ch_z] at h ⊢
    rw [show a + 1 + b = (a + b) + 1 by omega]
    exact Nat.le_trans h (ch_mo _ _)
  | a + 1, b, i + 1, j => by
    have h1 := ch_mul a b i j
    have h2 := ch_mul a b (i + 1) j
    rw [show a + 1 + b = (a + b) + 1 by omega, show i + 1 + j = (i + j) + 1 by omega, ch, ch, Nat.add_mul]
    rw [show i + 1 + j = (i + j) + 1 by omega] at h2
    omega
/-- so many hits among the drawn -/
def dW (size n c k : Nat) : Nat := ch c k * ch (size - c) (n - k)
def mS0 (size n y : Nat) (e : Int32) (c : Nat) : Nat := if e = 0 then sm (fun i => dW size n c (y + i)) (n + 1 - y) else sm (dW size n c) (y + 1)
def mP (size n y x : Nat) (e : Int32) (c : Nat) : Bool := decide (lI (x * ch size n) < lI (256 * mS0 size n y e c))
def fnd (P : Nat → Bool) : Nat → Option Nat
  | 0 => none
  | k + 1 => match fnd P k with
    | some j => some j
    | none => if P k = true then some k else none
def lst (P : Nat → Bool) : Nat → Option Nat
  | 0 => none
  | k + 1 => if P k = true then some k else lst P k
theorem fnd_st {P : Nat → Bool} {k j : Nat} (h : fnd P k = some j) : ∀ q, fnd P (k + q) = some j
  | 0 => h
  | q + 1 => by rw [← Nat.add_assoc, fnd, fnd_st h q]
theorem fnd_t {P : Nat → Bool} {k : Nat} (h : fnd P k = none) (h1 : P k = true) : fnd P (k + 1) = some k := by
  rw [fnd, h]
  exact if_pos h1
theorem fnd_f {P : Nat → Bool} {k : Nat} (h : fnd P k = none) (h1 : ¬ P k = true) : fnd P (k + 1) = none := by
  rw [fnd, h]
  exact if_neg h1
theorem nlt0 {n : Nat} (h : n < 2 ^ 31) : (nI n < 0) = False := eq_false (fun q => by rw [Int32.lt_iff_toInt_lt, nI_toInt h, show (0 : Int32).toInt = 0 from by decide] at q; omega)
section
variable {X : am_X} {S : am_Sh} {M M' : am_Me} {P : Nat → Nat → Prop} {s : sgm}
theorem q_choose {n k : Nat} (hx : xC M) (hn : n ≤ 99) (hk : k ≤ 8) : am_e X 12 0 [some (.ref (48 : Nat)), some (.int (nI n)), some (.int (nI k))] [] kS M = some (some (.long (lI (ch n k))), kS, M) := by
  have c1 := nlt0 (n := n) (by omega)
  have c2 := nlt0 (n := k) (by omega)
  have c3 : (99 < nI n) = False := eq_false (fun q => by
    have : (99 : Int32) = nI 99 := rfl
    rw [this, ok_lt (by decide) (by omega)] at q
    omega)
  have c4 : (nI k < 9) = True := eq_true (nI_lt (b := 9) (by omega) (by decide))
  have e9 : nI n * 9 + nI k = nI (9 * n + k) := by rw [show nI n * (9 : Int32) = nI (n * 9) from pk_mul n 9, nI_add, Nat.mul_comm]
  have ce : (nI (9 * n + k)).toNatClampNeg = 9 * n + k := nI_clamp (by omega)
  simp only [e12_0, e12_1, e12_4, e12_5, e12_7, e12_10, e12_11, e12_14, e12_15, e12_17, e12_20, e12_21, e12_22, e12_23, e12_26, e12_27, e12_29, e12_30, e12_31, e12_32, e12_33, s48, s48_0, r48_0, s49, c1, c2, c3, c4, e9, ce, hx n (by omega) k (by omega), a49 (show 9 * n + k < 900 by omega), am_bv_s, am_bw_s, eq_self, true_or, or_true, am_b0, am_b1, am_em, if_true, if_false, true_and, and_true, false_and, and_false, not_true_eq_false, not_false_eq_true, false_or, or_false, Bool.false_eq_true]
theorem q_drawWays {size c n k : Nat} (hx : xC M) (hs : size ≤ 99) (hc : c ≤ size) (hn : n ≤ 8) (hk : k ≤ n) : am_e X 13 0 [some (.ref (48 : Nat)), some (.int (nI size)), some (.int (nI c)), some (.int (nI n)), some (.int (nI k))] [] kS M = some (some (.long (lI (dW size n c k))), kS, M) := by
  have h1 := q_choose (X := X) hx (show c ≤ 99 by omega) (show k ≤ 8 by omega)
  have h2 := q_choose (X := X) hx (show size - c ≤ 99 by omega) (show n - k ≤ 8 by omega)
  have d1 : nI size - nI c = nI (size - c) := pk_sub hc
  have d2 : nI n - nI k = nI (n - k) := pk_sub hk
  simp only [e13_0, e13_1, e13_2, e13_4, e13_7, e13_8, e13_9, e13_10, e13_11, e13_12, e13_14, e13_15, e13_18, e13_19, s48, s48_0, r48_0, s49, d1, d2, h1, h2, lI_mul, dW, am_bv_s, am_bw_s, eq_self, true_or, or_true, am_b0, am_b1, am_em, if_true, if_false, true_and, and_true, false_and, and_false, not_true_eq_false, not_false_eq_true, false_or, or_false, Bool.false_eq_true]
theorem q_drawRange {size c n a q : Nat} (hx : xC M) (hs : size ≤ 99) (hc : c ≤ size) (hn : n ≤ 8) (hq : a + q ≤ n + 1) (b : Int32) (hb : b + 1 = nI (a + q)) (hb2 : ∀ k : Nat, k ≤ n + 1 → (b < nI k) = (a + q ≤ k)) : am_e X 14 0 [some (.ref (48 : Nat)), some (.int (nI size)), some (.int (nI c)), some (.int (nI n)), some (.int (nI a)), some (.int b), none, none, none] [] kS M = some (some (.long (lI (sm (fun i => dW size n c (a + i)) q))), kS, M) := by
  obtain ⟨M', e1, rfl⟩ := am_lp (X := X) (S := kS) (mi := 14) (pc := 7) q (fun i => [some (.ref (48 : Nat)), some (.int (nI size)), some (.int (nI c)), some (.int (nI n)), none, some (.int b), some (.long (lI (sm (fun i => dW size n c (a + i)) i))), none, some (.int (nI (a + i)))])
    (fun i M' => M' = M) (M := M) rfl (by
      intro j M2 hj hI
      subst hI
      have c1 : (b < nI (a + j)) = False := by rw [hb2 (a + j) (by omega)]; exact eq_false (by omega)
      have dw := q_drawWays (X := X) (k := a + j) hx hs hc hn (by omega)
      have sa : lI (sm (fun i => dW size n c (a + i)) j) + lI (dW size n c (a + j)) = lI (sm (fun i => dW size n c (a + i)) (j + 1)) := lI_add
      have en : nI (a + j) + 1 = nI (a + (j + 1)) := nI_1 _
      refine ⟨M2, ?_, rfl⟩
      rw [e14_7]
      simp only [e14_0, e14_1, e14_3, e14_5, e14_9, e14_11, e14_14, e14_16, e14_17, e14_18, e14_19, e14_20, e14_22, e14_25, e14_26, e14_28, e14_31, e14_34, e14_36, s48, s48_0, r48_0, s49, c1, dw, sa, en, am_bv_s, am_bw_s, eq_self, true_or, or_true, am_b0, am_b1, am_em, if_true, if_false, true_and, and_true, false_and, and_false, not_true_eq_false, not_false_eq_true, false_or, or_false, Bool.false_eq_true])
  have c1 : (b < nI (a + q)) = True := by rw [hb2 (a + q) hq]; exact eq_true (by omega)
  have fin : am_e X 14 7 [some (.ref (48 : Nat)), some (.int (nI size)), some (.int (nI c)), some (.int (nI n)), none, some (.int b), some (.long (lI (sm (fun i => dW size n c (a + i)) q))), none, some (.int (nI (a + q)))] [] kS M' = some (some (.long (lI (sm (fun i => dW size n c (a + i)) q))), kS, M') := by
    rw [e14_7]
    simp only [e14_0, e14_1, e14_3, e14_5, e14_9, e14_11, e14_14, e14_16, e14_17, e14_18, e14_19, e14_20, e14_22, e14_25, e14_26, e14_28, e14_31, e14_34, e14_36, c1, am_bv_s, am_bw_s, eq_self, true_or, or_true, am_b0, am_b1, am_em, if_true, if_false, true_and, and_true, false_and, and_false, not_true_eq_false, not_false_eq_true, false_or, or_false, Bool.false_eq_true]
  rw [fin, Nat.add_zero] at e1
  rw [← e1]
  simp only [e14_0, e14_1, e14_3, e14_5, e14_9, e14_11, e14_14, e14_16, e14_17, e14_18, e14_19, e14_20, e14_22, e14_25, e14_26, e14_28, e14_31, e14_34, e14_36, am_bv_s, am_bw_s, eq_self, true_or, or_true, am_b0, am_b1, am_em, if_true, if_false, true_and, and_true, false_and, and_false, not_true_eq_false, not_false_eq_true, false_or, or_false, Bool.false_eq_true]
  rfl
theorem q_drawTo {size c n a b : Nat} (hx : xC M) (hs : size ≤ 99) (hc : c ≤ size) (hn : n ≤ 8) (ha : a ≤ b + 1) (hb : b ≤ n) : am_e X 14 0 [some (.ref (48 : Nat)), some (.int (nI size)), some (.int (nI c)), some (.int (nI n)), some (.int (nI a)), some (.int (nI b)), none, none, none] [] kS M = some (some (.long (lI (sm (fun i => dW size n c (a + i)) (b + 1 - a)))), kS, M) := by
  have e : a + (b + 1 - a) = b + 1 := by omega
  refine q_drawRange hx hs hc hn (by omega) (nI b) (by rw [e]; exact nI_1 _) (fun k hk => ?_)
  rw [e, ok_lt (by omega) (by omega)]
  exact propext (by omega)
theorem q_leastKnown {size n y x : Nat} (hx : xC M) (hs : size ≤ 99) (hn : n ≤ 8) (hy : y ≤ n) (hx2 : x ≤ 255) : am_e X 15 0 [some (.ref (48 : Nat)), some (.int (nI size)), some (.int (nI n)), some (.int (nI y)), some (.int (nI x)), none, none, none] [] kS M = some (some (.int (oI (fnd (mP size n y x 0) (size + 1)))), kS, M) := by
  have lx := lI_w (n := x) (by omega)
  have cs := q_choose (X := X) hx hs hn
  have l256 : (256 : Int64) = lI 256 := rfl
  have lp : ∀ (k c : Nat), c + k = size + 1 → fnd (mP size n y x 0) c = none → am_e X 15 15 [some (.ref (48 : Nat)), some (.int (nI size)), some (.int (nI n)), some (.int (nI y)), none, some (.long (lI (x * ch size n))), none, some (.int (nI c))] [] kS M = some (some (.int (oI (fnd (mP size n y x 0) (size + 1)))), kS, M) := by
    intro k
    induction k with
    | zero =>
      intro c hc hf
      obtain rfl : c = size + 1 := by omega
      have c1 : (nI size < nI (size + 1)) = True := eq_true (nI_lt (by omega) (by omega))
      rw [hf, oI, e15_15]
      simp only [e15_0, e15_2, e15_3, e15_4, e15_5, e15_6, e15_9, e15_10, e15_12, e15_13, e15_17, e15_18, e15_21, e15_24, e15_25, e15_26, e15_28, e15_29, e15_30, e15_31, e15_34, e15_35, e15_37, e15_38, e15_41, e15_43, e15_44, e15_47, e15_50, e15_51, c1, am_bv_s, am_bw_s, eq_self, true_or, or_true, am_b0, am_b1, am_em, if_true, if_false, true_and, and_true, false_and, and_false, not_true_eq_false, not_false_eq_true, false_or, or_false, Bool.false_eq_true]
    | succ k ih =>
      intro c hc hf
      have c1 : (nI size < nI c) = False := eq_false (nI_nlt (by omega) (by omega))
      have dw := q_drawTo (X := X) (a := y) (b := n) hx hs (show c ≤ size by omega) hn (by omega) (Nat.le_refl _)
      have em : mS0 size n y 0 c = sm (fun i => dW size n c (y + i)) (n + 1 - y) := if_pos rfl
      rw [← em] at dw
      by_cases hp : lI (x * ch size n) < lI (256 * mS0 size n y 0 c)
      · have e := fnd_st (fnd_t hf (show mP size n y x 0 c = true from decide_eq_true hp)) (size - c)
        rw [show c + 1 + (size - c) = size + 1 by omega] at e
        rw [e, oI, e15_15]
        simp only [e15_0, e15_2, e15_3, e15_4, e15_5, e15_6, e15_9, e15_10, e15_12, e15_13, e15_17, e15_18, e15_21, e15_24, e15_25, e15_26, e15_28, e15_29, e15_30, e15_31, e15_34, e15_35, e15_37, e15_38, e15_41, e15_43, e15_44, e15_47, e15_50, e15_51, s48, s48_0, r48_0, s49, c1, dw, l256, lI_mul, lc_gt, hp, am_bv_s, am_bw_s, eq_self, true_or, or_true, am_b0, am_b1, am_em, if_true, if_false, true_and, and_true, false_and, and_false, not_true_eq_false, not_false_eq_true, false_or, or_false, Bool.false_eq_true]
      · rw [← ih (c + 1) (by omega) (fnd_f hf (fun q => hp (of_decide_eq_true q))), e15_15]
        simp only [e15_0, e15_2, e15_3, e15_4, e15_5, e15_6, e15_9, e15_10, e15_12, e15_13, e15_17, e15_18, e15_21, e15_24, e15_25, e15_26, e15_28, e15_29, e15_30, e15_31, e15_34, e15_35, e15_37, e15_38, e15_41, e15_43, e15_44, e15_47, e15_50, e15_51, s48, s48_0, r48_0, s49, c1, dw, l256, lI_mul, lc_gt, hp, nI_1, am_bv_s, am_bw_s, eq_self, true_or, or_true, am_b0, am_b1, am_em, if_true, if_false, true_and, and_true, false_and, and_false, not_true_eq_false, not_false_eq_true, false_or, or_false, Bool.false_eq_true]
  have q := lp (size + 1) 0 (by omega) rfl
  rw [nI_0] at q
  simp only [e15_0, e15_2, e15_3, e15_4, e15_5, e15_6, e15_9, e15_10, e15_12, e15_13, e15_17, e15_18, e15_21, e15_24, e15_25, e15_26, e15_28, e15_29, e15_30, e15_31, e15_34, e15_35, e15_37, e15_38, e15_41, e15_43, e15_44, e15_47, e15_50, e15_51, s48, s48_0, r48_0, s49, lx, cs, lI_mul, q, am_bv_s, am_bw_s, eq_self, true_or, or_true, am_b0, am_b1, am_em, if_true, if_false, true_and, and_true, false_and, and_false, not_true_eq_false, not_false_eq_true, false_or, or_false, Bool.false_eq_true]
theorem q_greatestKnown {size n y x : Nat} (hx : xC M) (hs : size ≤ 99) (hn : n ≤ 8) (hy : y ≤ n) (hx2 : x ≤ 255) : am_e X 16 0 [some (.ref (48 : Nat)), some (.int (nI size)), some (.int (nI n)), some (.int (nI y)), some (.int (nI x)), none, none, none] [] kS M = some (some (.int (oI (lst (mP size n y x 1) (size + 1)))), kS, M) := by
  have lx := lI_w (n := x) (by omega)
  have cs := q_choose (X := X) hx hs hn
  have l256 : (256 : Int64) = lI 256 := rfl
  have lp : ∀ (k : Nat), k ≤ size + 1 → ∀ z : Int32, z + 1 = nI k → (k = 0 → z = -1) → (∀ c, k = c + 1 → z = nI c) → am_e X 16 15 [some (.ref (48 : Nat)), some (.int (nI size)), some (.int (nI n)), some (.int (nI y)), none, some (.long (lI (x * ch size n))), none, some (.int z)] [] kS M = some (some (.int (oI (lst (mP size n y x 1) k))), kS, M) := by
    intro k
    induction k with
    | zero =>
      intro hk z hz h0 h1
      obtain rfl := h0 rfl
      have c1 : ((-1 : Int32) < 0) = True := eq_true (by decide)
      rw [lst, oI, e16_15]
      simp only [e16_0, e16_2, e16_3, e16_4, e16_5, e16_6, e16_9, e16_10, e16_12, e16_13, e16_17, e16_20, e16_23, e16_24, e16_25, e16_27, e16_28, e16_29, e16_30, e16_33, e16_34, e16_36, e16_37, e16_40, e16_42, e16_43, e16_46, e16_49, e16_50, c1, am_bv_s, am_bw_s, eq_self, true_or, or_true, am_b0, am_b1, am_em, if_true, if_false, true_and, and_true, false_and, and_false, not_true_eq_false, not_false_eq_true, false_or, or_false, Bool.false_eq_true]
    | succ c ih =>
      intro hk z hz h0 h1
      obtain rfl := h1 c rfl
      have c1 := nlt0 (n := c) (by omega)
      have dw := q_drawTo (X := X) (a := 0) (b := y) hx hs (show c ≤ size by omega) hn (by omega) hy
      have em : mS0 size n y 1 c = sm (fun i => dW size n c (0 + i)) (y + 1 - 0) := by
        unfold mS0
        rw [if_neg (by decide), Nat.sub_zero]
        exact sm_c _ (fun i _ => by rw [Nat.zero_add])
      rw [← em, nI_0] at dw
      by_cases hp : lI (x * ch size n) < lI (256 * mS0 size n y 1 c)
      · rw [lst, if_pos (show mP size n y x 1 c = true from decide_eq_true hp), oI, e16_15]
        simp only [e16_0, e16_2, e16_3, e16_4, e16_5, e16_6, e16_9, e16_10, e16_12, e16_13, e16_17, e16_20, e16_23, e16_24, e16_25, e16_27, e16_28, e16_29, e16_30, e16_33, e16_34, e16_36, e16_37, e16_40, e16_42, e16_43, e16_46, e16_49, e16_50, s48, s48_0, r48_0, s49, c1, dw, l256, lI_mul, lc_gt, hp, am_bv_s, am_bw_s, eq_self, true_or, or_true, am_b0, am_b1, am_em, if_true, if_false, true_and, and_true, false_and, and_false, not_true_eq_false, not_false_eq_true, false_or, or_false, Bool.false_eq_true]
      · rw [lst, if_neg (show ¬ mP size n y x 1 c = true from fun q => hp (of_decide_eq_true q))]
        have hz2 : nI c + (-1) + 1 = nI c := by
          rw [Int32.add_assoc, show (-1 : Int32) + 1 = 0 from by decide, Int32.add_zero]
        rw [← ih (by omega) (nI c + (-1)) hz2 (fun h => by subst h; decide) (fun b hb => by
          subst hb
          rw [← nI_1, Int32.add_assoc, show (1 : Int32) + (-1) = 0 from by decide, Int32.add_zero]), e16_15]
        simp only [e16_0, e16_2, e16_3, e16_4, e16_5, e16_6, e16_9, e16_10, e16_12, e16_13, e16_17, e16_20, e16_23, e16_24, e16_25, e16_27, e16_28, e16_29, e16_30, e16_33, e16_34, e16_36, e16_37, e16_40, e16_42, e16_43, e16_46, e16_49, e16_50, s48, s48_0, r48_0, s49, c1, dw, l256, lI_mul, lc_gt, hp, am_bv_s, am_bw_s, eq_self, true_or, or_true, am_b0, am_b1, am_em, if_true, if_false, true_and, and_true, false_and, and_false, not_true_eq_false, not_false_eq_true, false_or, or_false, Bool.false_eq_true]
  have q := lp (size + 1) (Nat.le_refl _) (nI size) (nI_1 _) (fun h => by omega) (fun c h => by rw [show c = size by omega])
  simp only [e16_0, e16_2, e16_3, e16_4, e16_5, e16_6, e16_9, e16_10, e16_12, e16_13, e16_17, e16_20, e16_23, e16_24, e16_25, e16_27, e16_28, e16_29, e16_30, e16_33, e16_34, e16_36, e16_37, e16_40, e16_42, e16_43, e16_46, e16_49, e16_50, s48, s48_0, r48_0, s49, lx, cs, lI_mul, q, am_bv_s, am_bw_s, eq_self, true_or, or_true, am_b0, am_b1, am_em, if_true, if_false, true_and, and_true, false_and, and_false, not_true_eq_false, not_false_eq_true, false_or, or_false, Bool.false_eq_true]
def sp_may (s : sgm) (t b x e : Int32) : Int32 := if ((0 ≤ t ∧ t ≤ 3) ∧ (0 ≤ b ∧ b ≤ nI s.2.1.1 - 1)) ∧ (0 ≤ x ∧ x ≤ 255) ∧ (0 ≤ e ∧ e ≤ 1) then (if sAs s.2.1.1 s.2.2.2.1 s.2.2.2.2 t.toNatClampNeg b.toNatClampNeg = 0 then -3 else if 8 < sAs s.2.1.1 s.2.2.2.1 s.2.2.2.2 t.toNatClampNeg b.toNatClampNeg ∨ s.2.1.2 b.toNatClampNeg < sAs s.2.1.1 s.2.2.2.1 s.2.2.2.2 t.toNatClampNeg b.toNatClampNeg then -4 else if e = 0 then oI (fnd (mP (s.2.1.2 b.toNatClampNeg) (sAs s.2.1.1 s.2.2.2.1 s.2.2.2.2 t.toNatClampNeg b.toNatClampNeg) (sYe s.2.1.1 s.2.2.2.1 s.2.2.2.2 t.toNatClampNeg b.toNatClampNeg) x.toNatClampNeg 0) (s.2.1.2 b.toNatClampNeg + 1)) else oI (lst (mP (s.2.1.2 b.toNatClampNeg) (sAs s.2.1.1 s.2.2.2.1 s.2.2.2.2 t.toNatClampNeg b.toNatClampNeg) (sYe s.2.1.1 s.2.2.2.1 s.2.2.2.2 t.toNatClampNeg b.toNatClampNeg) x.toNatClampNeg 1) (s.2.1.2 b.toNatClampNeg + 1))) else -2
theorem x_may (hx : JX s M) (ho : okm s) (t b x e : Int32) : am_e X 103 0 [some (.ref (0 : Nat)), some (.int t), some (.int b), some (.int x), some (.int e), none, none, none] [] kS M = some (some (.int (sp_may s t b x e)), kS, M) := by
  have i1 := q_isTaker (X := X) (S := kS) (M := M) t
  have i2 := x_isBand (X := X) (M := M) hx.1.2.1 b
  have i3 := q_isIn (X := X) (S := kS) (M := M) x 0 255
  have i4 := q_isIn (X := X) (S := kS) (M := M) e 0 1
  have d6 := ho.2.1.1
  unfold sp_may
  by_cases h1 : 0 ≤ t ∧ t ≤ 3
  · rw [am_bt h1] at i1
    by_cases h2 : 0 ≤ b ∧ b ≤ nI s.2.1.1 - 1
    · rw [am_bt h2] at i2
      by_cases h3 : 0 ≤ x ∧ x ≤ 255
      · rw [am_bt h3] at i3
        by_cases h4 : 0 ≤ e ∧ e ≤ 1
        · rw [am_bt h4] at i4
          rw [if_pos ⟨⟨h1, h2⟩, h3, h4⟩]
          obtain ⟨tn, htn, rfl⟩ := in_n (n := 3) h1 (by decide)
          obtain ⟨bn, hbn, rfl⟩ := (pred_le (by omega)).mp h2
          obtain ⟨xn, hxn, rfl⟩ := in_n (n := 255) h3 (by decide)
          have cb : (nI bn).toNatClampNeg = bn := nI_clamp (by omega)
          rw [nI_clamp (n := tn) (by omega), cb, nI_clamp (n := xn) (by omega)]
          have qa := q_askedOf (X := X) hx.2.2 (show tn < 4 by omega) (show bn < 7 by omega)
          have qy := q_yesesOf (X := X) hx.2.2 (show tn < 4 by omega) (show bn < 7 by omega)
          have sz := hx.1.2.1.2 bn hbn
          have s99 := ho.2.1.2 bn hbn
          have h40 := sAs_le d6 (l := s.2.2.2.1) (A := s.2.2.2.2) (t := tn) (k := bn)
          have hy := sYe_le (nb := s.2.1.1) (l := s.2.2.2.1) (A := s.2.2.2.2) (t := tn) (k := bn)
          have xc := hx.1.2.2.2.2.2.2
          generalize sAs s.2.1.1 s.2.2.2.1 s.2.2.2.2 tn bn = n at *
          generalize sYe s.2.1.1 s.2.2.2.1 s.2.2.2.2 tn bn = y at *
          generalize s.2.1.2 bn = size at *
          have c0 : (nI n = 0) = (n = 0) := nI_0e (by omega)
          have c8 : (8 < nI n) = (8 < n) := ok_lt (x := 8) (by decide) (by omega)
          have cz : (nI size < nI n) = (size < n) := ok_lt (by omega) (by omega)
          by_cases h5 : n = 0
          · rw [if_pos h5]
            simp only [e103_0, e103_1, e103_4, e103_7, e103_8, e103_9, e103_12, e103_15, e103_16, e103_17, e103_20, e103_23, e103_26, e103_28, e103_29, e103_30, e103_33, e103_36, e103_38, e103_39, e103_40, e103_43, e103_44, e103_45, e103_48, e103_50, e103_51, e103_54, e103_55, e103_58, e103_60, e103_62, e103_65, e103_67, e103_68, e103_70, e103_72, e103_75, e103_77, e103_79, e103_82, e103_84, e103_85, e103_86, e103_89, e103_90, e103_91, e103_94, e103_96, e103_98, e103_101, e103_102, e103_105, e103_107, e103_109, e103_111, e103_112, e103_115, e103_118, e103_119, e103_122, e103_124, e103_126, e103_128, e103_129, e103_132, e23_0, e23_1, e23_4, e23_5, e23_6, s0, s0_0, s0_1, s0_2, s0_3, s0_4, s0_5, s0_6, s0_7, r0_0, r0_1, r0_2, r0_3, r0_4, r0_5, r0_6, r0_7, s1, s1_0, s1_1, s1_2, s1_3, s1_4, r1_0, r1_1, r1_2, r1_3, s2, s3, s4, s5, s36, s36_0, s36_1, s36_2, r36_0, r36_1, r36_2, s37, s38, s39, s40, s41, s42, s43, s44, s45, s46, s47, s47_0, s47_1, i1, i2, i3, i4, z10, z01, z1m, zm1, z0m, zm0, qa, cb, sz, c0, h5, (eq_true rfl : (nI 0 = 0) = True), a2 (show bn < 6 by omega), am_bv_s, am_bw_s, eq_self, true_or, or_true, am_b0, am_b1, am_em, if_true, if_false, true_and, and_true, false_and, and_false, not_true_eq_false, not_false_eq_true, false_or, or_false, Bool.false_eq_true]
          · rw [if_neg h5]
            by_cases h6 : 8 < n
            · rw [if_pos (Or.inl h6)]
              simp only [e103_0, e103_1, e103_4, e103_7, e103_8, e103_9, e103_12, e103_15, e103_16, e103_17, e103_20, e103_23, e103_26, e103_28, e103_29, e103_30, e103_33, e103_36, e103_38, e103_39, e103_40, e103_43, e103_44, e103_45, e103_48, e103_50, e103_51, e103_54, e103_55, e103_58, e103_60, e103_62, e103_65, e103_67, e103_68, e103_70, e103_72, e103_75, e103_77, e103_79, e103_82, e103_84, e103_85, e103_86, e103_89, e103_90, e103_91, e103_94, e103_96, e103_98, e103_101, e103_102, e103_105, e103_107, e103_109, e103_111, e103_112, e103_115, e103_118, e103_119, e103_122, e103_124, e103_126, e103_128, e103_129, e103_132, e23_0, e23_1, e23_4, e23_5, e23_6, s0, s0_0, s0_1, s0_2, s0_3, s0_4, s0_5, s0_6, s0_7, r0_0, r0_1, r0_2, r0_3, r0_4, r0_5, r0_6, r0_7, s1, s1_0, s1_1, s1_2, s1_3, s1_4, r1_0, r1_1, r1_2, r1_3, s2, s3, s4, s5, s36, s36_0, s36_1, s36_2, r36_0, r36_1, r36_2, s37, s38, s39, s40, s41, s42, s43, s44, s45, s46, s47, s47_0, s47_1, i1, i2, i3, i4, z10, z01, z1m, zm1, z0m, zm0, qa, cb, sz, c0, h5, c8, h6, a2 (show bn < 6 by omega), am_bv_s, am_bw_s, eq_self, true_or, or_true, am_b0, am_b1, am_em, if_true, if_false, true_and, and_true, false_and, and_false, not_true_eq_false, not_false_eq_true, false_or, or_false, Bool.false_eq_true]
            · by_cases h7 : size < n
              · rw [if_pos (Or.inr h7)]
                simp only [e103_0, e103_1, e103_4, e103_7, e103_8, e103_9, e103_12, e103_15, e103_16, e103_17, e103_20, e103_23, e103_26, e103_28, e103_29, e103_30, e103_33, e103_36, e103_38, e103_39, e103_40, e103_43, e103_44, e103_45, e103_48, e103_50, e103_51, e103_54, e103_55, e103_58, e103_60, e103_62, e103_65, e103_67, e103_68, e103_70, e103_72, e103_75, e103_77, e103_79, e103_82, e103_84, e103_85, e103_86, e103_89, e103_90, e103_91, e103_94, e103_96, e103_98, e103_101, e103_102, e103_105, e103_107, e103_109, e103_111, e103_112, e103_115, e103_118, e103_119, e103_122, e103_124, e103_126, e103_128, e103_129, e103_132, e23_0, e23_1, e23_4, e23_5, e23_6, s0, s0_0, s0_1, s0_2, s0_3, s0_4, s0_5, s0_6, s0_7, r0_0, r0_1, r0_2, r0_3, r0_4, r0_5, r0_6, r0_7, s1, s1_0, s1_1, s1_2, s1_3, s1_4, r1_0, r1_1, r1_2, r1_3, s2, s3, s4, s5, s36, s36_0, s36_1, s36_2, r36_0, r36_1, r36_2, s37, s38, s39, s40, s41, s42, s43, s44, s45, s46, s47, s47_0, s47_1, i1, i2, i3, i4, z10, z01, z1m, zm1, z0m, zm0, qa, cb, sz, c0, h5, c8, h6, cz, h7, a2 (show bn < 6 by omega), am_bv_s, am_bw_s, eq_self, true_or, or_true, am_b0, am_b1, am_em, if_true, if_false, true_and, and_true, false_and, and_false, not_true_eq_false, not_false_eq_true, false_or, or_false, Bool.false_eq_true]
              · rw [if_neg (by omega)]
                by_cases h8 : e = 0
                · subst h8
                  rw [if_pos rfl]
                  have h8 : ((0 : Int32) = 0) = True := eq_true rfl
                  have lk := q_leastKnown (X := X) (size := size) (n := n) (y := y) (x := xn) xc (by omega) (by omega) hy hxn
                  simp only [e103_0, e103_1, e103_4, e103_7, e103_8, e103_9, e103_12, e103_15, e103_16, e103_17, e103_20, e103_23, e103_26, e103_28, e103_29, e103_30, e103_33, e103_36, e103_38, e103_39, e103_40, e103_43, e103_44, e103_45, e103_48, e103_50, e103_51, e103_54, e103_55, e103_58, e103_60, e103_62, e103_65, e103_67, e103_68, e103_70, e103_72, e103_75, e103_77, e103_79, e103_82, e103_84, e103_85, e103_86, e103_89, e103_90, e103_91, e103_94, e103_96, e103_98, e103_101, e103_102, e103_105, e103_107, e103_109, e103_111, e103_112, e103_115, e103_118, e103_119, e103_122, e103_124, e103_126, e103_128, e103_129, e103_132, e23_0, e23_1, e23_4, e23_5, e23_6, s0, s0_0, s0_1, s0_2, s0_3, s0_4, s0_5, s0_6, s0_7, r0_0, r0_1, r0_2, r0_3, r0_4, r0_5, r0_6, r0_7, s1, s1_0, s1_1, s1_2, s1_3, s1_4, r1_0, r1_1, r1_2, r1_3, s2, s3, s4, s5, s36, s36_0, s36_1, s36_2, r36_0, r36_1, r36_2, s37, s38, s39, s40, s41, s42, s43, s44, s45, s46, s47, s47_0, s47_1, s48, s48_0, r48_0, s49, i1, i2, i3, i4, z10, z01, z1m, zm1, z0m, zm0, qa, qy, cb, sz, c0, h5, c8, h6, cz, h7, h8, lk, a2 (show bn < 6 by omega), am_bv_s, am_bw_s, eq_self, true_or, or_true, am_b0, am_b1, am_em, if_true, if_false, true_and, and_true, false_and, and_false, not_true_eq_false, not_false_eq_true, false_or, or_false, Bool.false_eq_true]
                · rw [if_neg h8]
                  have lk := q_greatestKnown (X := X) (size := size) (n := n) (y := y) (x := xn) xc (by omega) (by omega) hy hxn
                  simp only [e103_0, e103_1, e103_4, e103_7, e103_8, e103_9, e103_12, e103_15, e103_16, e103_17, e103_20, e103_23, e103_26, e103_28, e103_29, e103_30, e103_33, e103_36, e103_38, e103_39, e103_40, e103_43, e103_44, e103_45, e103_48, e103_50, e103_51, e103_54, e103_55, e103_58, e103_60, e103_62, e103_65, e103_67, e103_68, e103_70, e103_72, e103_75, e103_77, e103_79, e103_82, e103_84, e103_85, e103_86, e103_89, e103_90, e103_91, e103_94, e103_96, e103_98, e103_101, e103_102, e103_105, e103_107, e103_109, e103_111, e103_112, e103_115, e103_118, e103_119, e103_122, e103_124, e103_126, e103_128, e103_129, e103_132, e23_0, e23_1, e23_4, e23_5, e23_6, s0, s0_0, s0_1, s0_2, s0_3, s0_4, s0_5, s0_6, s0_7, r0_0, r0_1, r0_2, r0_3, r0_4, r0_5, r0_6, r0_7, s1, s1_0, s1_1, s1_2, s1_3, s1_4, r1_0, r1_1, r1_2, r1_3, s2, s3, s4, s5, s36, s36_0, s36_1, s36_2, r36_0, r36_1, r36_2, s37, s38, s39, s40, s41, s42, s43, s44, s45, s46, s47, s47_0, s47_1, s48, s48_0, r48_0, s49, i1, i2, i3, i4, z10, z01, z1m, zm1, z0m, zm0, qa, qy, cb, sz, c0, h5, c8, h6, cz, h7, h8, lk, a2 (show bn < 6 by omega), am_bv_s, am_bw_s, eq_self, true_or, or_true, am_b0, am_b1, am_em, if_true, if_false, true_and, and_true, false_and, and_false, not_true_eq_false, not_false_eq_true, false_or, or_false, Bool.false_eq_true]
        · rw [am_bf h4] at i4
          rw [if_neg (fun q => h4 q.2.2)]
          simp only [e103_0, e103_1, e103_4, e103_7, e103_8, e103_9, e103_12, e103_15, e103_16, e103_17, e103_20, e103_23, e103_26, e103_28, e103_29, e103_30, e103_33, e103_36, e103_38, e103_39, e103_40, e103_43, e103_44, e103_45, e103_48, e103_50, e103_51, e103_54, e103_55, e103_58, e103_60, e103_62, e103_65, e103_67, e103_68, e103_70, e103_72, e103_75, e103_77, e103_79, e103_82, e103_84, e103_85, e103_86, e103_89, e103_90, e103_91, e103_94, e103_96, e103_98, e103_101, e103_102, e103_105, e103_107, e103_109, e103_111, e103_112, e103_115, e103_118, e103_119, e103_122, e103_124, e103_126, e103_128, e103_129, e103_132, s0, s0_0, s0_1, s0_2, s0_3, s0_4, s0_5, s0_6, s0_7, r0_0, r0_1, r0_2, r0_3, r0_4, r0_5, r0_6, r0_7, i1, i2, i3, i4, z10, z01, z1m, zm1, z0m, zm0, am_bv_s, am_bw_s, eq_self, true_or, or_true, am_b0, am_b1, am_em, if_true, if_false, true_and, and_true, false_and, and_false, not_true_eq_false, not_false_eq_true, false_or, or_false, Bool.false_eq_true]
      · rw [am_bf h3] at i3
        rw [if_neg (fun q => h3 q.2.1)]
        simp only [e103_0, e103_1, e103_4, e103_7, e103_8, e103_9, e103_12, e103_15, e103_16, e103_17, e103_20, e103_23, e103_26, e103_28, e103_29, e103_30, e103_33, e103_36, e103_38, e103_39, e103_40, e103_43, e103_44, e103_45, e103_48, e103_50, e103_51, e103_54, e103_55, e103_58, e103_60, e103_62, e103_65, e103_67, e103_68, e103_70, e103_72, e103_75, e103_77, e103_79, e103_82, e103_84, e103_85, e103_86, e103_89, e103_90, e103_91, e103_94, e103_96, e103_98, e103_101, e103_102, e103_105, e103_107, e103_109, e103_111, e103_112, e103_115, e103_118, e103_119, e103_122, e103_124, e103_126, e103_128, e103_129, e103_132, s0, s0_0, s0_1, s0_2, s0_3, s0_4, s0_5, s0_6, s0_7, r0_0, r0_1, r0_2, r0_3, r0_4, r0_5, r0_6, r0_7, i1, i2, i3, z10, z01, z1m, zm1, z0m, zm0, am_bv_s, am_bw_s, eq_self, true_or, or_true, am_b0, am_b1, am_em, if_true, if_false, true_and, and_true, false_and, and_false, not_true_eq_false, not_false_eq_true, false_or, or_false, Bool.false_eq_true]
    · rw [am_bf h2] at i2
      rw [if_neg (fun q => h2 q.1.2)]
      simp only [e103_0, e103_1, e103_4, e103_7, e103_8, e103_9, e103_12, e103_15, e103_16, e103_17, e103_20, e103_23, e103_26, e103_28, e103_29, e103_30, e103_33, e103_36, e103_38, e103_39, e103_40, e103_43, e103_44, e103_45, e103_48, e103_50, e103_51, e103_54, e103_55, e103_58, e103_60, e103_62, e103_65, e103_67, e103_68, e103_70, e103_72, e103_75, e103_77, e103_79, e103_82, e103_84, e103_85, e103_86, e103_89, e103_90, e103_91, e103_94, e103_96, e103_98, e103_101, e103_102, e103_105, e103_107, e103_109, e103_111, e103_112, e103_115, e103_118, e103_119, e103_122, e103_124, e103_126, e103_128, e103_129, e103_132, s0, s0_0, s0_1, s0_2, s0_3, s0_4, s0_5, s0_6, s0_7, r0_0, r0_1, r0_2, r0_3, r0_4, r0_5, r0_6, r0_7, i1, i2, z10, z01, z1m, zm1, z0m, zm0, am_bv_s, am_bw_s, eq_self, true_or, or_true, am_b0, am_b1, am_em, if_true, if_false, true_and, and_true, false_and, and_false, not_true_eq_false, not_false_eq_true, false_or, or_false, Bool.false_eq_true]
  · rw [am_bf h1] at i1
    rw [if_neg (fun q => h1 q.1.1)]
    simp only [e103_0, e103_1, e103_4, e103_7, e103_8, e103_9, e103_12, e103_15, e103_16, e103_17, e103_20, e103_23, e103_26, e103_28, e103_29, e103_30, e103_33, e103_36, e103_38, e103_39, e103_40, e103_43, e103_44, e103_45, e103_48, e103_50, e103_51, e103_54, e103_55, e103_58, e103_60, e103_62, e103_65, e103_67, e103_68, e103_70, e103_72, e103_75, e103_77, e103_79, e103_82, e103_84, e103_85, e103_86, e103_89, e103_90, e103_91, e103_94, e103_96, e103_98, e103_101, e103_102, e103_105, e103_107, e103_109, e103_111, e103_112, e103_115, e103_118, e103_119, e103_122, e103_124, e103_126, e103_128, e103_129, e103_132, s0, s0_0, s0_1, s0_2, s0_3, s0_4, s0_5, s0_6, s0_7, r0_0, r0_1, r0_2, r0_3, r0_4, r0_5, r0_6, r0_7, i1, z10, z01, z1m, zm1, z0m, zm0, am_bv_s, am_bw_s, eq_self, true_or, or_true, am_b0, am_b1, am_em, if_true, if_false, true_and, and_true, false_and, and_false, not_true_eq_false, not_false_eq_true, false_or, or_false, Bool.false_eq_true]
end
