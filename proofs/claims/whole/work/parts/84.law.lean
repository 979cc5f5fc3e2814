/-! the law: its loop, its run -/
section
variable {X : am_X} {S : am_Sh} {M M' M1 : am_Me} {P : Nat → Nat → Prop}
theorem and31 (v : Int32) : 0 ≤ (v &&& 31).toInt ∧ (v &&& 31).toInt ≤ 31 := by
  have h : (v &&& 31).toBitVec.toNat ≤ 31 := by
    rw [Int32.toBitVec_and, BitVec.toNat_and]
    exact Nat.and_le_right
  have e : (v &&& 31).toInt = ((v &&& 31).toBitVec.toNat : Int) := BitVec.toInt_eq_toNat_of_lt (by omega)
  omega
theorem l_call {ar i : Nat} {s : sgm} (hb : BB s M) (hi : i + 6 ≤ X.1) (hX : X.1 < 2 ^ 30) : ∃ s' M', am_e X 0 33 [some (.retAddr ar), some (.ref (0 : Nat)), some (.ref (59 : Nat)), some (.int (nI i))] [.int (X.2 i &&& 31)] kS M = am_e X 0 1327 [some (.retAddr ar), some (.ref (0 : Nat)), some (.ref (59 : Nat)), some (.int (nI i))] [] kS M' ∧ BB s' M' := by
  obtain ⟨h0, h1⟩ := and31 (X.2 i)
  have h32 : (X.2 i &&& 31).toInt = 0 ∨ (X.2 i &&& 31).toInt = 1 ∨ (X.2 i &&& 31).toInt = 2 ∨ (X.2 i &&& 31).toInt = 3 ∨ (X.2 i &&& 31).toInt = 4 ∨ (X.2 i &&& 31).toInt = 5 ∨ (X.2 i &&& 31).toInt = 6 ∨ (X.2 i &&& 31).toInt = 7 ∨ (X.2 i &&& 31).toInt = 8 ∨ (X.2 i &&& 31).toInt = 9 ∨ (X.2 i &&& 31).toInt = 10 ∨ (X.2 i &&& 31).toInt = 11 ∨ (X.2 i &&& 31).toInt = 12 ∨ (X.2 i &&& 31).toInt = 13 ∨ (X.2 i &&& 31).toInt = 14 ∨ (X.2 i &&& 31).toInt = 15 ∨ (X.2 i &&& 31).toInt = 16 ∨ (X.2 i &&& 31).toInt = 17 ∨ (X.2 i &&& 31).toInt = 18 ∨ (X.2 i &&& 31).toInt = 19 ∨ (X.2 i &&& 31).toInt = 20 ∨ (X.2 i &&& 31).toInt = 21 ∨ (X.2 i &&& 31).toInt = 22 ∨ (X.2 i &&& 31).toInt = 23 ∨ (X.2 i &&& 31).toInt = 24 ∨ (X.2 i &&& 31).toInt = 25 ∨ (X.2 i &&& 31).toInt = 26 ∨ (X.2 i &&& 31).toInt = 27 ∨ (X.2 i &&& 31).toInt = 28 ∨ (X.2 i &&& 31).toInt = 29 ∨ (X.2 i &&& 31).toInt = 30 ∨ (X.2 i &&& 31).toInt = 31 := by omega
  rcases h32 with h | h | h | h | h | h | h | h | h | h | h | h | h | h | h | h | h | h | h | h | h | h | h | h | h | h | h | h | h | h | h | h
  · rw [e0_33_0 (h := h)]
    exact lc_0 hb hi hX
  · rw [e0_33_1 (h := h)]
    exact lc_1 hb hi hX
  · rw [e0_33_2 (h := h)]
    exact lc_2 hb hi hX
  · rw [e0_33_3 (h := h)]
    exact lc_3 hb hi hX
  · rw [e0_33_4 (h := h)]
    exact lc_4 hb hi hX
  · rw [e0_33_5 (h := h)]
    exact lc_5 hb hi hX
  · rw [e0_33_6 (h := h)]
    exact lc_6 hb hi hX
  · rw [e0_33_7 (h := h)]
    exact lc_7 hb hi hX
  · rw [e0_33_8 (h := h)]
    exact lc_8 hb hi hX
  · rw [e0_33_9 (h := h)]
    exact lc_9 hb hi hX
  · rw [e0_33_10 (h := h)]
    exact lc_10 hb hi hX
  · rw [e0_33_11 (h := h)]
    exact lc_11 hb hi hX
  · rw [e0_33_12 (h := h)]
    exact lc_12 hb hi hX
  · rw [e0_33_13 (h := h)]
    exact lc_13 hb hi hX
  · rw [e0_33_14 (h := h)]
    exact lc_14 hb hi hX
  · rw [e0_33_15 (h := h)]
    exact lc_15 hb hi hX
  · rw [e0_33_16 (h := h)]
    exact lc_16 hb hi hX
  · rw [e0_33_17 (h := h)]
    exact lc_17 hb hi hX
  · rw [e0_33_18 (h := h)]
    exact lc_18 hb hi hX
  · rw [e0_33_19 (h := h)]
    exact lc_19 hb hi hX
  · rw [e0_33_20 (h := h)]
    exact lc_20 hb hi hX
  · rw [e0_33_21 (h := h)]
    exact lc_21 hb hi hX
  · rw [e0_33_22 (h := h)]
    exact lc_22 hb hi hX
  · rw [e0_33_23 (h := h)]
    exact lc_23 hb hi hX
  · rw [e0_33_24 (h := h)]
    exact lc_24 hb hi hX
  · rw [e0_33_25 (h := h)]
    exact lc_25 hb hi hX
  · rw [e0_33_26 (h := h)]
    exact lc_26 hb hi hX
  · rw [e0_33_27 (h := h)]
    exact lc_27 hb hi hX
  · rw [e0_33_28 (h := h)]
    exact lc_28 hb hi hX
  · rw [e0_33_29 (h := h)]
    exact lc_29 hb hi hX
  · rw [e0_33_30 (h := h)]
    exact lc_30 hb hi hX
  · rw [e0_33_31 (h := h)]
    exact lc_31 hb hi hX
theorem l_loop {ar : Nat} (hX : X.1 < 2 ^ 30) : ∀ (k i : Nat) (s : sgm) (M : am_Me), X.1 + 6 ≤ i + 6 * k → i < 2 ^ 30 + 6 → BB s M → ∃ M', am_e X 0 18 [some (.retAddr ar), some (.ref (0 : Nat)), some (.ref (59 : Nat)), some (.int (nI i))] [] kS M = some (some (.int 1), kS, M') := by
  intro k
  induction k with
  | zero =>
    intro i s M hk hi hb
    have cx : (Int32.ofNat X.1 - 6 < nI i) = True := eq_true (by
      have t1 : (nI X.1 - 6).toInt = (X.1 : Int) - 6 := by
        rw [Jvm.Kit.i32_sub (by rw [nI_toInt (by omega), show (6 : Int32).toInt = 6 from by decide]; omega) (by rw [nI_toInt (by omega), show (6 : Int32).toInt = 6 from by decide]; omega), nI_toInt (by omega)]
        rfl
      show nI X.1 - 6 < nI i
      rw [Int32.lt_iff_toInt_lt, t1, nI_toInt (by omega)]
      omega)
    refine ⟨M, ?_⟩
    simp only [e0_18, e0_19, e0_20, e0_21, e0_23, e0_24, e0_1333, e0_1334, cx, am_o01, am_bv_s, am_bw_s, eq_self, true_or, or_true, am_b0, am_b1, am_em, if_true, if_false, true_and, and_true, false_and, and_false, not_true_eq_false, not_false_eq_true, false_or, or_false, Bool.false_eq_true]
  | succ k ih =>
    intro i s M hk hi hb
    have cx : (Int32.ofNat X.1 - 6 < nI i) = (X.1 < i + 6) := by
      have t1 : (nI X.1 - 6).toInt = (X.1 : Int) - 6 := by
        rw [Jvm.Kit.i32_sub (by rw [nI_toInt (by omega), show (6 : Int32).toInt = 6 from by decide]; omega) (by rw [nI_toInt (by omega), show (6 : Int32).toInt = 6 from by decide]; omega), nI_toInt (by omega)]
        rfl
      show (nI X.1 - 6 < nI i) = _
      rw [Int32.lt_iff_toInt_lt, t1, nI_toInt (by omega)]
      exact propext (by omega)
    by_cases h : X.1 < i + 6
    · refine ⟨M, ?_⟩
      simp only [e0_18, e0_19, e0_20, e0_21, e0_23, e0_24, e0_1333, e0_1334, cx, h, am_o01, am_bv_s, am_bw_s, eq_self, true_or, or_true, am_b0, am_b1, am_em, if_true, if_false, true_and, and_true, false_and, and_false, not_true_eq_false, not_false_eq_true, false_or, or_false, Bool.false_eq_true]
    · obtain ⟨s', M2, r2, b2⟩ := l_call (X := X) (ar := ar) hb (show i + 6 ≤ X.1 by omega) hX
      obtain ⟨M3, r3⟩ := ih (i + 6) s' M2 (by omega) (by omega) b2
      refine ⟨M3, ?_⟩
      have n6 : nI i + 6 = nI (i + 6) := nI_add i 6
      have ci : (nI i).toNatClampNeg = i := nI_clamp (by omega)
      have zi := nlt0 (n := i) (by omega)
      have yi := gsc (i := i) (n := X.1) (by omega)
      simp only [e0_18, e0_19, e0_20, e0_21, e0_23, e0_24, e0_27, e0_28, e0_29, e0_30, e0_32, cx, h, ci, zi, yi, r2, e0_1327, e0_1330, n6, r3, am_bv_s, am_bw_s, eq_self, true_or, or_true, am_b0, am_b1, am_em, if_true, if_false, true_and, and_true, false_and, and_false, not_true_eq_false, not_false_eq_true, false_or, or_false, Bool.false_eq_true]
theorem l_law {ar : Nat} (hX : X.1 < 2 ^ 30) : ∃ M', am_e X 0 0 [some (.retAddr ar), none, none, none] [] h0 M = some (some (.int 1), kS, M') := by
  obtain ⟨M1, r1, j1, o1⟩ := x_init (X := X) (M := am_clr M 0)
  obtain ⟨M2, r2, j2, o2⟩ := m_init (X := X) (M := am_clr M1 59) (fun k => by rw [gC, if_pos rfl])
  have jc : JX st0 (am_clr M1 59) := j1.of (am_of.cl (P := fun a _ => a = 59) am_of.rf (fun _ => rfl)) (fun a k q => by unfold pS; omega)
  have jx : JX st0 M2 := jc.of o2 (fun a k q => by unfold pS; omega)
  obtain ⟨M3, r3⟩ := l_loop (X := X) (ar := ar) hX (X.1 + 6) 0 st0 M2 (by omega) (by omega) ⟨jx, j2, st0_ok⟩
  rw [nI_0] at r3
  refine ⟨M3, ?_⟩
  simp only [e0_0, e0_3, e0_4, e0_7, e0_8, e0_11, e0_12, e0_15, e0_16, e0_17, hn0, ht0, hn73, ht73, il4, ic4, ib4, il6, ic6, ib6, il7, ic7, ib7, il36, ic36, ib36, il40, ic40, ib40, il50, ic50, ib50, il60, ic60, ib60, il80, ic80, ib80, il120, ic120, ib120, il160, ic160, ib160, il240, ic240, ib240, il900, ic900, ib900, r1, r2, r3, am_bv_s, am_bw_s, eq_self, true_or, or_true, am_b0, am_b1, am_em, if_true, if_false, true_and, and_true, false_and, and_false, not_true_eq_false, not_false_eq_true, false_or, or_false, Bool.false_eq_true]
end
