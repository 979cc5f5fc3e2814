/-! the class: answers and tallies -/
theorem sdn_c {A B : sgA} {tm t w : Nat} : ∀ n, (∀ i, i < n → A.2.1 i = B.2.1 i ∧ A.2.2.1 i = B.2.2.1 i ∧ A.2.2.2.1 i = B.2.2.2.1 i ∧ A.2.2.2.2.1 i = B.2.2.2.2.1 i) → sdn A tm t w n = sdn B tm t w n
  | 0, _ => rfl
  | n + 1, h => by
    obtain ⟨h1, h2, h3, h4⟩ := h n (by omega)
    unfold sdn
    rw [h1, h2, h3, h4, sdn_c n (fun i hi => h i (by omega))]
def aOf (A : sgA) (tm : Nat) : sgA := (A.1, A.2.1, A.2.2.1, A.2.2.2.1, A.2.2.2.2.1, tm)
def aTl (A : sgA) (t w : Nat) (v : Int32) (tm : Nat) : sgA := (A.1 + 1, fun i => if i = A.1 then t else A.2.1 i, fun i => if i = A.1 then w else A.2.2.1 i, fun i => if i = A.1 then v else A.2.2.2.1 i, fun i => if i = A.1 then tm else A.2.2.2.2.1 i, A.2.2.2.2.2)
theorem sd_aOf {A : sgA} {tm' tm t w : Nat} : sd (aOf A tm') tm t w = sd A tm t w := sdn_c _ (fun _ _ => ⟨rfl, rfl, rfl, rfl⟩)
theorem sd_aTl {A : sgA} {t' w' tm' tm t w : Nat} {v : Int32} : sd (aTl A t' w' v tm') tm t w = if t' = t ∧ w' = w ∧ tm' ≤ tm then v else sd A tm t w := by
  show sdn (aTl A t' w' v tm') tm t w (A.1 + 1) = _
  rw [sdn]
  have e : sdn (aTl A t' w' v tm') tm t w A.1 = sd A tm t w := sdn_c _ (fun i hi => by
    have : i ≠ A.1 := by omega
    unfold aTl
    refine ⟨if_neg this, if_neg this, if_neg this, if_neg this⟩)
  rw [e]
  unfold aTl
  simp only [if_true]
theorem okA.tl {A : sgA} (ho : okA A) {t w tm : Nat} {v : Int32} (hn : A.1 < 120) (ht : t < 4) (hw : w < 40) (hv : okS v) (htm : tm ≤ 999) : okA (aTl A t w v tm) := by
  refine ⟨hn, ho.2.1, fun i hi => ?_⟩
  unfold aTl
  dsimp only
  by_cases e : i = A.1
  · simp only [e, if_true]; exact ⟨ht, hw, hv, htm⟩
  · simp only [if_neg e]
    have : i < A.1 := by
      have : i < A.1 + 1 := hi
      omega
    exact ho.2.2 i this
theorem okA.of {A : sgA} (ho : okA A) {tm : Nat} (htm : tm ≤ 999) : okA (aOf A tm) := ⟨ho.1, htm, ho.2.2⟩
def aLt (A : sgA) : Nat := if 0 < A.1 then A.2.2.2.2.1 (A.1 - 1) else 0
theorem aLt_le {A : sgA} (ho : okA A) : aLt A ≤ 999 := by
  unfold aLt
  split
  · exact (ho.2.2 _ (by omega)).2.2.2
  · omega
theorem ok_lt {x y : Nat} (hx : x < 2 ^ 31) (hy : y < 2 ^ 31) : (nI x < nI y) = (x < y) := propext ⟨fun h => by
  rw [Int32.lt_iff_toInt_lt, nI_toInt hx, nI_toInt hy] at h; omega, fun h => nI_lt h hy⟩
theorem ok_eq {x y : Nat} (hx : x < 2 ^ 31) (hy : y < 2 ^ 31) : (nI x = nI y) = (x = y) := propext (nI_eq hx hy)
theorem nI_m1 {n : Nat} (h : 0 < n) : nI n - 1 = nI (n - 1) := pk_sub (b := 1) h
def pxA (a k : Nat) : Prop := (24 = a ∧ (k = 7 ∨ k = 8)) ∨ (25 ≤ a ∧ a ≤ 33)
section
variable {X : am_X} {S : am_Sh} {M : am_Me} {A : sgA} {nb : Nat} {l : sgL}
theorem q_latestTime (hx : xA A M) (ho : okA A) : am_e X 4 0 [some (.ref (24 : Nat))] [] kS M = some (some (.int (nI (aLt A))), kS, M) := by
  obtain ⟨h1, h2, h3⟩ := hx
  have h120 := ho.1
  unfold aLt
  by_cases h : 0 < A.1
  · have c1 : ((0 : Int32) < nI A.1) = True := eq_true (by rw [← nI_0]; exact nI_lt h (by omega))
    have cl : (nI (A.1 - 1)).toNatClampNeg = A.1 - 1 := nI_clamp (by omega)
    rw [if_pos h]
    simp only [e4_0, e4_1, e4_4, e4_7, e4_8, e4_11, e4_12, e4_15, e4_16, e4_17, e4_18, e4_21, e4_22, s24, s24_0, s24_1, s24_2, s24_3, s24_4, s24_5, s24_6, s24_7, s24_8, r24_0, r24_1, r24_2, r24_3, r24_4, r24_5, r24_6, s25, s26, s27, s28, s29, s30, s31, s32, s33, s34, s35, h1, c1, nI_m1 h, cl, a28 (show A.1 - 1 < 120 by omega), (h3 (A.1 - 1) (by omega)).2.2.2, am_bv_s, am_bw_s, eq_self, true_or, or_true, am_b0, am_b1, am_em, if_true, if_false, true_and, and_true, false_and, and_false, not_true_eq_false, not_false_eq_true, false_or, or_false, Bool.false_eq_true]
  · have c1 : ((0 : Int32) < nI A.1) = False := eq_false (by rw [← nI_0]; exact nI_nlt (by omega) (by omega))
    rw [if_neg h]
    simp only [e4_0, e4_1, e4_4, e4_7, e4_8, e4_11, e4_12, e4_15, e4_16, e4_17, e4_18, e4_21, e4_22, s24, s24_0, s24_1, s24_2, s24_3, s24_4, s24_5, s24_6, s24_7, s24_8, r24_0, r24_1, r24_2, r24_3, r24_4, r24_5, r24_6, s25, s26, s27, s28, s29, s30, s31, s32, s33, s34, s35, h1, c1, am_bv_s, am_bw_s, eq_self, true_or, or_true, am_b0, am_b1, am_em, if_true, if_false, true_and, and_true, false_and, and_false, not_true_eq_false, not_false_eq_true, false_or, or_false, Bool.false_eq_true]
    rfl
theorem q_mayBeTold (hx : xA A M) (ho : okA A) (v : Int32) : am_e X 132 0 [some (.ref (0 : Nat)), some (.int v)] [] kS M = some (some (.int (am_b ((0 ≤ v ∧ v ≤ 999) ∧ ¬ v < nI (aLt A)))), kS, M) := by
  by_cases h1 : 0 ≤ v ∧ v ≤ 999
  · by_cases h2 : v < nI (aLt A)
    · rw [am_bf (fun q => q.2 h2)]
      simp only [e132_0, e132_1, e132_4, e132_7, e132_8, e132_9, e132_12, e132_15, e132_18, e132_19, e132_22, e132_23, s0, s0_0, s0_1, s0_2, s0_3, s0_4, s0_5, s0_6, s0_7, r0_0, r0_1, r0_2, r0_3, r0_4, r0_5, r0_6, r0_7, s24, s24_0, s24_1, s24_2, s24_3, s24_4, s24_5, s24_6, s24_7, s24_8, r24_0, r24_1, r24_2, r24_3, r24_4, r24_5, r24_6, s25, s26, s27, s28, s29, s30, s31, s32, s33, s34, s35, q_isTime, am_bt h1, q_latestTime hx ho, h2, am_bv_s, am_bw_s, eq_self, true_or, or_true, am_b0, am_b1, am_em, if_true, if_false, true_and, and_true, false_and, and_false, not_true_eq_false, not_false_eq_true, false_or, or_false, Bool.false_eq_true]
      rw [if_neg (by decide)]
    · rw [am_bt ⟨h1, h2⟩]
      simp only [e132_0, e132_1, e132_4, e132_7, e132_8, e132_9, e132_12, e132_15, e132_18, e132_19, e132_22, e132_23, s0, s0_0, s0_1, s0_2, s0_3, s0_4, s0_5, s0_6, s0_7, r0_0, r0_1, r0_2, r0_3, r0_4, r0_5, r0_6, r0_7, s24, s24_0, s24_1, s24_2, s24_3, s24_4, s24_5, s24_6, s24_7, s24_8, r24_0, r24_1, r24_2, r24_3, r24_4, r24_5, r24_6, s25, s26, s27, s28, s29, s30, s31, s32, s33, s34, s35, q_isTime, am_bt h1, q_latestTime hx ho, h2, am_bv_s, am_bw_s, eq_self, true_or, or_true, am_b0, am_b1, am_em, if_true, if_false, true_and, and_true, false_and, and_false, not_true_eq_false, not_false_eq_true, false_or, or_false, Bool.false_eq_true]
      rw [if_neg (by decide)]
  · rw [am_bf (fun q => h1 q.1)]
    simp only [e132_0, e132_1, e132_4, e132_7, e132_8, e132_9, e132_12, e132_15, e132_18, e132_19, e132_22, e132_23, s0, s0_0, s0_1, s0_2, s0_3, s0_4, s0_5, s0_6, s0_7, r0_0, r0_1, r0_2, r0_3, r0_4, r0_5, r0_6, r0_7, q_isTime, am_bf h1, am_bv_s, am_bw_s, eq_self, true_or, or_true, am_b0, am_b1, am_em, if_true, if_false, true_and, and_true, false_and, and_false, not_true_eq_false, not_false_eq_true, false_or, or_false, Bool.false_eq_true]
theorem q_tell {t w tm : Nat} {v : Int32} (hx : xA A M) (hn : xN A M) (ho : okA A) (h120 : A.1 < 120) (ht : t < 4) (hw : w < 40) (htm : tm ≤ 999) :
    ∃ M', am_e X 8 0 [some (.ref (24 : Nat)), some (.int (nI t)), some (.int (nI w)), some (.int v), some (.int (nI tm))] [] kS M = some (none, kS, M') ∧ xA (aTl A t w v tm) M' ∧ xN (aTl A t w v tm) M' ∧ am_of pxA M M' := by
  obtain ⟨h1, h2, h3⟩ := hx
  have hao := ho.2.1
  have cl : (nI A.1).toNatClampNeg = A.1 := nI_clamp (by omega)
  have ct : (nI t).toNatClampNeg = t := nI_clamp (by omega)
  have cw : (nI w).toNatClampNeg = w := nI_clamp (by omega)
  generalize hM1 : am_setI (am_setI (am_setI (am_setI (am_setI M 25 A.1 (nI t)) 26 A.1 (nI w)) 27 A.1 v) 28 A.1 (nI tm)) 24 7 (nI (A.1 + 1)) = M1
  have of1 : am_of pxA M M1 := by
    rw [← hM1]
    exact ((((am_of.rf.sI (Or.inr (by omega))).sI (Or.inr (by omega))).sI (Or.inr (by omega))).sI (Or.inr (by omega))).sI (Or.inl ⟨rfl, Or.inl rfl⟩)
  have v1 : M1.1 24 8 = nI A.2.2.2.2.2 := by
    rw [← hM1]
    simp only [gI]
    simp only [show ¬ (8 = 7) from by decide, and_false, if_false, show ¬ (24 = 25) from by decide, show ¬ (24 = 26) from by decide, show ¬ (24 = 27) from by decide, show ¬ (24 = 28) from by decide, false_and]
    exact h2
  have x1 : xA (aTl A t w v tm) M1 := by
    refine ⟨by rw [← hM1, gI, if_pos ⟨rfl, rfl⟩]; rfl, v1, fun i hi => ?_⟩
    have hi' : i < A.1 + 1 := hi
    unfold aTl
    dsimp only
    rw [← hM1]
    by_cases e : i = A.1
    · simp only [gI, e]
      simp
    · obtain ⟨q1, q2, q3, q4⟩ := h3 i (by omega)
      simp only [gI, e]
      simp [q1, q2, q3, q4]
  have n1 : ∀ u, u < 4 → ∀ y, y < 40 → M1.1 (30 + u) y = sd A A.2.2.2.2.2 u y := by
    intro u hu y hy
    rw [← hn u hu y hy, ← hM1]
    simp only [gI]
    rw [if_neg (by omega), if_neg (by omega), if_neg (by omega), if_neg (by omega), if_neg (by omega)]
  have o1 : ∀ M' : am_Me, (am_setI M' 25 A.1 (nI t)).1 24 7 = M'.1 24 7 := fun M' => by rw [gI, if_neg (by omega)]
  have o2 : ∀ M' : am_Me, (am_setI M' 26 A.1 (nI w)).1 24 7 = M'.1 24 7 := fun M' => by rw [gI, if_neg (by omega)]
  have o3 : ∀ M' : am_Me, (am_setI M' 27 A.1 v).1 24 7 = M'.1 24 7 := fun M' => by rw [gI, if_neg (by omega)]
  have o4 : ∀ M' : am_Me, (am_setI M' 28 A.1 (nI tm)).1 24 7 = M'.1 24 7 := fun M' => by rw [gI, if_neg (by omega)]
  have run : am_e X 8 0 [some (.ref (24 : Nat)), some (.int (nI t)), some (.int (nI w)), some (.int v), some (.int (nI tm))] [] kS M = am_e X 8 51 [some (.ref (24 : Nat)), some (.int (nI t)), some (.int (nI w)), some (.int v), some (.int (nI tm))] [] kS M1 := by
    simp only [e8_0, e8_1, e8_4, e8_5, e8_8, e8_9, e8_10, e8_11, e8_14, e8_15, e8_18, e8_19, e8_20, e8_21, e8_24, e8_25, e8_28, e8_29, e8_30, e8_31, e8_34, e8_35, e8_38, e8_40, e8_41, e8_42, e8_43, e8_46, e8_47, e8_48, e8_53, e8_54, e8_57, e8_60, e8_61, e8_64, e8_65, e8_66, e8_67, e8_68, e8_69, s24, s24_0, s24_1, s24_2, s24_3, s24_4, s24_5, s24_6, s24_7, s24_8, r24_0, r24_1, r24_2, r24_3, r24_4, r24_5, r24_6, s25, s26, s27, s28, s29, s30, s31, s32, s33, s34, s35, h1, cl, o1, o2, o3, o4, nI_1, hM1, a25 (show A.1 < 120 by omega), a26 (show A.1 < 120 by omega), a27 (show A.1 < 120 by omega), a28 (show A.1 < 120 by omega), am_bv_s, am_bw_s, eq_self, true_or, or_true, am_b0, am_b1, am_em, if_true, if_false, true_and, and_true, false_and, and_false, not_true_eq_false, not_false_eq_true, false_or, or_false, Bool.false_eq_true]
  have c1 : (nI A.2.2.2.2.2 < nI tm) = (A.2.2.2.2.2 < tm) := ok_lt (by omega) (by omega)
  by_cases h : A.2.2.2.2.2 < tm
  · refine ⟨M1, ?_, x1, fun u hu y hy => ?_, of1⟩
    · rw [run, e8_51]
      simp only [e8_0, e8_1, e8_4, e8_5, e8_8, e8_9, e8_10, e8_11, e8_14, e8_15, e8_18, e8_19, e8_20, e8_21, e8_24, e8_25, e8_28, e8_29, e8_30, e8_31, e8_34, e8_35, e8_38, e8_40, e8_41, e8_42, e8_43, e8_46, e8_47, e8_48, e8_53, e8_54, e8_57, e8_60, e8_61, e8_64, e8_65, e8_66, e8_67, e8_68, e8_69, s24, s24_0, s24_1, s24_2, s24_3, s24_4, s24_5, s24_6, s24_7, s24_8, r24_0, r24_1, r24_2, r24_3, r24_4, r24_5, r24_6, s25, s26, s27, s28, s29, s30, s31, s32, s33, s34, s35, v1, c1, h, am_bv_s, am_bw_s, eq_self, true_or, or_true, am_b0, am_b1, am_em, if_true, if_false, true_and, and_true, false_and, and_false, not_true_eq_false, not_false_eq_true, false_or, or_false, Bool.false_eq_true]
    · rw [n1 u hu y hy, sd_aTl, if_neg (fun q => Nat.not_le.mpr h q.2.2)]
      rfl
  · refine ⟨am_setI M1 (30 + t) w v, ?_, x1.of (P := fun a _ => a = 30 + t) (am_of.rf.sI rfl) (fun a k q => by omega), fun u hu y hy => ?_, of1.sI (Or.inr (by omega))⟩
    · rw [run, e8_51]
      simp only [e8_0, e8_1, e8_4, e8_5, e8_8, e8_9, e8_10, e8_11, e8_14, e8_15, e8_18, e8_19, e8_20, e8_21, e8_24, e8_25, e8_28, e8_29, e8_30, e8_31, e8_34, e8_35, e8_38, e8_40, e8_41, e8_42, e8_43, e8_46, e8_47, e8_48, e8_53, e8_54, e8_57, e8_60, e8_61, e8_64, e8_65, e8_66, e8_67, e8_68, e8_69, s24, s24_0, s24_1, s24_2, s24_3, s24_4, s24_5, s24_6, s24_7, s24_8, r24_0, r24_1, r24_2, r24_3, r24_4, r24_5, r24_6, s25, s26, s27, s28, s29, s30, s31, s32, s33, s34, s35, v1, c1, h, ct, cw, a29 ht, r29 t ht, t29 t ht, g29 ht hw, am_bv_s, am_bw_s, eq_self, true_or, or_true, am_b0, am_b1, am_em, if_true, if_false, true_and, and_true, false_and, and_false, not_true_eq_false, not_false_eq_true, false_or, or_false, Bool.false_eq_true]
    · rw [sd_aTl, gI]
      by_cases e : t = u ∧ w = y
      · rw [if_pos (by omega), if_pos ⟨e.1, e.2, Nat.not_lt.mp h⟩]
      · rw [if_neg (by omega), if_neg (fun q => e ⟨q.1, q.2.1⟩)]
        exact n1 u hu y hy
def pxN (a k : Nat) : Prop := (24 = a ∧ k = 8) ∨ (30 ≤ a ∧ a ≤ 33)
theorem q_viewAsOf {tm : Nat} (hx : xA A M) (ho : okA A) (htm : tm ≤ 999) :
    ∃ M', am_e X 9 0 [some (.ref (24 : Nat)), some (.int (nI tm)), none] [] kS M = some (none, kS, M') ∧ xA (aOf A tm) M' ∧ xN (aOf A tm) M' ∧ am_of pxN M M' := by
  have ho2 : okA (aOf A tm) := ho.of htm
  have x1 : xA (aOf A tm) (am_setI M 24 8 (nI tm)) := by
    obtain ⟨h1, h2, h3⟩ := hx
    refine ⟨by rw [gI, if_neg (by omega)]; exact h1, by rw [gI, if_pos ⟨rfl, rfl⟩]; rfl, fun i hi => ?_⟩
    obtain ⟨q1, q2, q3, q4⟩ := h3 i hi
    exact ⟨by rw [gI, if_neg (by omega)]; exact q1, by rw [gI, if_neg (by omega)]; exact q2, by rw [gI, if_neg (by omega)]; exact q3, by rw [gI, if_neg (by omega)]; exact q4⟩
  obtain ⟨M', e1, ⟨h1, h2, h3⟩⟩ := am_lp (X := X) (S := kS) (mi := 9) (pc := 7) 4 (fun i => [some (.ref (24 : Nat)), some (.int (nI tm)), some (.int (nI i))])
    (fun i M' => xA (aOf A tm) M' ∧ (∀ t, t < i → ∀ w, w < 40 → M'.1 (30 + t) w = sd A tm t w) ∧ am_of pxN M M') (M := am_setI M 24 8 (nI tm)) ⟨x1, fun t ht => absurd ht (Nat.not_lt_zero _), am_of.rf.sI (Or.inl ⟨rfl, rfl⟩)⟩ (by
      intro j M2 hj hI
      obtain ⟨i1, i2, i3⟩ := hI
      have c1 : (nI j < 4) = True := eq_true (nI_lt (b := 4) hj (by decide))
      have cj : (nI j).toNatClampNeg = j := nI_clamp (by omega)
      obtain ⟨M3, r1, r2, r3⟩ := q_fillAsOf (X := X) (r := 30 + j) (t := j) (tm := tm) i1 ho2 (gi29 hj) (gl29 hj) (by omega) hj htm
      refine ⟨M3, ?_, i1.of r3 (fun a k q => by omega), fun t ht w hw => ?_, i3.tr (r3.mo fun a k q => Or.inr (by omega))⟩
      · rw [e9_7]
        simp only [e9_0, e9_1, e9_2, e9_5, e9_6, e9_8, e9_9, e9_12, e9_13, e9_14, e9_17, e9_18, e9_19, e9_20, e9_21, e9_24, e9_27, e9_30, s24, s24_0, s24_1, s24_2, s24_3, s24_4, s24_5, s24_6, s24_7, s24_8, r24_0, r24_1, r24_2, r24_3, r24_4, r24_5, r24_6, s25, s26, s27, s28, s29, s30, s31, s32, s33, s34, s35, c1, cj, r1, a29 hj, r29 j hj, t29 j hj, nI_1, am_bv_s, am_bw_s, eq_self, true_or, or_true, am_b0, am_b1, am_em, if_true, if_false, true_and, and_true, false_and, and_false, not_true_eq_false, not_false_eq_true, false_or, or_false, Bool.false_eq_true]
      · by_cases e : t = j
        · rw [e, r2 w hw, sd_aOf]
        · rw [(r3 _ _ (by omega)).1]
          exact i2 t (by omega) w hw)
  refine ⟨M', ?_, h1, fun t ht w hw => ?_, h3⟩
  · have e2 : am_e X 9 7 [some (.ref (24 : Nat)), some (.int (nI tm)), some (.int (nI 4))] [] kS M' = some (none, kS, M') := by
      have c1 : (nI 4 < 4) = False := eq_false (by decide)
      rw [e9_7]
      simp only [e9_0, e9_1, e9_2, e9_5, e9_6, e9_8, e9_9, e9_12, e9_13, e9_14, e9_17, e9_18, e9_19, e9_20, e9_21, e9_24, e9_27, e9_30, c1, am_bv_s, am_bw_s, eq_self, true_or, or_true, am_b0, am_b1, am_em, if_true, if_false, true_and, and_true, false_and, and_false, not_true_eq_false, not_false_eq_true, false_or, or_false, Bool.false_eq_true]
    rw [e2] at e1
    rw [← e1]
    simp only [e9_0, e9_1, e9_2, e9_5, e9_6, e9_8, e9_9, e9_12, e9_13, e9_14, e9_17, e9_18, e9_19, e9_20, e9_21, e9_24, e9_27, e9_30, s24, s24_0, s24_1, s24_2, s24_3, s24_4, s24_5, s24_6, s24_7, s24_8, r24_0, r24_1, r24_2, r24_3, r24_4, r24_5, r24_6, s25, s26, s27, s28, s29, s30, s31, s32, s33, s34, s35, am_bv_s, am_bw_s, eq_self, true_or, or_true, am_b0, am_b1, am_em, if_true, if_false, true_and, and_true, false_and, and_false, not_true_eq_false, not_false_eq_true, false_or, or_false, Bool.false_eq_true]
    rfl
  · rw [h2 t ht w hw, sd_aOf]
    rfl
theorem q_countWord {t k : Nat} (ht : t < 4) (hk : k < 7) (v : Int32) : am_e X 66 0 [some (.ref (36 : Nat)), some (.int (nI t)), some (.int (nI k)), some (.int v)] [] kS M = some (none, kS, if v = -1 then M else if v = 1 then am_setI (am_setI M (38 + t) k (M.1 (38 + t) k + 1)) (43 + t) k (M.1 (43 + t) k + 1) else am_setI M (38 + t) k (M.1 (38 + t) k + 1)) := by
  have ct : (nI t).toNatClampNeg = t := nI_clamp (by omega)
  have ck : (nI k).toNatClampNeg = k := nI_clamp (by omega)
  have e1 : ∀ z, (am_setI M (38 + t) k z).1 (43 + t) k = M.1 (43 + t) k := fun z => by rw [gI, if_neg (by omega)]
  by_cases h1 : v = -1
  · simp only [e66_0, e66_1, e66_2, e66_5, e66_6, e66_7, e66_10, e66_11, e66_12, e66_13, e66_14, e66_15, e66_16, e66_17, e66_18, e66_19, e66_20, e66_23, e66_24, e66_27, e66_28, e66_29, e66_30, e66_31, e66_32, e66_33, e66_34, e66_35, h1, am_bv_s, am_bw_s, eq_self, true_or, or_true, am_b0, am_b1, am_em, if_true, if_false, true_and, and_true, false_and, and_false, not_true_eq_false, not_false_eq_true, false_or, or_false, Bool.false_eq_true]
  · by_cases h2 : v = 1
    · have c : ((1 : Int32) = -1) = False := eq_false (by decide)
      simp only [e66_0, e66_1, e66_2, e66_5, e66_6, e66_7, e66_10, e66_11, e66_12, e66_13, e66_14, e66_15, e66_16, e66_17, e66_18, e66_19, e66_20, e66_23, e66_24, e66_27, e66_28, e66_29, e66_30, e66_31, e66_32, e66_33, e66_34, e66_35, s36, s36_0, s36_1, s36_2, r36_0, r36_1, r36_2, s37, s38, s39, s40, s41, s42, s43, s44, s45, s46, s47, s47_0, s47_1, h2, c, e1, ct, ck, a37 ht, r37 t ht, t37 t ht, g37 ht hk, a42 ht, r42 t ht, t42 t ht, g42 ht hk, am_bv_s, am_bw_s, eq_self, true_or, or_true, am_b0, am_b1, am_em, if_true, if_false, true_and, and_true, false_and, and_false, not_true_eq_false, not_false_eq_true, false_or, or_false, Bool.false_eq_true]
    · simp only [e66_0, e66_1, e66_2, e66_5, e66_6, e66_7, e66_10, e66_11, e66_12, e66_13, e66_14, e66_15, e66_16, e66_17, e66_18, e66_19, e66_20, e66_23, e66_24, e66_27, e66_28, e66_29, e66_30, e66_31, e66_32, e66_33, e66_34, e66_35, s36, s36_0, s36_1, s36_2, r36_0, r36_1, r36_2, s37, s38, s39, s40, s41, s42, s43, s44, s45, s46, s47, s47_0, s47_1, h1, h2, ct, ck, a37 ht, r37 t ht, t37 t ht, g37 ht hk, am_bv_s, am_bw_s, eq_self, true_or, or_true, am_b0, am_b1, am_em, if_true, if_false, true_and, and_true, false_and, and_false, not_true_eq_false, not_false_eq_true, false_or, or_false, Bool.false_eq_true]
end
