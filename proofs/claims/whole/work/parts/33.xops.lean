/-! the class as a whole: its state kept; the acts on bands, books, the list -/
def lI (n : Nat) : Int64 := Int64.ofNat n
def ch : Nat → Nat → Nat
  | _, 0 => 1
  | 0, _ + 1 => 0
  | n + 1, k + 1 => ch n k + ch n (k + 1)
def xC (M : am_Me) : Prop := ∀ n, n < 100 → ∀ k, k < 9 → M.2 49 (9 * n + k) = lI (ch n k)
abbrev sgm : Type := sgH × sgD × sgB × sgL × sgA
def okm (s : sgm) : Prop := okH s.1 ∧ okD s.2.1 ∧ okB s.2.2.1 ∧ okL s.2.2.2.1 ∧ okA s.2.2.2.2
/-- but for what is kept of the words -/
def JY (s : sgm) (M : am_Me) : Prop := xH s.1 M ∧ xD s.2.1 M ∧ xB s.2.2.1 M ∧ xL s.2.2.2.1 M ∧ xA s.2.2.2.2 M ∧ xN s.2.2.2.2 M ∧ xC M
def JX (s : sgm) (M : am_Me) : Prop := JY s M ∧ xW s.2.1.1 s.2.2.2.1 M ∧ xT s.2.1.1 s.2.2.2.1 s.2.2.2.2 M
def pX (a _ : Nat) : Prop := a ≤ 58
def pM (a _ : Nat) : Prop := 59 ≤ a
/-- cells that hold nothing from call to call -/
def pS (a _ : Nat) : Prop := a = 3 ∨ a = 4 ∨ a = 5 ∨ (14 ≤ a ∧ a ≤ 20) ∨ a = 34 ∨ a = 35 ∨ a = 47 ∨ a = 58 ∨ 59 ≤ a
section
variable {X : am_X} {S : am_Sh} {M M' : am_Me} {P : Nat → Nat → Prop} {s : sgm}
theorem xD.of {d : sgD} (hx : xD d M) (ho : am_of P M M') (hP : ∀ a k, P a k → ¬ ((a = 1 ∧ k = 4) ∨ a = 2)) : xD d M' := ⟨((ho _ _ (fun z => hP _ _ z (Or.inl ⟨rfl, rfl⟩))).1).trans hx.1, fun b hb => ((ho _ _ (fun z => hP _ _ z (Or.inr rfl))).1).trans (hx.2 b hb)⟩
theorem xB.of {b : sgB} (hx : xB b M) (ho : am_of P M M') (hP : ∀ a k, P a k → ¬ ((a = 6 ∧ k = 8) ∨ (8 ≤ a ∧ a ≤ 13))) : xB b M' := ⟨((ho _ _ (fun z => hP _ _ z (Or.inl ⟨rfl, rfl⟩))).1).trans hx.1, fun k hk d hd => ((ho _ _ (fun z => hP _ _ z (Or.inr (by omega)))).1).trans (hx.2 k hk d hd)⟩
theorem xC.of (hx : xC M) (ho : am_of P M M') (hP : ∀ a k, P a k → ¬ a = 49) : xC M' := fun n hn k hk => ((ho _ _ (fun z => hP _ _ z rfl)).2).trans (hx n hn k hk)
/-- what the calls keep -/
def pE (a k : Nat) : Prop := a ≤ 58 ∧ ¬ pS a k
theorem JY.of (hx : JY s M) (ho : am_of P M M') (hP : ∀ a k, P a k → pS a k ∨ pxW2 a k ∨ pxT a k) : JY s M' := by
  obtain ⟨h1, h2, h3, h4, h5, h6, h7⟩ := hx
  have hQ : ∀ {Q : Nat → Nat → Prop}, (∀ a k, pS a k → ¬ Q a k) → (∀ a k, pxW2 a k → ¬ Q a k) → (∀ a k, pxT a k → ¬ Q a k) → ∀ a k, P a k → ¬ Q a k := fun q1 q2 q3 a k h => by
    rcases hP a k h with h | h | h
    · exact q1 a k h
    · exact q2 a k h
    · exact q3 a k h
  refine ⟨h1.of ho (hQ ?_ ?_ ?_), h2.of ho (hQ ?_ ?_ ?_), h3.of ho (hQ ?_ ?_ ?_), h4.of ho (hQ ?_ ?_ ?_), h5.of ho (hQ ?_ ?_ ?_), h6.of ho (hQ ?_ ?_ ?_), h7.of ho (hQ ?_ ?_ ?_)⟩
  all_goals
    intro a k q
    first | unfold pS at q | unfold pxW2 at q | unfold pxT at q
    try unfold pxH
    omega
theorem JX.of (hx : JX s M) (ho : am_of P M M') (hP : ∀ a k, P a k → pS a k) : JX s M' :=
  ⟨hx.1.of ho (fun a k h => Or.inl (hP a k h)), hx.2.1.of ho (fun a k h => by have q := hP a k h; unfold pS at q; unfold pxW2; omega), hx.2.2.of ho (fun a k h => by have q := hP a k h; unfold pS at q; unfold pxT; omega)⟩
/-- the words read anew -/
theorem JY.anew (ho : okm s) (hx : JY s M) : ∃ M', am_e X 136 0 [some (.ref (0 : Nat))] [] kS M = some (none, kS, M') ∧ JX s M' ∧ am_of pX M M' := by
  obtain ⟨o1, o2, o3, o4, o5⟩ := ho
  obtain ⟨M', h1, h2, h3, h4⟩ := x_readListAnew (X := X) (M := M) (A := s.2.2.2.2) o2.1 o4 hx.2.2.2.1 hx.2.1.1 hx.2.2.2.2.2.1 o5
  exact ⟨M', h1, ⟨hx.of h4 (fun a k q => Or.inr q), h2, h3⟩, h4.mo (fun a k q => by unfold pxW2 pxT at q; unfold pX; omega)⟩
theorem JY.count (ho : okm s) (hx : JY s M) (hw : xW s.2.1.1 s.2.2.2.1 M) : ∃ M', am_e X 137 0 [some (.ref (0 : Nat))] [] kS M = some (none, kS, M') ∧ JX s M' ∧ am_of pX M M' := by
  obtain ⟨o1, o2, o3, o4, o5⟩ := ho
  obtain ⟨M', h1, h2, h3⟩ := x_countAnew (X := X) (M := M) (A := s.2.2.2.2) o2.1 hw hx.2.2.2.2.2.1 o5
  exact ⟨M', h1, ⟨hx.of h3 (fun a k q => Or.inr (Or.inr q)), hw.of h3 (fun a k q => by unfold pxT at q; unfold pxW2; omega), h2⟩, h3.mo (fun a k q => by unfold pxT at q; unfold pX; omega)⟩
def sp_band (s : sgm) (v : Int32) : Int32 × sgm := if 1 ≤ v ∧ v ≤ 99 then (if s.2.1.1 < 6 then (nI s.2.1.1, s.1, (s.2.1.1 + 1, fun b => if b = s.2.1.1 then v.toNatClampNeg else s.2.1.2 b), s.2.2) else (-4, s)) else (-2, s)
theorem sp_band_ok (ho : okm s) (v : Int32) : okm (sp_band s v).2 := by
  unfold sp_band
  split
  · rename_i h
    split
    · rename_i h6
      obtain ⟨o1, o2, o3⟩ := ho
      refine ⟨o1, ⟨h6, fun b hb => ?_⟩, o3⟩
      obtain ⟨k, hk, rfl⟩ := in_nat (x := v) (n := 99) (Int32.le_trans (by decide) h.1) h.2 (by decide)
      have hk1 : 1 ≤ k := by
        have q := h.1
        rw [Int32.le_iff_toInt_le, nI_toInt (by omega), show (1 : Int32).toInt = 1 from by decide] at q
        omega
      have hb' : b < s.2.1.1 + 1 := hb
      dsimp only
      by_cases e : b = s.2.1.1
      · rw [if_pos e, nI_clamp (by omega)]; exact ⟨hk1, hk⟩
      · rw [if_neg e]; exact o2.2 b (by omega)
    · exact ho
  · exact ho
theorem x_band (hx : JX s M) (ho : okm s) (v : Int32) : ∃ M', am_e X 90 0 [some (.ref (0 : Nat)), some (.int v), none] [] kS M = some (some (.int (sp_band s v).1), kS, M') ∧ JX (sp_band s v).2 M' ∧ am_of pX M M' := by
  have hok := sp_band_ok ho v
  have h6 := ho.2.1.1
  obtain ⟨d1, d2⟩ := hx.1.2.1
  have c1 : (nI s.2.1.1 < 6) = (s.2.1.1 < 6) := propext (nI_ltI (b := 6) (by omega) (by decide))
  unfold sp_band at hok ⊢
  by_cases h : 1 ≤ v ∧ v ≤ 99
  · rw [if_pos h] at hok ⊢
    by_cases h1 : s.2.1.1 < 6
    · rw [if_pos h1] at hok ⊢
      obtain ⟨k, hk, rfl⟩ := in_nat (x := v) (n := 99) (Int32.le_trans (by decide) h.1) h.2 (by decide)
      rw [nI_clamp (n := k) (by omega)] at hok ⊢
      generalize hM1 : am_setI (am_setI M 2 s.2.1.1 (nI k)) 1 4 (nI (s.2.1.1 + 1)) = M1
      have of1 : am_of (fun a _ => a = 2 ∨ a = 1) M M1 := by rw [← hM1]; exact (am_of.rf.sI (Or.inl rfl)).sI (Or.inr rfl)
      obtain ⟨⟨y1, y2, y3, y4, y5, y6, y7⟩, w, t⟩ := hx
      obtain ⟨M', r1, r2, r3⟩ := JY.anew (X := X) (M := M1) hok ⟨y1.of of1 (fun a k q => by unfold pxH; omega), ⟨by rw [← hM1, gI, if_pos ⟨rfl, rfl⟩], fun b hb => by
        have hb' : b < s.2.1.1 + 1 := hb
        dsimp only
        rw [← hM1, gI, if_neg (by omega), gI]
        by_cases e : b = s.2.1.1
        · rw [if_pos ⟨rfl, e⟩, if_pos e]
        · rw [if_neg (fun q => e q.2), if_neg e]; exact d2 b (by omega)⟩, y3.of of1 (fun a k q => by omega), y4.of of1 (fun a k q => by omega), y5.of of1 (fun a k q => by omega), y6.of of1 (fun a k q => by omega), y7.of of1 (fun a k q => by omega)⟩
      refine ⟨M', ?_, r2, (of1.mo (fun a k q => by unfold pX; omega)).tr r3⟩
      have e1 : ∀ z, (am_setI M 2 s.2.1.1 z).1 1 4 = nI s.2.1.1 := fun z => by rw [gI, if_neg (by omega)]; exact d1
      have e2 : M1.1 1 4 = nI (s.2.1.1 + 1) := by rw [← hM1, gI, if_pos ⟨rfl, rfl⟩]
      have e3 : nI (s.2.1.1 + 1) - 1 = nI s.2.1.1 := nI_m1 (by omega)
      have cl : (nI s.2.1.1).toNatClampNeg = s.2.1.1 := nI_clamp (by omega)
      have add : am_e X 25 0 [some (.ref (1 : Nat)), some (.int (nI k))] [] kS M = some (some (.int (nI s.2.1.1)), kS, M1) := by
        simp only [e25_0, e25_1, e25_4, e25_5, e25_8, e25_9, e25_10, e25_11, e25_12, e25_15, e25_16, e25_17, e25_20, e25_21, e25_24, e25_25, e25_26, s1, s1_0, s1_1, s1_2, s1_3, s1_4, r1_0, r1_1, r1_2, r1_3, s2, s3, s4, s5, d1, e1, e2, e3, cl, nI_1, hM1, a2 h1, am_bv_s, am_bw_s, eq_self, true_or, or_true, am_b0, am_b1, am_em, if_true, if_false, true_and, and_true, false_and, and_false, not_true_eq_false, not_false_eq_true, false_or, or_false, Bool.false_eq_true]
      simp only [e90_0, e90_1, e90_2, e90_4, e90_7, e90_10, e90_12, e90_13, e90_14, e90_17, e90_20, e90_22, e90_25, e90_27, e90_28, e90_29, e90_32, e90_33, e90_36, e90_37, e90_38, e90_41, e90_42, e22_0, e22_1, e22_4, s0, s0_0, s0_1, s0_2, s0_3, s0_4, s0_5, s0_6, s0_7, r0_0, r0_1, r0_2, r0_3, r0_4, r0_5, r0_6, r0_7, s1, s1_0, s1_1, s1_2, s1_3, s1_4, r1_0, r1_1, r1_2, r1_3, s2, s3, s4, s5, q_isIn, am_bt h, d1, c1, h1, add, r1, am_bv_s, am_bw_s, eq_self, true_or, or_true, am_b0, am_b1, am_em, if_true, if_false, true_and, and_true, false_and, and_false, not_true_eq_false, not_false_eq_true, false_or, or_false, Bool.false_eq_true]
      rw [if_neg (by decide)]
    · rw [if_neg h1]
      refine ⟨M, ?_, hx, am_of.rf⟩
      simp only [e90_0, e90_1, e90_2, e90_4, e90_7, e90_10, e90_12, e90_13, e90_14, e90_17, e90_20, e90_22, e90_25, e90_27, e90_28, e90_29, e90_32, e90_33, e90_36, e90_37, e90_38, e90_41, e90_42, e22_0, e22_1, e22_4, s0, s0_0, s0_1, s0_2, s0_3, s0_4, s0_5, s0_6, s0_7, r0_0, r0_1, r0_2, r0_3, r0_4, r0_5, r0_6, r0_7, s1, s1_0, s1_1, s1_2, s1_3, s1_4, r1_0, r1_1, r1_2, r1_3, s2, s3, s4, s5, q_isIn, am_bt h, d1, c1, h1, am_bv_s, am_bw_s, eq_self, true_or, or_true, am_b0, am_b1, am_em, if_true, if_false, true_and, and_true, false_and, and_false, not_true_eq_false, not_false_eq_true, false_or, or_false, Bool.false_eq_true]
      rw [if_neg (by decide)]
  · rw [if_neg h]
    refine ⟨M, ?_, hx, am_of.rf⟩
    simp only [e90_0, e90_1, e90_2, e90_4, e90_7, e90_10, e90_12, e90_13, e90_14, e90_17, e90_20, e90_22, e90_25, e90_27, e90_28, e90_29, e90_32, e90_33, e90_36, e90_37, e90_38, e90_41, e90_42, q_isIn, am_bf h, am_bv_s, am_bw_s, eq_self, true_or, or_true, am_b0, am_b1, am_em, if_true, if_false, true_and, and_true, false_and, and_false, not_true_eq_false, not_false_eq_true, false_or, or_false, Bool.false_eq_true]
def sp_book (s : sgm) : Int32 × sgm := if s.2.2.1.1 < 6 then (nI s.2.2.1.1, s.1, s.2.1, (s.2.2.1.1 + 1, s.2.2.1.2), s.2.2.2) else (-4, s)
theorem sp_book_ok (ho : okm s) : okm (sp_book s).2 := by
  unfold sp_book
  split
  · rename_i h
    exact ⟨ho.1, ho.2.1, ⟨h, ho.2.2.1.2⟩, ho.2.2.2⟩
  · exact ho
theorem x_book (hx : JX s M) (ho : okm s) : ∃ M', am_e X 91 0 [some (.ref (0 : Nat))] [] kS M = some (some (.int (sp_book s).1), kS, M') ∧ JX (sp_book s).2 M' ∧ am_of pX M M' := by
  have h6 := ho.2.2.1.1
  obtain ⟨⟨y1, y2, y3, y4, y5, y6, y7⟩, w, t⟩ := hx
  obtain ⟨d1, d2⟩ := y3
  have c1 : (nI s.2.2.1.1 < 6) = (s.2.2.1.1 < 6) := propext (nI_ltI (b := 6) (by omega) (by decide))
  unfold sp_book
  by_cases h1 : s.2.2.1.1 < 6
  · rw [if_pos h1]
    generalize hM1 : am_setI M 6 8 (nI (s.2.2.1.1 + 1)) = M1
    have of1 : am_of (fun a _ => a = 6) M M1 := by rw [← hM1]; exact am_of.rf.sI rfl
    have e2 : M1.1 6 8 = nI (s.2.2.1.1 + 1) := by rw [← hM1, gI, if_pos ⟨rfl, rfl⟩]
    have e3 : nI (s.2.2.1.1 + 1) - 1 = nI s.2.2.1.1 := nI_m1 (by omega)
    refine ⟨M1, ?_, ⟨⟨y1.of of1 (fun a k q => by unfold pxH; omega), y2.of of1 (fun a k q => by omega), ⟨e2, fun k hk d hd => ?_⟩, y4.of of1 (fun a k q => by omega), y5.of of1 (fun a k q => by omega), y6.of of1 (fun a k q => by omega), y7.of of1 (fun a k q => by omega)⟩, w.of of1 (fun a k q => by unfold pxW2; omega), t.of of1 (fun a k q => by unfold pxT; omega)⟩, of1.mo (fun a k q => by unfold pX; omega)⟩
    · simp only [e91_0, e91_1, e91_4, e91_7, e91_9, e91_12, e91_14, e91_15, e91_16, e91_19, e91_22, e53_0, e53_1, e53_4, e54_0, e54_1, e54_2, e54_5, e54_6, e54_7, e54_10, e54_11, e54_14, e54_15, e54_16, s0, s0_0, s0_1, s0_2, s0_3, s0_4, s0_5, s0_6, s0_7, r0_0, r0_1, r0_2, r0_3, r0_4, r0_5, r0_6, r0_7, s6, s6_0, s6_1, s6_2, s6_3, s6_4, s6_5, s6_6, s6_7, s6_8, r6_0, r6_1, r6_2, r6_3, r6_4, r6_5, r6_6, r6_7, s7, s8, s9, s10, s11, s12, s13, s14, s15, s16, s17, s18, s18_0, s18_1, s19, s19_0, s19_1, s20, s20_0, s20_1, d1, c1, h1, nI_1, hM1, e2, e3, am_bv_s, am_bw_s, eq_self, true_or, or_true, am_b0, am_b1, am_em, if_true, if_false, true_and, and_true, false_and, and_false, not_true_eq_false, not_false_eq_true, false_or, or_false, Bool.false_eq_true]
    · rw [(of1 _ _ (by omega)).1]; exact d2 k hk d hd
  · rw [if_neg h1]
    refine ⟨M, ?_, ⟨⟨y1, y2, ⟨d1, d2⟩, y4, y5, y6, y7⟩, w, t⟩, am_of.rf⟩
    simp only [e91_0, e91_1, e91_4, e91_7, e91_9, e91_12, e91_14, e91_15, e91_16, e91_19, e91_22, e53_0, e53_1, e53_4, s0, s0_0, s0_1, s0_2, s0_3, s0_4, s0_5, s0_6, s0_7, r0_0, r0_1, r0_2, r0_3, r0_4, r0_5, r0_6, r0_7, s6, s6_0, s6_1, s6_2, s6_3, s6_4, s6_5, s6_6, s6_7, s6_8, r6_0, r6_1, r6_2, r6_3, r6_4, r6_5, r6_6, r6_7, s7, s8, s9, s10, s11, s12, s13, s14, s15, s16, s17, s18, s18_0, s18_1, s19, s19_0, s19_1, s20, s20_0, s20_1, d1, c1, h1, am_bv_s, am_bw_s, eq_self, true_or, or_true, am_b0, am_b1, am_em, if_true, if_false, true_and, and_true, false_and, and_false, not_true_eq_false, not_false_eq_true, false_or, or_false, Bool.false_eq_true]
end
