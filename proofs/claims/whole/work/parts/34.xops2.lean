/-! the class: run, type, wipe, fault, word -/
section
variable {X : am_X} {S : am_Sh} {M M' : am_Me} {P : Nat → Nat → Prop} {s : sgm}
theorem in_n {x : Int32} {n : Nat} (h : 0 ≤ x ∧ x ≤ nI n) (hn : n < 2 ^ 31) : ∃ k : Nat, k ≤ n ∧ x = nI k := in_nat h.1 h.2 hn
theorem JX.setH {h : sgH} (hx : JX s M) (hh : xH h M') (ho : am_of pxH M M') : JX (h, s.2) M' := by
  obtain ⟨⟨y1, y2, y3, y4, y5, y6, y7⟩, w, t⟩ := hx
  have u : ∀ a k, pxH a k → ¬ ((a = 1) ∨ (a = 2) ∨ (6 ≤ a ∧ a ≤ 49)) := fun a k q => by unfold pxH at q; omega
  exact ⟨⟨hh, y2.of ho (fun a k q => by have := u a k q; omega), y3.of ho (fun a k q => by have := u a k q; omega), y4.of ho (fun a k q => by have := u a k q; omega), y5.of ho (fun a k q => by have := u a k q; omega), y6.of ho (fun a k q => by have := u a k q; omega), y7.of ho (fun a k q => by have := u a k q; omega)⟩, w.of ho (fun a k q => by have := u a k q; unfold pxW2; omega), t.of ho (fun a k q => by have := u a k q; unfold pxT; omega)⟩
theorem pxH_X {a k : Nat} (h : pxH a k) : pX a k := by unfold pxH at h; unfold pX; omega
theorem q_isBook {b : sgB} (hx : xB b M) (v : Int32) : am_e X 131 0 [some (.ref (0 : Nat)), some (.int v)] [] kS M = some (some (.int (am_b (0 ≤ v ∧ v ≤ nI b.1 - 1))), kS, M) := by
  simp only [e131_0, e131_1, e131_2, e131_3, e131_6, e131_9, e131_10, e131_11, e131_14, e53_0, e53_1, e53_4, s0, s0_0, s0_1, s0_2, s0_3, s0_4, s0_5, s0_6, s0_7, r0_0, r0_1, r0_2, r0_3, r0_4, r0_5, r0_6, r0_7, s6, s6_0, s6_1, s6_2, s6_3, s6_4, s6_5, s6_6, s6_7, s6_8, r6_0, r6_1, r6_2, r6_3, r6_4, r6_5, r6_6, r6_7, s7, s8, s9, s10, s11, s12, s13, s14, s15, s16, s17, s18, s18_0, s18_1, s19, s19_0, s19_1, s20, s20_0, s20_1, q_isIn, hx.1, am_bv_s, am_bw_s, eq_self, true_or, or_true, am_b0, am_b1, am_em, if_true, if_false, true_and, and_true, false_and, and_false, not_true_eq_false, not_false_eq_true, false_or, or_false, Bool.false_eq_true]
def sp_run (s : sgm) (k d v : Int32) : Int32 × sgm := if (0 ≤ k ∧ k ≤ nI s.2.2.1.1 - 1) ∧ (0 ≤ d ∧ d ≤ 5) ∧ (0 ≤ v ∧ v ≤ 99) then (nI (s.2.2.1.2 k.toNatClampNeg d.toNatClampNeg), s.1, s.2.1, (s.2.2.1.1, fun a b => if a = k.toNatClampNeg ∧ b = d.toNatClampNeg then v.toNatClampNeg else s.2.2.1.2 a b), s.2.2.2) else (-2, s)
theorem sp_run_ok (ho : okm s) (k d v : Int32) : okm (sp_run s k d v).2 := by
  unfold sp_run
  split
  · rename_i h
    obtain ⟨n, hn, rfl⟩ := in_n (n := 99) h.2.2 (by decide)
    refine ⟨ho.1, ho.2.1, ⟨ho.2.2.1.1, fun a ha b hb => ?_⟩, ho.2.2.2⟩
    dsimp only
    rw [nI_clamp (n := n) (by omega)]
    split
    · exact hn
    · exact ho.2.2.1.2 a ha b hb
  · exact ho
theorem x_run (hx : JX s M) (ho : okm s) (k d v : Int32) : ∃ M', am_e X 92 0 [some (.ref (0 : Nat)), some (.int k), some (.int d), some (.int v)] [] kS M = some (some (.int (sp_run s k d v).1), kS, M') ∧ JX (sp_run s k d v).2 M' ∧ am_of pX M M' := by
  have h6 := ho.2.2.1.1
  have hx0 := hx
  obtain ⟨⟨y1, y2, y3, y4, y5, y6, y7⟩, w, t⟩ := hx
  have ib := fun v => q_isBook (X := X) y3 v
  unfold sp_run
  by_cases h : (0 ≤ k ∧ k ≤ nI s.2.2.1.1 - 1) ∧ (0 ≤ d ∧ d ≤ 5) ∧ (0 ≤ v ∧ v ≤ 99)
  · rw [if_pos h]
    obtain ⟨h1, h2, h3⟩ := h
    have b1 := am_bt h1
    have b2 := am_bt h2
    have b3 := am_bt h3
    have ibk := ib k
    rw [b1] at ibk
    have i1 := q_isIn (X := X) (S := kS) (M := M) d 0 5
    have i2 := q_isIn (X := X) (S := kS) (M := M) v 0 99
    rw [b2] at i1
    rw [b3] at i2
    obtain ⟨kn, hkn, rfl⟩ := (pred_le (by omega)).mp h1
    obtain ⟨dn, hdn, rfl⟩ := in_n (n := 5) h2 (by decide)
    obtain ⟨vn, hvn, rfl⟩ := in_n (n := 99) h3 (by decide)
    have ck : (nI kn).toNatClampNeg = kn := nI_clamp (by omega)
    have cd : (nI dn).toNatClampNeg = dn := nI_clamp (by omega)
    have cv : (nI vn).toNatClampNeg = vn := nI_clamp (by omega)
    have o0 : ((1 : Int32) = 0) = False := eq_false (by decide)
    have k6 : kn < 6 := by omega
    have d6 : dn < 6 := by omega
    rw [ck, cd, cv]
    have of1 : am_of (fun a _ => a = 8 + kn) M (am_setI M (8 + kn) dn (nI vn)) := am_of.rf.sI rfl
    refine ⟨am_setI M (8 + kn) dn (nI vn), ?_, ⟨⟨y1.of of1 (fun a k q => by unfold pxH; omega), y2.of of1 (fun a k q => by omega), ⟨?_, fun a ha b hb => ?_⟩, y4.of of1 (fun a k q => by omega), y5.of of1 (fun a k q => by omega), y6.of of1 (fun a k q => by omega), y7.of of1 (fun a k q => by omega)⟩, w.of of1 (fun a k q => by unfold pxW2; omega), t.of of1 (fun a k q => by unfold pxT; omega)⟩, of1.mo (fun a k q => by unfold pX; omega)⟩
    · simp only [e92_0, e92_1, e92_2, e92_5, e92_8, e92_9, e92_10, e92_11, e92_14, e92_17, e92_18, e92_19, e92_21, e92_24, e92_27, e92_29, e92_30, e92_31, e92_34, e92_35, e92_36, e92_37, e92_40, e55_0, e55_1, e55_4, e55_5, e55_6, e55_7, e55_8, e55_10, e55_11, e55_14, e55_15, e55_16, e55_17, e55_18, e55_19, e55_21, s0, s0_0, s0_1, s0_2, s0_3, s0_4, s0_5, s0_6, s0_7, r0_0, r0_1, r0_2, r0_3, r0_4, r0_5, r0_6, r0_7, s6, s6_0, s6_1, s6_2, s6_3, s6_4, s6_5, s6_6, s6_7, s6_8, r6_0, r6_1, r6_2, r6_3, r6_4, r6_5, r6_6, r6_7, s7, s8, s9, s10, s11, s12, s13, s14, s15, s16, s17, s18, s18_0, s18_1, s19, s19_0, s19_1, s20, s20_0, s20_1, ibk, i1, i2, o0, ck, cd, (y3.2 kn k6 dn d6), a7 k6, r7 kn k6, t7 kn k6, g7 k6 d6, am_bv_s, am_bw_s, eq_self, true_or, or_true, am_b0, am_b1, am_em, if_true, if_false, true_and, and_true, false_and, and_false, not_true_eq_false, not_false_eq_true, false_or, or_false, Bool.false_eq_true]
    · rw [gI, if_neg (by omega)]; exact y3.1
    · rw [gI]
      dsimp only
      by_cases e : a = kn ∧ b = dn
      · rw [if_pos (by omega), if_pos e]
      · rw [if_neg (by omega), if_neg e]; exact y3.2 a ha b hb
  · rw [if_neg h]
    refine ⟨M, ?_, hx0, am_of.rf⟩
    by_cases h1 : 0 ≤ k ∧ k ≤ nI s.2.2.1.1 - 1
    · by_cases h2 : 0 ≤ d ∧ d ≤ 5
      · have h3 : ¬ (0 ≤ v ∧ v ≤ 99) := fun q => h ⟨h1, h2, q⟩
        simp only [e92_0, e92_1, e92_2, e92_5, e92_8, e92_9, e92_10, e92_11, e92_14, e92_17, e92_18, e92_19, e92_21, e92_24, e92_27, e92_29, e92_30, e92_31, e92_34, e92_35, e92_36, e92_37, e92_40, s0, s0_0, s0_1, s0_2, s0_3, s0_4, s0_5, s0_6, s0_7, r0_0, r0_1, r0_2, r0_3, r0_4, r0_5, r0_6, r0_7, ib, q_isIn, am_bt h1, am_bt h2, am_bf h3, am_bv_s, am_bw_s, eq_self, true_or, or_true, am_b0, am_b1, am_em, if_true, if_false, true_and, and_true, false_and, and_false, not_true_eq_false, not_false_eq_true, false_or, or_false, Bool.false_eq_true]
        rw [if_neg (by decide), if_neg (by decide)]
      · simp only [e92_0, e92_1, e92_2, e92_5, e92_8, e92_9, e92_10, e92_11, e92_14, e92_17, e92_18, e92_19, e92_21, e92_24, e92_27, e92_29, e92_30, e92_31, e92_34, e92_35, e92_36, e92_37, e92_40, s0, s0_0, s0_1, s0_2, s0_3, s0_4, s0_5, s0_6, s0_7, r0_0, r0_1, r0_2, r0_3, r0_4, r0_5, r0_6, r0_7, ib, q_isIn, am_bt h1, am_bf h2, am_bv_s, am_bw_s, eq_self, true_or, or_true, am_b0, am_b1, am_em, if_true, if_false, true_and, and_true, false_and, and_false, not_true_eq_false, not_false_eq_true, false_or, or_false, Bool.false_eq_true]
        rw [if_neg (by decide)]
    · simp only [e92_0, e92_1, e92_2, e92_5, e92_8, e92_9, e92_10, e92_11, e92_14, e92_17, e92_18, e92_19, e92_21, e92_24, e92_27, e92_29, e92_30, e92_31, e92_34, e92_35, e92_36, e92_37, e92_40, s0, s0_0, s0_1, s0_2, s0_3, s0_4, s0_5, s0_6, s0_7, r0_0, r0_1, r0_2, r0_3, r0_4, r0_5, r0_6, r0_7, ib, am_bf h1, am_bv_s, am_bw_s, eq_self, true_or, or_true, am_b0, am_b1, am_em, if_true, if_false, true_and, and_true, false_and, and_false, not_true_eq_false, not_false_eq_true, false_or, or_false, Bool.false_eq_true]
def sp_type (s : sgm) (v : Int32) : Int32 × sgm := if 0 ≤ v ∧ v ≤ 255 then (if s.2.2.2.1.1 < 80 then (nI (s.2.2.2.1.1 + 1), s.1, s.2.1, s.2.2.1, (s.2.2.2.1.1 + 1, fun i => if i = s.2.2.2.1.1 then v.toNatClampNeg else s.2.2.2.1.2 i), s.2.2.2.2) else (-4, s)) else (-2, s)
theorem sp_type_ok (ho : okm s) (v : Int32) : okm (sp_type s v).2 := by
  unfold sp_type
  split
  · rename_i h
    split
    · rename_i h8
      obtain ⟨n, hn, rfl⟩ := in_n (n := 255) h (by decide)
      refine ⟨ho.1, ho.2.1, ho.2.2.1, ⟨h8, fun i hi => ?_⟩, ho.2.2.2.2⟩
      have hi' : i < s.2.2.2.1.1 + 1 := hi
      dsimp only
      rw [nI_clamp (n := n) (by omega)]
      split
      · exact hn
      · exact ho.2.2.2.1.2 i (by omega)
    · exact ho
  · exact ho
theorem x_type (hx : JX s M) (ho : okm s) (v : Int32) : ∃ M', am_e X 93 0 [some (.ref (0 : Nat)), some (.int v)] [] kS M = some (some (.int (sp_type s v).1), kS, M') ∧ JX (sp_type s v).2 M' ∧ am_of pX M M' := by
  have hok := sp_type_ok ho v
  have h80 := ho.2.2.2.1.1
  obtain ⟨d1, d2⟩ := hx.1.2.2.2.1
  have c1 : (nI s.2.2.2.1.1 < 80) = (s.2.2.2.1.1 < 80) := propext (nI_ltI (b := 80) (by omega) (by decide))
  have ii := q_isIn (X := X) (S := kS) (M := M) v 0 255
  unfold sp_type at hok ⊢
  by_cases h : 0 ≤ v ∧ v ≤ 255
  · rw [am_bt h] at ii
    have o0 : ((1 : Int32) = 0) = False := eq_false (by decide)
    rw [if_pos h] at hok ⊢
    by_cases h1 : s.2.2.2.1.1 < 80
    · rw [if_pos h1] at hok ⊢
      obtain ⟨k, hk, rfl⟩ := in_n (n := 255) h (by decide)
      rw [nI_clamp (n := k) (by omega)] at hok ⊢
      generalize hM1 : am_setI (am_setI M 22 s.2.2.2.1.1 (nI k)) 21 2 (nI (s.2.2.2.1.1 + 1)) = M1
      have of1 : am_of (fun a k => a = 22 ∨ (a = 21 ∧ k = 2)) M M1 := by rw [← hM1]; exact (am_of.rf.sI (Or.inl rfl)).sI (Or.inr ⟨rfl, rfl⟩)
      obtain ⟨⟨y1, y2, y3, y4, y5, y6, y7⟩, w, t⟩ := hx
      have e2 : M1.1 21 2 = nI (s.2.2.2.1.1 + 1) := by rw [← hM1, gI, if_pos ⟨rfl, rfl⟩]
      obtain ⟨M', r1, r2, r3⟩ := JY.anew (X := X) (M := M1) hok ⟨y1.of of1 (fun a k q => by unfold pxH; omega), y2.of of1 (fun a k q => by omega), y3.of of1 (fun a k q => by omega), ⟨e2, fun b hb => by
        have hb' : b < s.2.2.2.1.1 + 1 := hb
        dsimp only
        rw [← hM1, gI, if_neg (by omega), gI]
        by_cases e : b = s.2.2.2.1.1
        · rw [if_pos ⟨rfl, e⟩, if_pos e]
        · rw [if_neg (fun q => e q.2), if_neg e]; exact d2 b (by omega)⟩, y5.of of1 (fun a k q => by omega), y6.of of1 (fun a k q => by omega), y7.of of1 (fun a k q => by omega)⟩
      refine ⟨M', ?_, r2, (of1.mo (fun a k q => by unfold pX; omega)).tr r3⟩
      have e1 : ∀ z, (am_setI M 22 s.2.2.2.1.1 z).1 21 2 = nI s.2.2.2.1.1 := fun z => by rw [gI, if_neg (by omega)]; exact d1
      have cl : (nI s.2.2.2.1.1).toNatClampNeg = s.2.2.2.1.1 := nI_clamp (by omega)
      have add : am_e X 81 0 [some (.ref (21 : Nat)), some (.int (nI k))] [] kS M = some (none, kS, M1) := by
        simp only [e81_0, e81_1, e81_4, e81_5, e81_8, e81_9, e81_10, e81_11, e81_12, e81_15, e81_16, e81_17, e81_20, s21, s21_0, s21_1, s21_2, s21_3, s21_4, r21_0, r21_1, s22, s23, d1, e1, cl, nI_1, hM1, a22 h1, am_bv_s, am_bw_s, eq_self, true_or, or_true, am_b0, am_b1, am_em, if_true, if_false, true_and, and_true, false_and, and_false, not_true_eq_false, not_false_eq_true, false_or, or_false, Bool.false_eq_true]
      have l2 : M'.1 21 2 = nI (s.2.2.2.1.1 + 1) := r2.1.2.2.2.1.1
      simp only [e93_0, e93_1, e93_2, e93_5, e93_8, e93_11, e93_13, e93_14, e93_15, e93_18, e93_21, e93_23, e93_26, e93_28, e93_29, e93_30, e93_33, e93_34, e93_37, e93_38, e93_41, e93_42, e93_45, e93_48, e77_0, e77_1, e77_4, s0, s0_0, s0_1, s0_2, s0_3, s0_4, s0_5, s0_6, s0_7, r0_0, r0_1, r0_2, r0_3, r0_4, r0_5, r0_6, r0_7, s21, s21_0, s21_1, s21_2, s21_3, s21_4, r21_0, r21_1, s22, s23, ii, o0, d1, c1, h1, add, r1, l2, am_bv_s, am_bw_s, eq_self, true_or, or_true, am_b0, am_b1, am_em, if_true, if_false, true_and, and_true, false_and, and_false, not_true_eq_false, not_false_eq_true, false_or, or_false, Bool.false_eq_true]
    · rw [if_neg h1]
      refine ⟨M, ?_, hx, am_of.rf⟩
      simp only [e93_0, e93_1, e93_2, e93_5, e93_8, e93_11, e93_13, e93_14, e93_15, e93_18, e93_21, e93_23, e93_26, e93_28, e93_29, e93_30, e93_33, e93_34, e93_37, e93_38, e93_41, e93_42, e93_45, e93_48, e77_0, e77_1, e77_4, s0, s0_0, s0_1, s0_2, s0_3, s0_4, s0_5, s0_6, s0_7, r0_0, r0_1, r0_2, r0_3, r0_4, r0_5, r0_6, r0_7, s21, s21_0, s21_1, s21_2, s21_3, s21_4, r21_0, r21_1, s22, s23, ii, o0, d1, c1, h1, am_bv_s, am_bw_s, eq_self, true_or, or_true, am_b0, am_b1, am_em, if_true, if_false, true_and, and_true, false_and, and_false, not_true_eq_false, not_false_eq_true, false_or, or_false, Bool.false_eq_true]
  · rw [am_bf h] at ii
    rw [if_neg h]
    refine ⟨M, ?_, hx, am_of.rf⟩
    simp only [e93_0, e93_1, e93_2, e93_5, e93_8, e93_11, e93_13, e93_14, e93_15, e93_18, e93_21, e93_23, e93_26, e93_28, e93_29, e93_30, e93_33, e93_34, e93_37, e93_38, e93_41, e93_42, e93_45, e93_48, ii, am_bv_s, am_bw_s, eq_self, true_or, or_true, am_b0, am_b1, am_em, if_true, if_false, true_and, and_true, false_and, and_false, not_true_eq_false, not_false_eq_true, false_or, or_false, Bool.false_eq_true]
def sp_wipe (s : sgm) : Int32 × sgm := (nI s.2.2.2.1.1, s.1, s.2.1, s.2.2.1, (0, s.2.2.2.1.2), s.2.2.2.2)
theorem sp_wipe_ok (ho : okm s) : okm (sp_wipe s).2 := ⟨ho.1, ho.2.1, ho.2.2.1, ⟨Nat.zero_le _, fun i hi => absurd hi (Nat.not_lt_zero _)⟩, ho.2.2.2.2⟩
theorem x_wipe (hx : JX s M) (ho : okm s) : ∃ M', am_e X 94 0 [some (.ref (0 : Nat)), none] [] kS M = some (some (.int (sp_wipe s).1), kS, M') ∧ JX (sp_wipe s).2 M' ∧ am_of pX M M' := by
  have hok := sp_wipe_ok ho
  obtain ⟨d1, d2⟩ := hx.1.2.2.2.1
  generalize hM1 : am_setI M 21 2 0 = M1
  have of1 : am_of (fun a k => a = 21 ∧ k = 2) M M1 := by rw [← hM1]; exact am_of.rf.sI ⟨rfl, rfl⟩
  obtain ⟨⟨y1, y2, y3, y4, y5, y6, y7⟩, w, t⟩ := hx
  obtain ⟨M', r1, r2, r3⟩ := JY.anew (X := X) (M := M1) hok ⟨y1.of of1 (fun a k q => by unfold pxH; omega), y2.of of1 (fun a k q => by omega), y3.of of1 (fun a k q => by omega), ⟨by rw [← hM1, gI, if_pos ⟨rfl, rfl⟩]; rfl, fun b hb => absurd hb (Nat.not_lt_zero _)⟩, y5.of of1 (fun a k q => by omega), y6.of of1 (fun a k q => by omega), y7.of of1 (fun a k q => by omega)⟩
  refine ⟨M', ?_, r2, (of1.mo (fun a k q => by unfold pX; omega)).tr r3⟩
  simp only [e94_0, e94_1, e94_4, e94_7, e94_8, e94_9, e94_12, e94_15, e94_16, e94_19, e94_20, e77_0, e77_1, e77_4, e82_0, e82_1, e82_2, e82_5, s0, s0_0, s0_1, s0_2, s0_3, s0_4, s0_5, s0_6, s0_7, r0_0, r0_1, r0_2, r0_3, r0_4, r0_5, r0_6, r0_7, s21, s21_0, s21_1, s21_2, s21_3, s21_4, r21_0, r21_1, s22, s23, d1, hM1, r1, sp_wipe, am_bv_s, am_bw_s, eq_self, true_or, or_true, am_b0, am_b1, am_em, if_true, if_false, true_and, and_true, false_and, and_false, not_true_eq_false, not_false_eq_true, false_or, or_false, Bool.false_eq_true]
def sp_fault (s : sgm) : Int32 := ps_v (ps s.2.1.1 s.2.2.2.1).1
theorem x_fault (hx : JX s M) : am_e X 95 0 [some (.ref (0 : Nat))] [] kS M = some (some (.int (sp_fault s)), kS, M) := by
  simp only [e95_0, e95_1, e95_4, e95_7, e79_0, e79_1, e79_4, s0, s0_0, s0_1, s0_2, s0_3, s0_4, s0_5, s0_6, s0_7, r0_0, r0_1, r0_2, r0_3, r0_4, r0_5, r0_6, r0_7, s21, s21_0, s21_1, s21_2, s21_3, s21_4, r21_0, r21_1, s22, s23, hx.2.1.2.2, sp_fault, am_bv_s, am_bw_s, eq_self, true_or, or_true, am_b0, am_b1, am_em, if_true, if_false, true_and, and_true, false_and, and_false, not_true_eq_false, not_false_eq_true, false_or, or_false, Bool.false_eq_true]
def sp_word (s : sgm) (v : Int32) : Int32 := if 0 ≤ v ∧ v ≤ 39 then (if v.toNatClampNeg < (ps s.2.1.1 s.2.2.2.1).2.1 then nI ((ps s.2.1.1 s.2.2.2.1).2.2 v.toNatClampNeg) else -1) else -2
theorem x_word (hx : JX s M) (ho : okm s) (v : Int32) : am_e X 96 0 [some (.ref (0 : Nat)), some (.int v)] [] kS M = some (some (.int (sp_word s v)), kS, M) := by
  obtain ⟨w1, w2, w3⟩ := hx.2.1
  have h40 := ps_le (l := s.2.2.2.1) ho.2.1.1
  have ii := q_isIn (X := X) (S := kS) (M := M) v 0 39
  have o0 : ((1 : Int32) = 0) = False := eq_false (by decide)
  unfold sp_word
  by_cases h : 0 ≤ v ∧ v ≤ 39
  · rw [am_bt h] at ii
    rw [if_pos h]
    obtain ⟨k, hk, rfl⟩ := in_n (n := 39) h (by decide)
    rw [nI_clamp (n := k) (by omega)]
    have cl : (nI k).toNatClampNeg = k := nI_clamp (by omega)
    have c1 : (nI k < nI (ps s.2.1.1 s.2.2.2.1).2.1) = (k < (ps s.2.1.1 s.2.2.2.1).2.1) := ok_lt (by omega) (by omega)
    by_cases h1 : k < (ps s.2.1.1 s.2.2.2.1).2.1
    · rw [if_pos h1]
      simp only [e96_0, e96_1, e96_2, e96_4, e96_7, e96_10, e96_12, e96_13, e96_14, e96_15, e96_18, e96_21, e96_24, e96_25, e96_28, e96_29, e96_32, e96_35, e96_36, e78_0, e78_1, e78_4, e80_0, e80_1, e80_4, e80_5, e80_6, s0, s0_0, s0_1, s0_2, s0_3, s0_4, s0_5, s0_6, s0_7, r0_0, r0_1, r0_2, r0_3, r0_4, r0_5, r0_6, r0_7, s21, s21_0, s21_1, s21_2, s21_3, s21_4, r21_0, r21_1, s22, s23, ii, o0, w1, c1, h1, cl, w2 k h1, a23 (show k < 40 by omega), am_bv_s, am_bw_s, eq_self, true_or, or_true, am_b0, am_b1, am_em, if_true, if_false, true_and, and_true, false_and, and_false, not_true_eq_false, not_false_eq_true, false_or, or_false, Bool.false_eq_true]
    · rw [if_neg h1]
      simp only [e96_0, e96_1, e96_2, e96_4, e96_7, e96_10, e96_12, e96_13, e96_14, e96_15, e96_18, e96_21, e96_24, e96_25, e96_28, e96_29, e96_32, e96_35, e96_36, e78_0, e78_1, e78_4, s0, s0_0, s0_1, s0_2, s0_3, s0_4, s0_5, s0_6, s0_7, r0_0, r0_1, r0_2, r0_3, r0_4, r0_5, r0_6, r0_7, s21, s21_0, s21_1, s21_2, s21_3, s21_4, r21_0, r21_1, s22, s23, ii, o0, w1, c1, h1, am_bv_s, am_bw_s, eq_self, true_or, or_true, am_b0, am_b1, am_em, if_true, if_false, true_and, and_true, false_and, and_false, not_true_eq_false, not_false_eq_true, false_or, or_false, Bool.false_eq_true]
  · rw [am_bf h] at ii
    rw [if_neg h]
    simp only [e96_0, e96_1, e96_2, e96_4, e96_7, e96_10, e96_12, e96_13, e96_14, e96_15, e96_18, e96_21, e96_24, e96_25, e96_28, e96_29, e96_32, e96_35, e96_36, ii, am_bv_s, am_bw_s, eq_self, true_or, or_true, am_b0, am_b1, am_em, if_true, if_false, true_and, and_true, false_and, and_false, not_true_eq_false, not_false_eq_true, false_or, or_false, Bool.false_eq_true]
end
