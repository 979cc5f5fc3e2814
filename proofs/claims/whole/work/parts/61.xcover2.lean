/-! the class: started anew; cover -/
def xRb (rb : Nat → Bool) (M : am_Me) : Prop := ∀ k, k < 6 → M.1 14 k = if rb k = true then 1 else 0
def xMe (n : Nat) (me : Nat → Nat) (M : am_Me) : Prop := ∀ b, b < n → M.1 16 b = nI (me b)
abbrev nLr : Nat → Bool := fun _ => false
abbrev nMe : Nat → Nat := fun _ => 0
def sp_cover (s : sgm) (t k v : Int32) : Int64 := if (0 ≤ t ∧ t ≤ 3) ∧ (0 ≤ k ∧ k ≤ nI s.2.2.1.1 - 1) ∧ (0 ≤ v ∧ v ≤ 1) then (if rAll s k.toNatClampNeg = 0 ∨ gD s.2.1.1 s.2.2.2.1 s.2.2.2.2 t.toNatClampNeg = 0 then nol (-3) else fp (cvP s t.toNatClampNeg nLr k.toNatClampNeg) v) else nol (-2)
section
variable {X : am_X} {S : am_Sh} {M M' : am_Me} {P : Nat → Nat → Prop} {s : sgm}
theorem x_startAnew : ∃ M', am_e X 60 0 [some (.ref (6 : Nat)), none] [] kS M = some (none, kS, M') ∧ xLr nLr M' ∧ xRb nLr M' ∧ xMe 6 nMe M' ∧ am_of (fun a _ => a = 14 ∨ a = 15 ∨ a = 16) M M' := by
  have hfill := q_fill0 (X := X) (M := M) (a := 16) (n := 6) (v := 0) (by decide) s16 rfl
  generalize hM1 : am_setA M 16 (fun j => if j < 6 then 0 else M.1 16 j) = M1 at hfill
  have of1 : am_of (fun a _ => a = 16) M M1 := by rw [← hM1]; exact am_of.rf.sA (fun _ => Or.inl rfl)
  have me1 : xMe 6 nMe M1 := fun b hb => by rw [← hM1, gA, if_pos rfl, if_pos hb]; rfl
  obtain ⟨M2, e2, g2, of2⟩ := am_lp (X := X) (S := kS) (mi := 60) (pc := 10) 6 (fun i => [some (.ref (6 : Nat)), some (.int (nI i))])
    (fun i M' => (∀ k, k < i → M'.1 14 k = 0) ∧ am_of (fun a _ => a = 14) M1 M') (M := M1) ⟨fun k hk => absurd hk (Nat.not_lt_zero _), am_of.rf⟩ (by
      intro j M3 hj hI
      obtain ⟨i1, i2⟩ := hI
      have c1 : (nI j < 6) = True := eq_true (nI_lt (b := 6) hj (by decide))
      have cj : (nI j).toNatClampNeg = j := nI_clamp (by omega)
      refine ⟨am_setI M3 14 j 0, ?_, fun k hk => ?_, i2.sI rfl⟩
      · rw [e60_10]
        simp only [e60_0, e60_1, e60_4, e60_5, e60_8, e60_9, e60_11, e60_13, e60_16, e60_17, e60_20, e60_21, e60_22, e60_23, e60_26, e60_29, e60_30, e60_32, e60_34, e60_37, e60_38, e60_41, e60_42, e60_43, e60_44, e60_47, e60_50, s6, s6_0, s6_1, s6_2, s6_3, s6_4, s6_5, s6_6, s6_7, s6_8, r6_0, r6_1, r6_2, r6_3, r6_4, r6_5, r6_6, r6_7, s7, s8, s9, s10, s11, s12, s13, s14, s15, s16, s17, s18, s18_0, s18_1, s19, s19_0, s19_1, s20, s20_0, s20_1, c1, cj, am_z01, nI_1, a14 hj, am_bv_s, am_bw_s, eq_self, true_or, or_true, am_b0, am_b1, am_em, if_true, if_false, true_and, and_true, false_and, and_false, not_true_eq_false, not_false_eq_true, false_or, or_false, Bool.false_eq_true]
      · rw [gI]
        by_cases e : k = j
        · rw [if_pos ⟨rfl, e⟩]
        · rw [if_neg (fun q => e q.2)]; exact i1 k (by omega))
  obtain ⟨M4, e4, g4, of4⟩ := am_lp (X := X) (S := kS) (mi := 60) (pc := 31) 6 (fun i => [some (.ref (6 : Nat)), some (.int (nI i))])
    (fun i M' => (∀ k, k < i → M'.1 15 k = 0) ∧ am_of (fun a _ => a = 15) M2 M') (M := M2) ⟨fun k hk => absurd hk (Nat.not_lt_zero _), am_of.rf⟩ (by
      intro j M3 hj hI
      obtain ⟨i1, i2⟩ := hI
      have c1 : (nI j < 6) = True := eq_true (nI_lt (b := 6) hj (by decide))
      have cj : (nI j).toNatClampNeg = j := nI_clamp (by omega)
      refine ⟨am_setI M3 15 j 0, ?_, fun k hk => ?_, i2.sI rfl⟩
      · rw [e60_31]
        simp only [e60_0, e60_1, e60_4, e60_5, e60_8, e60_9, e60_11, e60_13, e60_16, e60_17, e60_20, e60_21, e60_22, e60_23, e60_26, e60_29, e60_30, e60_32, e60_34, e60_37, e60_38, e60_41, e60_42, e60_43, e60_44, e60_47, e60_50, s6, s6_0, s6_1, s6_2, s6_3, s6_4, s6_5, s6_6, s6_7, s6_8, r6_0, r6_1, r6_2, r6_3, r6_4, r6_5, r6_6, r6_7, s7, s8, s9, s10, s11, s12, s13, s14, s15, s16, s17, s18, s18_0, s18_1, s19, s19_0, s19_1, s20, s20_0, s20_1, c1, cj, am_z01, nI_1, a15 hj, am_bv_s, am_bw_s, eq_self, true_or, or_true, am_b0, am_b1, am_em, if_true, if_false, true_and, and_true, false_and, and_false, not_true_eq_false, not_false_eq_true, false_or, or_false, Bool.false_eq_true]
      · rw [gI]
        by_cases e : k = j
        · rw [if_pos ⟨rfl, e⟩]
        · rw [if_neg (fun q => e q.2)]; exact i1 k (by omega))
  refine ⟨M4, ?_, fun b hb => g4 b hb, fun k hk => ?_, fun b hb => ?_, ((of1.mo fun a k q => Or.inr (Or.inr q)).tr (of2.mo fun a k q => Or.inl q)).tr (of4.mo fun a k q => Or.inr (Or.inl q))⟩
  · have c6 : (nI 6 < 6) = False := eq_false (by decide)
    have f4 : am_e X 60 31 [some (.ref (6 : Nat)), some (.int (nI 6))] [] kS M4 = some (none, kS, M4) := by
      rw [e60_31]
      simp only [e60_0, e60_1, e60_4, e60_5, e60_8, e60_9, e60_11, e60_13, e60_16, e60_17, e60_20, e60_21, e60_22, e60_23, e60_26, e60_29, e60_30, e60_32, e60_34, e60_37, e60_38, e60_41, e60_42, e60_43, e60_44, e60_47, e60_50, c6, am_bv_s, am_bw_s, eq_self, true_or, or_true, am_b0, am_b1, am_em, if_true, if_false, true_and, and_true, false_and, and_false, not_true_eq_false, not_false_eq_true, false_or, or_false, Bool.false_eq_true]
    rw [f4, nI_0] at e4
    have f2 : am_e X 60 10 [some (.ref (6 : Nat)), some (.int (nI 6))] [] kS M2 = some (none, kS, M4) := by
      rw [e60_10]
      simp only [e60_0, e60_1, e60_4, e60_5, e60_8, e60_9, e60_11, e60_13, e60_16, e60_17, e60_20, e60_21, e60_22, e60_23, e60_26, e60_29, e60_30, e60_32, e60_34, e60_37, e60_38, e60_41, e60_42, e60_43, e60_44, e60_47, e60_50, c6, e4, am_bv_s, am_bw_s, eq_self, true_or, or_true, am_b0, am_b1, am_em, if_true, if_false, true_and, and_true, false_and, and_false, not_true_eq_false, not_false_eq_true, false_or, or_false, Bool.false_eq_true]
    rw [f2, nI_0] at e2
    simp only [e60_0, e60_1, e60_4, e60_5, e60_8, e60_9, e60_11, e60_13, e60_16, e60_17, e60_20, e60_21, e60_22, e60_23, e60_26, e60_29, e60_30, e60_32, e60_34, e60_37, e60_38, e60_41, e60_42, e60_43, e60_44, e60_47, e60_50, s6, s6_0, s6_1, s6_2, s6_3, s6_4, s6_5, s6_6, s6_7, s6_8, r6_0, r6_1, r6_2, r6_3, r6_4, r6_5, r6_6, r6_7, s7, s8, s9, s10, s11, s12, s13, s14, s15, s16, s17, s18, s18_0, s18_1, s19, s19_0, s19_1, s20, s20_0, s20_1, hfill, e2, am_bv_s, am_bw_s, eq_self, true_or, or_true, am_b0, am_b1, am_em, if_true, if_false, true_and, and_true, false_and, and_false, not_true_eq_false, not_false_eq_true, false_or, or_false, Bool.false_eq_true]
  · rw [(of4 _ _ (by omega)).1]; exact g2 k hk
  · rw [(of4 _ _ (by omega)).1, (of2 _ _ (by omega)).1]; exact me1 b hb
theorem x_cover (hx : JX s M) (ho : okm s) (t k v : Int32) : ∃ M', am_e X 105 0 [some (.ref (0 : Nat)), some (.int t), some (.int k), some (.int v)] [] kS M = some (some (.long (sp_cover s t k v)), kS, M') ∧ JX s M' ∧ am_of pX M M' := by
  have i1 := q_isTaker (X := X) (S := kS) (M := M) t
  have i2 := q_isBook (X := X) (M := M) hx.1.2.2.1 k
  have i3 := q_isIn (X := X) (S := kS) (M := M) v 0 1
  have b6 := ho.2.2.1.1
  unfold sp_cover
  by_cases h1 : 0 ≤ t ∧ t ≤ 3
  · rw [am_bt h1] at i1
    by_cases h2 : 0 ≤ k ∧ k ≤ nI s.2.2.1.1 - 1
    · rw [am_bt h2] at i2
      by_cases h3 : 0 ≤ v ∧ v ≤ 1
      · rw [am_bt h3] at i3
        rw [if_pos ⟨h1, h2, h3⟩]
        obtain ⟨tn, htn, rfl⟩ := in_n (n := 3) h1 (by decide)
        obtain ⟨kn, hkn, rfl⟩ := (pred_le (by omega)).mp h2
        rw [nI_clamp (n := tn) (by omega), nI_clamp (n := kn) (by omega)]
        obtain ⟨M1, r1, l1, _, _, of1⟩ := x_startAnew (X := X) (M := M)
        have j1 := hx.of of1 (fun a k q => by unfold pS; omega)
        obtain ⟨M2, r2, l2, of2⟩ := x_putLadder (X := X) (f := 58) (t := tn) (k := kn) j1 ho l1 (by omega) (by omega) isF_r (Or.inl rfl)
        have j2 := j1.of of2 (fun a k q => by unfold pS; omega)
        refine ⟨M2, ?_, j2, (of1.mo fun a k q => by unfold pX; omega).tr (of2.mo fun a k q => by unfold pX; omega)⟩
        by_cases h4 : rAll s kn = 0 ∨ gD s.2.1.1 s.2.2.2.1 s.2.2.2.2 tn = 0
        · rw [if_pos h4]
          rw [am_bf (fun q => q h4)] at r2
          simp only [e105_0, e105_1, e105_4, e105_7, e105_8, e105_9, e105_12, e105_15, e105_16, e105_17, e105_18, e105_21, e105_24, e105_26, e105_29, e105_30, e105_31, e105_34, e105_35, e105_38, e105_39, e105_40, e105_41, e105_44, e105_47, e105_50, e105_52, e105_55, e105_56, e105_57, e105_60, e105_61, e105_64, e57_0, e57_1, e57_4, e57_5, e57_6, e57_7, e57_8, e57_10, e57_13, s0, s0_0, s0_1, s0_2, s0_3, s0_4, s0_5, s0_6, s0_7, r0_0, r0_1, r0_2, r0_3, r0_4, r0_5, r0_6, r0_7, s6, s6_0, s6_1, s6_2, s6_3, s6_4, s6_5, s6_6, s6_7, s6_8, r6_0, r6_1, r6_2, r6_3, r6_4, r6_5, r6_6, r6_7, s7, s8, s9, s10, s11, s12, s13, s14, s15, s16, s17, s18, s18_0, s18_1, s19, s19_0, s19_1, s20, s20_0, s20_1, s36, s36_0, s36_1, s36_2, r36_0, r36_1, r36_2, s37, s38, s39, s40, s41, s42, s43, s44, s45, s46, s47, s47_0, s47_1, s58, s58_0, s58_1, i1, i2, i3, z10, z01, z1m, zm1, z0m, zm0, r1, r2, q_refusal2, am_bv_s, am_bw_s, eq_self, true_or, or_true, am_b0, am_b1, am_em, if_true, if_false, true_and, and_true, false_and, and_false, not_true_eq_false, not_false_eq_true, false_or, or_false, Bool.false_eq_true]
        · rw [if_neg h4]
          rw [am_bt h4] at r2
          have pq := q_part (X := X) (w := v) isF_r (l2 h4)
          simp only [e105_0, e105_1, e105_4, e105_7, e105_8, e105_9, e105_12, e105_15, e105_16, e105_17, e105_18, e105_21, e105_24, e105_26, e105_29, e105_30, e105_31, e105_34, e105_35, e105_38, e105_39, e105_40, e105_41, e105_44, e105_47, e105_50, e105_52, e105_55, e105_56, e105_57, e105_60, e105_61, e105_64, e57_0, e57_1, e57_4, e57_5, e57_6, e57_7, e57_8, e57_10, e57_13, s0, s0_0, s0_1, s0_2, s0_3, s0_4, s0_5, s0_6, s0_7, r0_0, r0_1, r0_2, r0_3, r0_4, r0_5, r0_6, r0_7, s6, s6_0, s6_1, s6_2, s6_3, s6_4, s6_5, s6_6, s6_7, s6_8, r6_0, r6_1, r6_2, r6_3, r6_4, r6_5, r6_6, r6_7, s7, s8, s9, s10, s11, s12, s13, s14, s15, s16, s17, s18, s18_0, s18_1, s19, s19_0, s19_1, s20, s20_0, s20_1, s36, s36_0, s36_1, s36_2, r36_0, r36_1, r36_2, s37, s38, s39, s40, s41, s42, s43, s44, s45, s46, s47, s47_0, s47_1, s58, s58_0, s58_1, i1, i2, i3, z10, z01, z1m, zm1, z0m, zm0, r1, r2, pq, am_bv_s, am_bw_s, eq_self, true_or, or_true, am_b0, am_b1, am_em, if_true, if_false, true_and, and_true, false_and, and_false, not_true_eq_false, not_false_eq_true, false_or, or_false, Bool.false_eq_true]
      · rw [am_bf h3] at i3
        rw [if_neg (fun q => h3 q.2.2)]
        refine ⟨M, ?_, hx, am_of.rf⟩
        simp only [e105_0, e105_1, e105_4, e105_7, e105_8, e105_9, e105_12, e105_15, e105_16, e105_17, e105_18, e105_21, e105_24, e105_26, e105_29, e105_30, e105_31, e105_34, e105_35, e105_38, e105_39, e105_40, e105_41, e105_44, e105_47, e105_50, e105_52, e105_55, e105_56, e105_57, e105_60, e105_61, e105_64, s0, s0_0, s0_1, s0_2, s0_3, s0_4, s0_5, s0_6, s0_7, r0_0, r0_1, r0_2, r0_3, r0_4, r0_5, r0_6, r0_7, i1, i2, i3, z10, z01, z1m, zm1, z0m, zm0, q_refusal2, am_bv_s, am_bw_s, eq_self, true_or, or_true, am_b0, am_b1, am_em, if_true, if_false, true_and, and_true, false_and, and_false, not_true_eq_false, not_false_eq_true, false_or, or_false, Bool.false_eq_true]
    · rw [am_bf h2] at i2
      rw [if_neg (fun q => h2 q.2.1)]
      refine ⟨M, ?_, hx, am_of.rf⟩
      simp only [e105_0, e105_1, e105_4, e105_7, e105_8, e105_9, e105_12, e105_15, e105_16, e105_17, e105_18, e105_21, e105_24, e105_26, e105_29, e105_30, e105_31, e105_34, e105_35, e105_38, e105_39, e105_40, e105_41, e105_44, e105_47, e105_50, e105_52, e105_55, e105_56, e105_57, e105_60, e105_61, e105_64, s0, s0_0, s0_1, s0_2, s0_3, s0_4, s0_5, s0_6, s0_7, r0_0, r0_1, r0_2, r0_3, r0_4, r0_5, r0_6, r0_7, i1, i2, z10, z01, z1m, zm1, z0m, zm0, q_refusal2, am_bv_s, am_bw_s, eq_self, true_or, or_true, am_b0, am_b1, am_em, if_true, if_false, true_and, and_true, false_and, and_false, not_true_eq_false, not_false_eq_true, false_or, or_false, Bool.false_eq_true]
  · rw [am_bf h1] at i1
    rw [if_neg (fun q => h1 q.1)]
    refine ⟨M, ?_, hx, am_of.rf⟩
    simp only [e105_0, e105_1, e105_4, e105_7, e105_8, e105_9, e105_12, e105_15, e105_16, e105_17, e105_18, e105_21, e105_24, e105_26, e105_29, e105_30, e105_31, e105_34, e105_35, e105_38, e105_39, e105_40, e105_41, e105_44, e105_47, e105_50, e105_52, e105_55, e105_56, e105_57, e105_60, e105_61, e105_64, s0, s0_0, s0_1, s0_2, s0_3, s0_4, s0_5, s0_6, s0_7, r0_0, r0_1, r0_2, r0_3, r0_4, r0_5, r0_6, r0_7, i1, z10, z01, z1m, zm1, z0m, zm0, q_refusal2, am_bv_s, am_bw_s, eq_self, true_or, or_true, am_b0, am_b1, am_em, if_true, if_false, true_and, and_true, false_and, and_false, not_true_eq_false, not_false_eq_true, false_or, or_false, Bool.false_eq_true]
end
