/-! the class: share, knows -/
def nol (v : Int32) : Int64 := -9223372036854775808 - v.toInt64
def sp_share (s : sgm) (t b w v : Int32) : Int64 := if ((0 ≤ t ∧ t ≤ 3) ∧ (0 ≤ b ∧ b ≤ nI s.2.1.1 - 1)) ∧ (0 ≤ w ∧ w ≤ 1) ∧ (0 ≤ v ∧ v ≤ 1) then (if sAs s.2.1.1 s.2.2.2.1 s.2.2.2.2 t.toNatClampNeg b.toNatClampNeg = 0 then nol (-3) else if w = 0 then fp (fr (sYe s.2.1.1 s.2.2.2.1 s.2.2.2.2 t.toNatClampNeg b.toNatClampNeg) (tH s.2.1.1 s.2.2.2.1 s.2.2.2.2 t.toNatClampNeg b.toNatClampNeg)) v else if gD s.2.1.1 s.2.2.2.1 s.2.2.2.2 t.toNatClampNeg = 0 then nol (-3) else fp (fr (tC s.2.1.1 s.2.2.2.1 s.2.2.2.2 t.toNatClampNeg b.toNatClampNeg) (tH s.2.1.1 s.2.2.2.1 s.2.2.2.2 t.toNatClampNeg b.toNatClampNeg * gD s.2.1.1 s.2.2.2.1 s.2.2.2.2 t.toNatClampNeg)) v) else nol (-2)
section
variable {X : am_X} {S : am_Sh} {M M' : am_Me} {P : Nat → Nat → Prop} {s : sgm}
theorem q_refusal2 (v : Int32) : am_e X 133 0 [some (.int v)] [] S M = some (some (.long (nol v)), S, M) := q_refusal v
theorem isF_r : isF 58 := ⟨by decide, by decide, by decide⟩
theorem isF_t : isF 47 := ⟨by decide, by decide, by decide⟩
theorem x_share (hx : JX s M) (ho : okm s) (t b w v : Int32) : ∃ M', am_e X 101 0 [some (.ref (0 : Nat)), some (.int t), some (.int b), some (.int w), some (.int v)] [] kS M = some (some (.long (sp_share s t b w v)), kS, M') ∧ JX s M' ∧ am_of pX M M' := by
  have i1 := q_isTaker (X := X) (S := kS) (M := M) t
  have i2 := x_isBand (X := X) (M := M) hx.1.2.1 b
  have i3 := q_isIn (X := X) (S := kS) (M := M) w 0 1
  have i4 := q_isIn (X := X) (S := kS) (M := M) v 0 1
  have d6 := ho.2.1.1
  unfold sp_share
  by_cases h1 : 0 ≤ t ∧ t ≤ 3
  · rw [am_bt h1] at i1
    by_cases h2 : 0 ≤ b ∧ b ≤ nI s.2.1.1 - 1
    · rw [am_bt h2] at i2
      by_cases h3 : 0 ≤ w ∧ w ≤ 1
      · rw [am_bt h3] at i3
        by_cases h4 : 0 ≤ v ∧ v ≤ 1
        · rw [am_bt h4] at i4
          rw [if_pos ⟨⟨h1, h2⟩, h3, h4⟩]
          obtain ⟨tn, htn, rfl⟩ := in_n (n := 3) h1 (by decide)
          obtain ⟨bn, hbn, rfl⟩ := (pred_le (by omega)).mp h2
          rw [nI_clamp (n := tn) (by omega), nI_clamp (n := bn) (by omega)]
          have ht : tn < 4 := by omega
          have hb7 : bn < 7 := by omega
          have xT := hx.2.2
          have qa := q_askedOf (X := X) xT ht hb7
          have h40 := sAs_le d6 (l := s.2.2.2.1) (A := s.2.2.2.2) (t := tn) (k := bn)
          have c1 : (nI (sAs s.2.1.1 s.2.2.2.1 s.2.2.2.2 tn bn) = 0) = (sAs s.2.1.1 s.2.2.2.1 s.2.2.2.2 tn bn = 0) := nI_0e (by omega)
          by_cases h5 : sAs s.2.1.1 s.2.2.2.1 s.2.2.2.2 tn bn = 0
          · rw [if_pos h5]
            refine ⟨M, ?_, hx, am_of.rf⟩
            have n0 : (nI 0 = 0) = True := eq_true rfl
            simp only [e101_0, e101_1, e101_4, e101_7, e101_8, e101_9, e101_12, e101_15, e101_17, e101_20, e101_21, e101_22, e101_23, e101_24, e101_27, e101_30, e101_32, e101_33, e101_34, e101_37, e101_40, e101_42, e101_45, e101_46, e101_47, e101_50, e101_51, e101_52, e101_55, e101_58, e101_60, e101_63, e101_64, e101_65, e101_68, e101_69, e101_72, e101_73, e101_74, e101_75, e101_78, e101_81, e101_82, e101_85, e101_87, e101_90, e101_91, e101_92, e101_95, e101_96, e101_99, e101_102, e101_104, e101_107, e101_108, e101_109, e101_112, e101_113, e101_114, e101_115, e101_118, e101_121, e101_122, e101_125, e101_127, e101_130, s0, s0_0, s0_1, s0_2, s0_3, s0_4, s0_5, s0_6, s0_7, r0_0, r0_1, r0_2, r0_3, r0_4, r0_5, r0_6, r0_7, s36, s36_0, s36_1, s36_2, r36_0, r36_1, r36_2, s37, s38, s39, s40, s41, s42, s43, s44, s45, s46, s47, s47_0, s47_1, i1, i2, i3, i4, z10, z01, z1m, zm1, z0m, zm0, qa, h5, n0, q_refusal2, am_bv_s, am_bw_s, eq_self, true_or, or_true, am_b0, am_b1, am_em, if_true, if_false, true_and, and_true, false_and, and_false, not_true_eq_false, not_false_eq_true, false_or, or_false, Bool.false_eq_true]
          · rw [if_neg h5]
            have scr : ∀ {M' : am_Me}, am_of (fun a _ => a = 58) M M' → JX s M' ∧ am_of pX M M' := fun h => ⟨hx.of h (fun a k q => by unfold pS; omega), h.mo fun a k q => by unfold pX; omega⟩
            by_cases h6 : w = 0
            · rw [if_pos h6]
              obtain ⟨M', r1, r2, r3⟩ := q_putPlain (X := X) (f := 58) d6 xT ht hb7 isF_r
              refine ⟨M', ?_, scr r3⟩
              have pq := q_part (X := X) (w := v) isF_r r2
              subst h6
              simp only [e101_0, e101_1, e101_4, e101_7, e101_8, e101_9, e101_12, e101_15, e101_17, e101_20, e101_21, e101_22, e101_23, e101_24, e101_27, e101_30, e101_32, e101_33, e101_34, e101_37, e101_40, e101_42, e101_45, e101_46, e101_47, e101_50, e101_51, e101_52, e101_55, e101_58, e101_60, e101_63, e101_64, e101_65, e101_68, e101_69, e101_72, e101_73, e101_74, e101_75, e101_78, e101_81, e101_82, e101_85, e101_87, e101_90, e101_91, e101_92, e101_95, e101_96, e101_99, e101_102, e101_104, e101_107, e101_108, e101_109, e101_112, e101_113, e101_114, e101_115, e101_118, e101_121, e101_122, e101_125, e101_127, e101_130, s0, s0_0, s0_1, s0_2, s0_3, s0_4, s0_5, s0_6, s0_7, r0_0, r0_1, r0_2, r0_3, r0_4, r0_5, r0_6, r0_7, s36, s36_0, s36_1, s36_2, r36_0, r36_1, r36_2, s37, s38, s39, s40, s41, s42, s43, s44, s45, s46, s47, s47_0, s47_1, s58, s58_0, s58_1, i1, i2, i3, i4, z10, z01, z1m, zm1, z0m, zm0, qa, c1, h5, r1, pq, am_bv_s, am_bw_s, eq_self, true_or, or_true, am_b0, am_b1, am_em, if_true, if_false, true_and, and_true, false_and, and_false, not_true_eq_false, not_false_eq_true, false_or, or_false, Bool.false_eq_true]
            · rw [if_neg h6]
              have ga := q_guessesAll (X := X) d6 xT ht
              by_cases h7 : gD s.2.1.1 s.2.2.2.1 s.2.2.2.2 tn = 0
              · rw [if_pos h7]
                rw [am_bt h7] at ga
                refine ⟨M, ?_, hx, am_of.rf⟩
                simp only [e101_0, e101_1, e101_4, e101_7, e101_8, e101_9, e101_12, e101_15, e101_17, e101_20, e101_21, e101_22, e101_23, e101_24, e101_27, e101_30, e101_32, e101_33, e101_34, e101_37, e101_40, e101_42, e101_45, e101_46, e101_47, e101_50, e101_51, e101_52, e101_55, e101_58, e101_60, e101_63, e101_64, e101_65, e101_68, e101_69, e101_72, e101_73, e101_74, e101_75, e101_78, e101_81, e101_82, e101_85, e101_87, e101_90, e101_91, e101_92, e101_95, e101_96, e101_99, e101_102, e101_104, e101_107, e101_108, e101_109, e101_112, e101_113, e101_114, e101_115, e101_118, e101_121, e101_122, e101_125, e101_127, e101_130, s0, s0_0, s0_1, s0_2, s0_3, s0_4, s0_5, s0_6, s0_7, r0_0, r0_1, r0_2, r0_3, r0_4, r0_5, r0_6, r0_7, s36, s36_0, s36_1, s36_2, r36_0, r36_1, r36_2, s37, s38, s39, s40, s41, s42, s43, s44, s45, s46, s47, s47_0, s47_1, s58, s58_0, s58_1, i1, i2, i3, i4, z10, z01, z1m, zm1, z0m, zm0, qa, c1, h5, h6, ga, q_refusal2, am_bv_s, am_bw_s, eq_self, true_or, or_true, am_b0, am_b1, am_em, if_true, if_false, true_and, and_true, false_and, and_false, not_true_eq_false, not_false_eq_true, false_or, or_false, Bool.false_eq_true]
              · rw [if_neg h7]
                rw [am_bf h7] at ga
                obtain ⟨M', r1, r2, r3⟩ := q_putTrue (X := X) (f := 58) d6 xT ht hb7 isF_r (by omega)
                refine ⟨M', ?_, scr r3⟩
                have pq := q_part (X := X) (w := v) isF_r r2
                simp only [e101_0, e101_1, e101_4, e101_7, e101_8, e101_9, e101_12, e101_15, e101_17, e101_20, e101_21, e101_22, e101_23, e101_24, e101_27, e101_30, e101_32, e101_33, e101_34, e101_37, e101_40, e101_42, e101_45, e101_46, e101_47, e101_50, e101_51, e101_52, e101_55, e101_58, e101_60, e101_63, e101_64, e101_65, e101_68, e101_69, e101_72, e101_73, e101_74, e101_75, e101_78, e101_81, e101_82, e101_85, e101_87, e101_90, e101_91, e101_92, e101_95, e101_96, e101_99, e101_102, e101_104, e101_107, e101_108, e101_109, e101_112, e101_113, e101_114, e101_115, e101_118, e101_121, e101_122, e101_125, e101_127, e101_130, s0, s0_0, s0_1, s0_2, s0_3, s0_4, s0_5, s0_6, s0_7, r0_0, r0_1, r0_2, r0_3, r0_4, r0_5, r0_6, r0_7, s36, s36_0, s36_1, s36_2, r36_0, r36_1, r36_2, s37, s38, s39, s40, s41, s42, s43, s44, s45, s46, s47, s47_0, s47_1, s58, s58_0, s58_1, i1, i2, i3, i4, z10, z01, z1m, zm1, z0m, zm0, qa, c1, h5, h6, ga, r1, pq, am_bv_s, am_bw_s, eq_self, true_or, or_true, am_b0, am_b1, am_em, if_true, if_false, true_and, and_true, false_and, and_false, not_true_eq_false, not_false_eq_true, false_or, or_false, Bool.false_eq_true]
        · rw [am_bf h4] at i4
          rw [if_neg (fun q => h4 q.2.2)]
          refine ⟨M, ?_, hx, am_of.rf⟩
          simp only [e101_0, e101_1, e101_4, e101_7, e101_8, e101_9, e101_12, e101_15, e101_17, e101_20, e101_21, e101_22, e101_23, e101_24, e101_27, e101_30, e101_32, e101_33, e101_34, e101_37, e101_40, e101_42, e101_45, e101_46, e101_47, e101_50, e101_51, e101_52, e101_55, e101_58, e101_60, e101_63, e101_64, e101_65, e101_68, e101_69, e101_72, e101_73, e101_74, e101_75, e101_78, e101_81, e101_82, e101_85, e101_87, e101_90, e101_91, e101_92, e101_95, e101_96, e101_99, e101_102, e101_104, e101_107, e101_108, e101_109, e101_112, e101_113, e101_114, e101_115, e101_118, e101_121, e101_122, e101_125, e101_127, e101_130, s0, s0_0, s0_1, s0_2, s0_3, s0_4, s0_5, s0_6, s0_7, r0_0, r0_1, r0_2, r0_3, r0_4, r0_5, r0_6, r0_7, i1, i2, i3, i4, z10, z01, z1m, zm1, z0m, zm0, q_refusal2, am_bv_s, am_bw_s, eq_self, true_or, or_true, am_b0, am_b1, am_em, if_true, if_false, true_and, and_true, false_and, and_false, not_true_eq_false, not_false_eq_true, false_or, or_false, Bool.false_eq_true]
      · rw [am_bf h3] at i3
        rw [if_neg (fun q => h3 q.2.1)]
        refine ⟨M, ?_, hx, am_of.rf⟩
        simp only [e101_0, e101_1, e101_4, e101_7, e101_8, e101_9, e101_12, e101_15, e101_17, e101_20, e101_21, e101_22, e101_23, e101_24, e101_27, e101_30, e101_32, e101_33, e101_34, e101_37, e101_40, e101_42, e101_45, e101_46, e101_47, e101_50, e101_51, e101_52, e101_55, e101_58, e101_60, e101_63, e101_64, e101_65, e101_68, e101_69, e101_72, e101_73, e101_74, e101_75, e101_78, e101_81, e101_82, e101_85, e101_87, e101_90, e101_91, e101_92, e101_95, e101_96, e101_99, e101_102, e101_104, e101_107, e101_108, e101_109, e101_112, e101_113, e101_114, e101_115, e101_118, e101_121, e101_122, e101_125, e101_127, e101_130, s0, s0_0, s0_1, s0_2, s0_3, s0_4, s0_5, s0_6, s0_7, r0_0, r0_1, r0_2, r0_3, r0_4, r0_5, r0_6, r0_7, i1, i2, i3, z10, z01, z1m, zm1, z0m, zm0, q_refusal2, am_bv_s, am_bw_s, eq_self, true_or, or_true, am_b0, am_b1, am_em, if_true, if_false, true_and, and_true, false_and, and_false, not_true_eq_false, not_false_eq_true, false_or, or_false, Bool.false_eq_true]
    · rw [am_bf h2] at i2
      rw [if_neg (fun q => h2 q.1.2)]
      refine ⟨M, ?_, hx, am_of.rf⟩
      simp only [e101_0, e101_1, e101_4, e101_7, e101_8, e101_9, e101_12, e101_15, e101_17, e101_20, e101_21, e101_22, e101_23, e101_24, e101_27, e101_30, e101_32, e101_33, e101_34, e101_37, e101_40, e101_42, e101_45, e101_46, e101_47, e101_50, e101_51, e101_52, e101_55, e101_58, e101_60, e101_63, e101_64, e101_65, e101_68, e101_69, e101_72, e101_73, e101_74, e101_75, e101_78, e101_81, e101_82, e101_85, e101_87, e101_90, e101_91, e101_92, e101_95, e101_96, e101_99, e101_102, e101_104, e101_107, e101_108, e101_109, e101_112, e101_113, e101_114, e101_115, e101_118, e101_121, e101_122, e101_125, e101_127, e101_130, s0, s0_0, s0_1, s0_2, s0_3, s0_4, s0_5, s0_6, s0_7, r0_0, r0_1, r0_2, r0_3, r0_4, r0_5, r0_6, r0_7, i1, i2, z10, z01, z1m, zm1, z0m, zm0, q_refusal2, am_bv_s, am_bw_s, eq_self, true_or, or_true, am_b0, am_b1, am_em, if_true, if_false, true_and, and_true, false_and, and_false, not_true_eq_false, not_false_eq_true, false_or, or_false, Bool.false_eq_true]
  · rw [am_bf h1] at i1
    rw [if_neg (fun q => h1 q.1.1)]
    refine ⟨M, ?_, hx, am_of.rf⟩
    simp only [e101_0, e101_1, e101_4, e101_7, e101_8, e101_9, e101_12, e101_15, e101_17, e101_20, e101_21, e101_22, e101_23, e101_24, e101_27, e101_30, e101_32, e101_33, e101_34, e101_37, e101_40, e101_42, e101_45, e101_46, e101_47, e101_50, e101_51, e101_52, e101_55, e101_58, e101_60, e101_63, e101_64, e101_65, e101_68, e101_69, e101_72, e101_73, e101_74, e101_75, e101_78, e101_81, e101_82, e101_85, e101_87, e101_90, e101_91, e101_92, e101_95, e101_96, e101_99, e101_102, e101_104, e101_107, e101_108, e101_109, e101_112, e101_113, e101_114, e101_115, e101_118, e101_121, e101_122, e101_125, e101_127, e101_130, s0, s0_0, s0_1, s0_2, s0_3, s0_4, s0_5, s0_6, s0_7, r0_0, r0_1, r0_2, r0_3, r0_4, r0_5, r0_6, r0_7, i1, z10, z01, z1m, zm1, z0m, zm0, q_refusal2, am_bv_s, am_bw_s, eq_self, true_or, or_true, am_b0, am_b1, am_em, if_true, if_false, true_and, and_true, false_and, and_false, not_true_eq_false, not_false_eq_true, false_or, or_false, Bool.false_eq_true]
/-- whether a band was asked -/
def hasA (nb : Nat) (l : sgL) (A : sgA) (t : Nat) : Nat → Bool
  | 0 => false
  | n + 1 => hasA nb l A t n || decide (0 < sAs nb l A t n)
theorem q_hasAsked {nb : Nat} {l : sgL} {A : sgA} {t : Nat} (hb : nb ≤ 6) (hx : xT nb l A M) (ht : t < 4) : am_e X 70 0 [some (.ref (36 : Nat)), some (.int (nI t)), none] [] kS M = some (some (.int (am_b (hasA nb l A t 6 = true))), kS, M) := by
  have ct : (nI t).toNatClampNeg = t := nI_clamp (by omega)
  have lp : ∀ (k i : Nat), i + k = 6 → hasA nb l A t i = false → am_e X 70 2 [some (.ref (36 : Nat)), some (.int (nI t)), some (.int (nI i))] [] kS M = some (some (.int (am_b (hasA nb l A t 6 = true))), kS, M) := by
    intro k
    induction k with
    | zero =>
      intro i hi hh
      obtain rfl : i = 6 := by omega
      have c1 : (nI 6 < 6) = False := eq_false (by decide)
      rw [am_bf (by rw [hh]; decide), e70_2]
      simp only [e70_0, e70_1, e70_3, e70_5, e70_8, e70_9, e70_12, e70_13, e70_14, e70_15, e70_16, e70_19, e70_20, e70_21, e70_24, e70_27, e70_28, c1, am_bv_s, am_bw_s, eq_self, true_or, or_true, am_b0, am_b1, am_em, if_true, if_false, true_and, and_true, false_and, and_false, not_true_eq_false, not_false_eq_true, false_or, or_false, Bool.false_eq_true]
    | succ k ih =>
      intro i hi hh
      have c1 : (nI i < 6) = True := eq_true (nI_lt (b := 6) (by omega) (by decide))
      have ci : (nI i).toNatClampNeg = i := nI_clamp (by omega)
      have i7 : i < 7 := by omega
      have h40 := sAs_le hb (l := l) (A := A) (t := t) (k := i)
      have c2 : ((0 : Int32) < nI (sAs nb l A t i)) = (0 < sAs nb l A t i) := propext (nI_ltI (a := 0) (by decide) (by omega))
      have x1 := (hx t ht i i7).1
      by_cases h : 0 < sAs nb l A t i
      · have hm : ∀ n, i < n → hasA nb l A t n = true := by
          intro n hn
          induction n with
          | zero => omega
          | succ n ihn =>
            rw [hasA]
            by_cases e : i = n
            · subst e; simp [h]
            · rw [ihn (by omega)]; rfl
        rw [am_bt (hm 6 (by omega)), e70_2]
        simp only [e70_0, e70_1, e70_3, e70_5, e70_8, e70_9, e70_12, e70_13, e70_14, e70_15, e70_16, e70_19, e70_20, e70_21, e70_24, e70_27, e70_28, s36, s36_0, s36_1, s36_2, r36_0, r36_1, r36_2, s37, s38, s39, s40, s41, s42, s43, s44, s45, s46, s47, s47_0, s47_1, c1, ct, ci, x1, c2, h, a37 ht, r37 t ht, t37 t ht, g37 ht i7, am_bv_s, am_bw_s, eq_self, true_or, or_true, am_b0, am_b1, am_em, if_true, if_false, true_and, and_true, false_and, and_false, not_true_eq_false, not_false_eq_true, false_or, or_false, Bool.false_eq_true]
      · rw [← ih (i + 1) (by omega) (by rw [hasA, hh]; simp [h]), e70_2]
        simp only [e70_0, e70_1, e70_3, e70_5, e70_8, e70_9, e70_12, e70_13, e70_14, e70_15, e70_16, e70_19, e70_20, e70_21, e70_24, e70_27, e70_28, s36, s36_0, s36_1, s36_2, r36_0, r36_1, r36_2, s37, s38, s39, s40, s41, s42, s43, s44, s45, s46, s47, s47_0, s47_1, c1, ct, ci, x1, c2, h, nI_1, a37 ht, r37 t ht, t37 t ht, g37 ht i7, am_bv_s, am_bw_s, eq_self, true_or, or_true, am_b0, am_b1, am_em, if_true, if_false, true_and, and_true, false_and, and_false, not_true_eq_false, not_false_eq_true, false_or, or_false, Bool.false_eq_true]
  have q := lp 6 0 (by omega) rfl
  rw [nI_0] at q
  simp only [e70_0, e70_1, e70_3, e70_5, e70_8, e70_9, e70_12, e70_13, e70_14, e70_15, e70_16, e70_19, e70_20, e70_21, e70_24, e70_27, e70_28, q, am_bv_s, am_bw_s, eq_self, true_or, or_true, am_b0, am_b1, am_em, if_true, if_false, true_and, and_true, false_and, and_false, not_true_eq_false, not_false_eq_true, false_or, or_false, Bool.false_eq_true]
end
