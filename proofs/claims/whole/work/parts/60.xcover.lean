/-! the class: covers -/
/-- a learned band counts as known -/
def cvC (s : sgm) (t : Nat) (lr : Nat → Bool) (b : Nat) : Nat := if lr b = true then gD s.2.1.1 s.2.2.2.1 s.2.2.2.2 t else tC s.2.1.1 s.2.2.2.1 s.2.2.2.2 t b
def cvH (s : sgm) (t : Nat) (lr : Nat → Bool) (b : Nat) : Nat := if lr b = true then 1 else tH s.2.1.1 s.2.2.2.1 s.2.2.2.2 t b
def cvQ (s : sgm) (t : Nat) (lr : Nat → Bool) (k n : Nat) : Nat × Nat := qS (s.2.2.1.2 k) (cvC s t lr) (cvH s t lr) n
/-- the running words of a book -/
def rAll (s : sgm) (k : Nat) : Nat := sm (s.2.2.1.2 k) 6
/-- the understood words of a book, as a quotient -/
def cvF (s : sgm) (t : Nat) (lr : Nat → Bool) (k : Nat) : Nat × Nat := fr (cvQ s t lr k 6).1 (gD s.2.1.1 s.2.2.2.1 s.2.2.2.2 t * (cvQ s t lr k 6).2)
def cvP (s : sgm) (t : Nat) (lr : Nat → Bool) (k : Nat) : Nat × Nat := fr (cvF s t lr k).1 ((cvF s t lr k).2 * rAll s k)
def xLr (lr : Nat → Bool) (M : am_Me) : Prop := ∀ b, b < 6 → M.1 15 b = if lr b = true then 1 else 0
section
variable {X : am_X} {S : am_Sh} {M M' : am_Me} {P : Nat → Nat → Prop} {s : sgm}
theorem cv_le {t b : Nat} {lr : Nat → Bool} : cvC s t lr b ≤ cvH s t lr b * gD s.2.1.1 s.2.2.2.1 s.2.2.2.2 t := by
  unfold cvC cvH
  by_cases h : lr b = true
  · rw [if_pos h, if_pos h, Nat.one_mul]; exact Nat.le_refl _
  · rw [if_neg h, if_neg h]; exact tC_le
theorem cv_pos {t b : Nat} {lr : Nat → Bool} : 0 < cvH s t lr b := by
  unfold cvH
  split
  · exact Nat.one_pos
  · exact tH_pos
theorem cv_ht {t b : Nat} {lr : Nat → Bool} : cvH s t lr b ≤ tH s.2.1.1 s.2.2.2.1 s.2.2.2.2 t b := by
  unfold cvH
  split
  · exact tH_pos
  · exact Nat.le_refl _
theorem cv_den (ho : okm s) {t k n : Nat} {lr : Nat → Bool} (hn : n ≤ 6) : gD s.2.1.1 s.2.2.2.1 s.2.2.2.2 t * (cvQ s t lr k n).2 < 2300000 := den_lt ho.2.1.1 hn (fun _ _ => cv_ht)
theorem cv_bd (ho : okm s) {t b : Nat} {lr : Nat → Bool} : (fr (cvC s t lr b) (cvH s t lr b * gD s.2.1.1 s.2.2.2.1 s.2.2.2.2 t)).1 ≤ 1600 ∧ (fr (cvC s t lr b) (cvH s t lr b * gD s.2.1.1 s.2.2.2.1 s.2.2.2.2 t)).2 ≤ 1600 := by
  unfold cvC cvH
  by_cases h : lr b = true
  · rw [if_pos h, if_pos h]
    have h40 := sAs_le ho.2.1.1 (l := s.2.2.2.1) (A := s.2.2.2.2) (t := t) (k := 6)
    have d40 : gD s.2.1.1 s.2.2.2.1 s.2.2.2.2 t ≤ 40 := by unfold gD gG; omega
    have f := @fr_le (gD s.2.1.1 s.2.2.2.1 s.2.2.2.2 t) (1 * gD s.2.1.1 s.2.2.2.1 s.2.2.2.2 t)
    omega
  · rw [if_neg h, if_neg h]
    exact tr_bd ho.2.1.1
theorem rAll_le (ho : okm s) {k : Nat} (hk : k < 6) : rAll s k ≤ 594 := sm_le 6 (fun i hi => ho.2.2.1.2 k hk i hi)
theorem cvF_pos {t k : Nat} {lr : Nat → Bool} (hD : 0 < gD s.2.1.1 s.2.2.2.1 s.2.2.2.2 t) : 0 < (cvF s t lr k).2 := fr_pos (Nat.mul_pos hD (qS_pos 6 (fun _ _ => cv_pos)))
theorem cvF_bd (ho : okm s) {t k : Nat} {lr : Nat → Bool} (hk : k < 6) (hD : 0 < gD s.2.1.1 s.2.2.2.1 s.2.2.2.2 t) : (cvF s t lr k).1 ≤ 594 * (cvF s t lr k).2 ∧ (cvF s t lr k).2 < 2300000 := by
  refine ⟨qS_p1 hD (Nat.le_refl _) (fun b hb => ⟨cv_le, ho.2.2.1.2 k hk b hb⟩) (fun _ _ => cv_pos), ?_⟩
  have := cv_den ho (t := t) (k := k) (lr := lr) (Nat.le_refl 6)
  have f := @fr_le (cvQ s t lr k 6).1 (gD s.2.1.1 s.2.2.2.1 s.2.2.2.2 t * (cvQ s t lr k 6).2)
  unfold cvF
  omega
theorem isF_st : isF 18 := ⟨by decide, by decide, by decide⟩
theorem isF_sc : isF 19 := ⟨by decide, by decide, by decide⟩
theorem isF_sg : isF 20 := ⟨by decide, by decide, by decide⟩
theorem xLr.of {lr : Nat → Bool} (hx : xLr lr M) (ho : am_of P M M') (hP : ∀ a k, P a k → ¬ a = 15) : xLr lr M' := fun b hb => ((ho _ _ (fun z => hP _ _ z rfl)).1).trans (hx b hb)
theorem x_putLadder {f t k : Nat} {lr : Nat → Bool} (hx : JX s M) (ho : okm s) (hl : xLr lr M) (ht : t < 4) (hk : k < 6) (hf : isF f) (hf2 : f = 58 ∨ f = 19) : ∃ M', am_e X 63 0 [some (.ref (6 : Nat)), some (.ref (36 : Nat)), some (.int (nI t)), some (.int (nI k)), some (.ref f), none, none] [] kS M = some (some (.int (am_b (¬ (rAll s k = 0 ∨ gD s.2.1.1 s.2.2.2.1 s.2.2.2.2 t = 0)))), kS, M') ∧ (¬ (rAll s k = 0 ∨ gD s.2.1.1 s.2.2.2.1 s.2.2.2.2 t = 0) → hF f (cvP s t lr k) M') ∧ am_of (fun a _ => a = f ∨ a = 18) M M' := by
  have d6 := ho.2.1.1
  have ck : (nI k).toNatClampNeg = k := nI_clamp (by omega)
  obtain ⟨M1, u1, u2, u3⟩ := x_put (X := X) (M := M) (a := 0) (b := 1) hf (by decide) (by decide) (by decide)
  have jx : ∀ {M' : am_Me}, am_of (fun a _ => a = f ∨ a = 18) M M' → JX s M' := fun h => hx.of h (fun a k q => by unfold pS; omega)
  have jl : ∀ {M' : am_Me}, am_of (fun a _ => a = f ∨ a = 18) M M' → xLr lr M' := fun h => hl.of h (fun a k q => by omega)
  have hle : ∀ i, i ≤ 6 → sm (s.2.2.1.2 k) i ≤ 594 := fun i hi => Nat.le_trans (sm_mo hi) (rAll_le ho hk)
  obtain ⟨M', e1, g1, g2⟩ := am_lp (X := X) (S := kS) (mi := 63) (pc := 13) 6 (fun i => [some (.ref (6 : Nat)), some (.ref (36 : Nat)), some (.int (nI t)), some (.int (nI k)), some (.ref f), some (.int (nI (sm (s.2.2.1.2 k) i))), some (.int (nI i))])
    (fun i M' => (0 < gD s.2.1.1 s.2.2.2.1 s.2.2.2.2 t → hF f (fr (cvQ s t lr k i).1 (gD s.2.1.1 s.2.2.2.1 s.2.2.2.2 t * (cvQ s t lr k i).2)) M') ∧ am_of (fun a _ => a = f ∨ a = 18) M M') (M := M1) ⟨fun hD => by
      have e : fr (cvQ s t lr k 0).1 (gD s.2.1.1 s.2.2.2.1 s.2.2.2.2 t * (cvQ s t lr k 0).2) = fr 0 1 := by
        show fr 0 (gD s.2.1.1 s.2.2.2.1 s.2.2.2.2 t * 1) = _
        rw [Nat.mul_one, fr_0 hD, fr_0 (by decide)]
      rw [e]; exact u2, u3.mo fun a k q => Or.inl q⟩ (by
      intro j M2 hj hI
      obtain ⟨i1, i2⟩ := hI
      have j2 := jx i2
      have c1 : (nI j < 6) = True := eq_true (nI_lt (b := 6) hj (by decide))
      have cj : (nI j).toNatClampNeg = j := nI_clamp (by omega)
      have rr := j2.1.2.2.1.2 k hk j hj
      have v99 := ho.2.2.1.2 k hk j hj
      have lw := lI_w (n := s.2.2.1.2 k j) (by omega)
      have lj := jl i2 j hj
      have sa : nI (sm (s.2.2.1.2 k) j) + nI (s.2.2.1.2 k j) = nI (sm (s.2.2.1.2 k) (j + 1)) := nI_add _ _
      -- what is put for the band
      have tr : ∃ M3, (∀ z, am_e X 63 13 [some (.ref (6 : Nat)), some (.ref (36 : Nat)), some (.int (nI t)), some (.int (nI k)), some (.ref f), some (.int (nI (sm (s.2.2.1.2 k) j))), some (.int (nI j))] [] kS M2 = z ↔ am_e X 63 67 [some (.ref (6 : Nat)), some (.ref (36 : Nat)), some (.int (nI t)), some (.int (nI k)), some (.ref f), some (.int (nI (sm (s.2.2.1.2 k) (j + 1)))), some (.int (nI j))] [] kS M3 = z) ∧ (0 < gD s.2.1.1 s.2.2.2.1 s.2.2.2.2 t → hF 18 (fr (cvC s t lr j) (cvH s t lr j * gD s.2.1.1 s.2.2.2.1 s.2.2.2.2 t)) M3) ∧ am_of (fun a _ => a = 18) M2 M3 := by
        by_cases hlr : lr j = true
        · rw [if_pos hlr] at lj
          obtain ⟨M3, b1, b2, b3⟩ := x_put (X := X) (M := M2) (f := 18) (a := 1) (b := 1) isF_st (by decide) (by decide) (by decide)
          refine ⟨M3, fun z => ?_, fun hD => ?_, b3⟩
          · rw [lI_1] at b1
            have o0 : ((1 : Int32) = 0) = False := eq_false (by decide)
            rw [e63_13]
            simp only [e63_0, e63_2, e63_3, e63_4, e63_7, e63_8, e63_10, e63_11, e63_15, e63_17, e63_20, e63_22, e63_23, e63_26, e63_27, e63_28, e63_30, e63_31, e63_32, e63_34, e63_35, e63_38, e63_40, e63_41, e63_44, e63_45, e63_48, e63_49, e63_50, e63_53, e63_56, e63_57, e63_58, e63_60, e63_61, e63_64, e63_69, e63_70, e63_73, e63_74, e63_77, e63_78, e63_79, e63_81, e63_82, e63_83, e63_86, e63_89, e63_92, e63_94, e63_97, e63_98, e63_99, e63_102, e63_105, e63_106, e63_107, e63_109, e63_111, e63_112, e63_115, e63_116, s6, s6_0, s6_1, s6_2, s6_3, s6_4, s6_5, s6_6, s6_7, s6_8, r6_0, r6_1, r6_2, r6_3, r6_4, r6_5, r6_6, r6_7, s7, s8, s9, s10, s11, s12, s13, s14, s15, s16, s17, s18, s18_0, s18_1, s19, s19_0, s19_1, s20, s20_0, s20_1, c1, cj, ck, rr, lj, o0, sa, b1, a7 hk, r7 k hk, t7 k hk, g7 hk hj, a15 hj, am_bv_s, am_bw_s, eq_self, true_or, or_true, am_b0, am_b1, am_em, if_true, if_false, true_and, and_true, false_and, and_false, not_true_eq_false, not_false_eq_true, false_or, or_false, Bool.false_eq_true]
          · have e : fr (cvC s t lr j) (cvH s t lr j * gD s.2.1.1 s.2.2.2.1 s.2.2.2.2 t) = fr 1 1 := by
              unfold cvC cvH
              rw [if_pos hlr, if_pos hlr]
              exact fr_eq (Nat.mul_pos (by decide) hD) (by decide) (by omega)
            rw [e]; exact b2
        · rw [if_neg hlr] at lj
          have z0 : ((0 : Int32) = 0) = True := eq_true rfl
          by_cases hD : 0 < gD s.2.1.1 s.2.2.2.1 s.2.2.2.2 t
          · obtain ⟨M3, b1, b2, b3⟩ := q_putTrue (X := X) (f := 18) (b := j) d6 j2.2.2 ht (by omega) isF_st hD
            refine ⟨M3, fun z => ?_, fun _ => ?_, b3⟩
            · rw [e63_13]
              simp only [e63_0, e63_2, e63_3, e63_4, e63_7, e63_8, e63_10, e63_11, e63_15, e63_17, e63_20, e63_22, e63_23, e63_26, e63_27, e63_28, e63_30, e63_31, e63_32, e63_34, e63_35, e63_38, e63_40, e63_41, e63_44, e63_45, e63_48, e63_49, e63_50, e63_53, e63_56, e63_57, e63_58, e63_60, e63_61, e63_64, e63_69, e63_70, e63_73, e63_74, e63_77, e63_78, e63_79, e63_81, e63_82, e63_83, e63_86, e63_89, e63_92, e63_94, e63_97, e63_98, e63_99, e63_102, e63_105, e63_106, e63_107, e63_109, e63_111, e63_112, e63_115, e63_116, s6, s6_0, s6_1, s6_2, s6_3, s6_4, s6_5, s6_6, s6_7, s6_8, r6_0, r6_1, r6_2, r6_3, r6_4, r6_5, r6_6, r6_7, s7, s8, s9, s10, s11, s12, s13, s14, s15, s16, s17, s18, s18_0, s18_1, s19, s19_0, s19_1, s20, s20_0, s20_1, s36, s36_0, s36_1, s36_2, r36_0, r36_1, r36_2, s37, s38, s39, s40, s41, s42, s43, s44, s45, s46, s47, s47_0, s47_1, c1, cj, ck, rr, lj, z0, sa, b1, a7 hk, r7 k hk, t7 k hk, g7 hk hj, a15 hj, am_bv_s, am_bw_s, eq_self, true_or, or_true, am_b0, am_b1, am_em, if_true, if_false, true_and, and_true, false_and, and_false, not_true_eq_false, not_false_eq_true, false_or, or_false, Bool.false_eq_true]
            · unfold cvC cvH
              rw [if_neg hlr, if_neg hlr]
              exact b2
          · obtain ⟨M3, b1, b3⟩ := q_putTrueT (X := X) (f := 18) (b := j) d6 j2.2.2 ht (by omega) isF_st
            refine ⟨M3, fun z => ?_, fun q => absurd q hD, b3⟩
            rw [e63_13]
            simp only [e63_0, e63_2, e63_3, e63_4, e63_7, e63_8, e63_10, e63_11, e63_15, e63_17, e63_20, e63_22, e63_23, e63_26, e63_27, e63_28, e63_30, e63_31, e63_32, e63_34, e63_35, e63_38, e63_40, e63_41, e63_44, e63_45, e63_48, e63_49, e63_50, e63_53, e63_56, e63_57, e63_58, e63_60, e63_61, e63_64, e63_69, e63_70, e63_73, e63_74, e63_77, e63_78, e63_79, e63_81, e63_82, e63_83, e63_86, e63_89, e63_92, e63_94, e63_97, e63_98, e63_99, e63_102, e63_105, e63_106, e63_107, e63_109, e63_111, e63_112, e63_115, e63_116, s6, s6_0, s6_1, s6_2, s6_3, s6_4, s6_5, s6_6, s6_7, s6_8, r6_0, r6_1, r6_2, r6_3, r6_4, r6_5, r6_6, r6_7, s7, s8, s9, s10, s11, s12, s13, s14, s15, s16, s17, s18, s18_0, s18_1, s19, s19_0, s19_1, s20, s20_0, s20_1, s36, s36_0, s36_1, s36_2, r36_0, r36_1, r36_2, s37, s38, s39, s40, s41, s42, s43, s44, s45, s46, s47, s47_0, s47_1, c1, cj, ck, rr, lj, z0, sa, b1, a7 hk, r7 k hk, t7 k hk, g7 hk hj, a15 hj, am_bv_s, am_bw_s, eq_self, true_or, or_true, am_b0, am_b1, am_em, if_true, if_false, true_and, and_true, false_and, and_false, not_true_eq_false, not_false_eq_true, false_or, or_false, Bool.false_eq_true]
      obtain ⟨M3, b1, b2, b3⟩ := tr
      have of3 := i2.tr (b3.mo fun a k q => Or.inr q)
      have rr3 := (jx of3).1.2.2.1.2 k hk j hj
      have ad : ∃ M4, am_e X 34 0 [some (.ref f), some (.ref (18 : Nat)), some (.long (lI (s.2.2.1.2 k j))), none] [] kS M3 = some (none, kS, M4) ∧ (0 < gD s.2.1.1 s.2.2.2.1 s.2.2.2.2 t → hF f (fr (cvQ s t lr k (j + 1)).1 (gD s.2.1.1 s.2.2.2.1 s.2.2.2.2 t * (cvQ s t lr k (j + 1)).2)) M4) ∧ am_of (fun a _ => a = f) M3 M4 := by
        by_cases hD : 0 < gD s.2.1.1 s.2.2.2.1 s.2.2.2.2 t
        · have i3 := (i1 hD).of b3 (fun a k q => by omega)
          have p1 := qS_p1 (t := s.2.2.1.2 k) (c := cvC s t lr) (h := cvH s t lr) (n := j) hD (by omega) (fun b hb => ⟨cv_le, ho.2.2.1.2 k hk b (by omega)⟩) (fun _ _ => cv_pos)
          have p2 := cv_den ho (t := t) (k := k) (lr := lr) (show j ≤ 6 by omega)
          have p3 := (@fr_le (cvQ s t lr k j).1 (gD s.2.1.1 s.2.2.2.1 s.2.2.2.2 t * (cvQ s t lr k j).2)).2
          have tb := cv_bd ho (t := t) (b := j) (lr := lr)
          have ok := add_ok (t := s.2.2.1.2 k j) p1 (by unfold cvQ at p2 p3; omega) tb.1 tb.2 v99
          have pos : 0 < (fr (cvQ s t lr k j).1 (gD s.2.1.1 s.2.2.2.1 s.2.2.2.2 t * (cvQ s t lr k j).2)).2 * (fr (cvC s t lr j) (cvH s t lr j * gD s.2.1.1 s.2.2.2.1 s.2.2.2.2 t)).2 := Nat.mul_pos (fr_pos (Nat.mul_pos hD (qS_pos j fun _ _ => cv_pos))) (fr_pos (Nat.mul_pos cv_pos hD))
          obtain ⟨M4, d1, d2, d3⟩ := x_addTimes (X := X) (t := s.2.2.1.2 k j) hf isF_st i3 (b2 hD) ok.1 ok.2 pos
          refine ⟨M4, d1, fun _ => ?_, d3⟩
          have e := qS_fr (t := s.2.2.1.2 k) (c := cvC s t lr) (h := cvH s t lr) (n := j) hD (fun _ _ => cv_pos)
          unfold cvQ at d2 ⊢
          rw [← e]; exact d2
        · obtain ⟨M4, d1, d3⟩ := x_addTimesT (X := X) (M := M3) (t := lI (s.2.2.1.2 k j)) hf isF_st
          exact ⟨M4, d1, fun q => absurd q hD, d3⟩
      obtain ⟨M4, d1, d2, d3⟩ := ad
      refine ⟨M4, (b1 _).mpr ?_, d2, of3.tr (d3.mo fun a k q => Or.inl q)⟩
      rw [e63_67]
      simp only [e63_0, e63_2, e63_3, e63_4, e63_7, e63_8, e63_10, e63_11, e63_15, e63_17, e63_20, e63_22, e63_23, e63_26, e63_27, e63_28, e63_30, e63_31, e63_32, e63_34, e63_35, e63_38, e63_40, e63_41, e63_44, e63_45, e63_48, e63_49, e63_50, e63_53, e63_56, e63_57, e63_58, e63_60, e63_61, e63_64, e63_69, e63_70, e63_73, e63_74, e63_77, e63_78, e63_79, e63_81, e63_82, e63_83, e63_86, e63_89, e63_92, e63_94, e63_97, e63_98, e63_99, e63_102, e63_105, e63_106, e63_107, e63_109, e63_111, e63_112, e63_115, e63_116, s6, s6_0, s6_1, s6_2, s6_3, s6_4, s6_5, s6_6, s6_7, s6_8, r6_0, r6_1, r6_2, r6_3, r6_4, r6_5, r6_6, r6_7, s7, s8, s9, s10, s11, s12, s13, s14, s15, s16, s17, s18, s18_0, s18_1, s19, s19_0, s19_1, s20, s20_0, s20_1, hf.1, cj, ck, rr3, lw, d1, nI_1, a7 hk, r7 k hk, t7 k hk, g7 hk hj, am_bv_s, am_bw_s, eq_self, true_or, or_true, am_b0, am_b1, am_em, if_true, if_false, true_and, and_true, false_and, and_false, not_true_eq_false, not_false_eq_true, false_or, or_false, Bool.false_eq_true])
  have c6 : (nI 6 < 6) = False := eq_false (by decide)
  have ga := q_guessesAll (X := X) d6 (jx g2).2.2 ht
  have ra := rAll_le ho hk
  have er : sm (s.2.2.1.2 k) 6 = rAll s k := rfl
  have c0 : (nI (rAll s k) = 0) = (rAll s k = 0) := nI_0e (by omega)
  have lw := lI_w (n := rAll s k) (by omega)
  rw [lI_0, lI_1] at u1
  rw [er, nI_0] at e1
  by_cases h0 : rAll s k = 0
  · refine ⟨M', ?_, fun q => absurd (Or.inl h0) q, g2⟩
    rw [am_bf (fun q => q (Or.inl h0))]
    have fin : am_e X 63 13 [some (.ref (6 : Nat)), some (.ref (36 : Nat)), some (.int (nI t)), some (.int (nI k)), some (.ref f), some (.int (nI (rAll s k))), some (.int (nI 6))] [] kS M' = some (some (.int 0), kS, M') := by
      rw [e63_13]
      simp only [e63_0, e63_2, e63_3, e63_4, e63_7, e63_8, e63_10, e63_11, e63_15, e63_17, e63_20, e63_22, e63_23, e63_26, e63_27, e63_28, e63_30, e63_31, e63_32, e63_34, e63_35, e63_38, e63_40, e63_41, e63_44, e63_45, e63_48, e63_49, e63_50, e63_53, e63_56, e63_57, e63_58, e63_60, e63_61, e63_64, e63_67, e63_69, e63_70, e63_73, e63_74, e63_77, e63_78, e63_79, e63_81, e63_82, e63_83, e63_86, e63_89, e63_92, e63_94, e63_97, e63_98, e63_99, e63_102, e63_105, e63_106, e63_107, e63_109, e63_111, e63_112, e63_115, e63_116, c6, c0, h0, (eq_true rfl : (nI 0 = 0) = True), am_bv_s, am_bw_s, eq_self, true_or, or_true, am_b0, am_b1, am_em, if_true, if_false, true_and, and_true, false_and, and_false, not_true_eq_false, not_false_eq_true, false_or, or_false, Bool.false_eq_true]
    rw [← fin, ← e1]
    simp only [e63_0, e63_2, e63_3, e63_4, e63_7, e63_8, e63_10, e63_11, e63_15, e63_17, e63_20, e63_22, e63_23, e63_26, e63_27, e63_28, e63_30, e63_31, e63_32, e63_34, e63_35, e63_38, e63_40, e63_41, e63_44, e63_45, e63_48, e63_49, e63_50, e63_53, e63_56, e63_57, e63_58, e63_60, e63_61, e63_64, e63_67, e63_69, e63_70, e63_73, e63_74, e63_77, e63_78, e63_79, e63_81, e63_82, e63_83, e63_86, e63_89, e63_92, e63_94, e63_97, e63_98, e63_99, e63_102, e63_105, e63_106, e63_107, e63_109, e63_111, e63_112, e63_115, e63_116, hf.1, u1, am_bv_s, am_bw_s, eq_self, true_or, or_true, am_b0, am_b1, am_em, if_true, if_false, true_and, and_true, false_and, and_false, not_true_eq_false, not_false_eq_true, false_or, or_false, Bool.false_eq_true]
    rfl
  · by_cases h1 : gD s.2.1.1 s.2.2.2.1 s.2.2.2.2 t = 0
    · refine ⟨M', ?_, fun q => absurd (Or.inr h1) q, g2⟩
      rw [am_bf (fun q => q (Or.inr h1))]
      rw [am_bt h1] at ga
      have fin : am_e X 63 13 [some (.ref (6 : Nat)), some (.ref (36 : Nat)), some (.int (nI t)), some (.int (nI k)), some (.ref f), some (.int (nI (rAll s k))), some (.int (nI 6))] [] kS M' = some (some (.int 0), kS, M') := by
        rw [e63_13]
        simp only [e63_0, e63_2, e63_3, e63_4, e63_7, e63_8, e63_10, e63_11, e63_15, e63_17, e63_20, e63_22, e63_23, e63_26, e63_27, e63_28, e63_30, e63_31, e63_32, e63_34, e63_35, e63_38, e63_40, e63_41, e63_44, e63_45, e63_48, e63_49, e63_50, e63_53, e63_56, e63_57, e63_58, e63_60, e63_61, e63_64, e63_67, e63_69, e63_70, e63_73, e63_74, e63_77, e63_78, e63_79, e63_81, e63_82, e63_83, e63_86, e63_89, e63_92, e63_94, e63_97, e63_98, e63_99, e63_102, e63_105, e63_106, e63_107, e63_109, e63_111, e63_112, e63_115, e63_116, s36, s36_0, s36_1, s36_2, r36_0, r36_1, r36_2, s37, s38, s39, s40, s41, s42, s43, s44, s45, s46, s47, s47_0, s47_1, z10, z01, z1m, zm1, z0m, zm0, c6, c0, h0, ga, am_bv_s, am_bw_s, eq_self, true_or, or_true, am_b0, am_b1, am_em, if_true, if_false, true_and, and_true, false_and, and_false, not_true_eq_false, not_false_eq_true, false_or, or_false, Bool.false_eq_true]
      rw [← fin, ← e1]
      simp only [e63_0, e63_2, e63_3, e63_4, e63_7, e63_8, e63_10, e63_11, e63_15, e63_17, e63_20, e63_22, e63_23, e63_26, e63_27, e63_28, e63_30, e63_31, e63_32, e63_34, e63_35, e63_38, e63_40, e63_41, e63_44, e63_45, e63_48, e63_49, e63_50, e63_53, e63_56, e63_57, e63_58, e63_60, e63_61, e63_64, e63_67, e63_69, e63_70, e63_73, e63_74, e63_77, e63_78, e63_79, e63_81, e63_82, e63_83, e63_86, e63_89, e63_92, e63_94, e63_97, e63_98, e63_99, e63_102, e63_105, e63_106, e63_107, e63_109, e63_111, e63_112, e63_115, e63_116, hf.1, u1, am_bv_s, am_bw_s, eq_self, true_or, or_true, am_b0, am_b1, am_em, if_true, if_false, true_and, and_true, false_and, and_false, not_true_eq_false, not_false_eq_true, false_or, or_false, Bool.false_eq_true]
      rfl
    · have hD : 0 < gD s.2.1.1 s.2.2.2.1 s.2.2.2.2 t := by omega
      rw [am_bf h1] at ga
      have hF1 : hF f (cvF s t lr k) M' := g1 hD
      obtain ⟨q1, q2⟩ := cvF_bd ho (lr := lr) hk hD
      have q3 : (cvF s t lr k).2 * rAll s k ≤ 2300000 * 594 := Nat.mul_le_mul (by omega) ra
      obtain ⟨M5, d1, d2, d3⟩ := x_divideBy (X := X) (n := rAll s k) hf hF1 (by omega) (by omega) (Nat.mul_pos (cvF_pos hD) (by omega))
      refine ⟨M5, ?_, fun _ => d2, g2.tr (d3.mo fun a k q => Or.inl q)⟩
      rw [am_bt (show ¬ (rAll s k = 0 ∨ gD s.2.1.1 s.2.2.2.1 s.2.2.2.2 t = 0) by omega)]
      have fin : am_e X 63 13 [some (.ref (6 : Nat)), some (.ref (36 : Nat)), some (.int (nI t)), some (.int (nI k)), some (.ref f), some (.int (nI (rAll s k))), some (.int (nI 6))] [] kS M' = some (some (.int 1), kS, M5) := by
        rw [e63_13]
        simp only [e63_0, e63_2, e63_3, e63_4, e63_7, e63_8, e63_10, e63_11, e63_15, e63_17, e63_20, e63_22, e63_23, e63_26, e63_27, e63_28, e63_30, e63_31, e63_32, e63_34, e63_35, e63_38, e63_40, e63_41, e63_44, e63_45, e63_48, e63_49, e63_50, e63_53, e63_56, e63_57, e63_58, e63_60, e63_61, e63_64, e63_67, e63_69, e63_70, e63_73, e63_74, e63_77, e63_78, e63_79, e63_81, e63_82, e63_83, e63_86, e63_89, e63_92, e63_94, e63_97, e63_98, e63_99, e63_102, e63_105, e63_106, e63_107, e63_109, e63_111, e63_112, e63_115, e63_116, s36, s36_0, s36_1, s36_2, r36_0, r36_1, r36_2, s37, s38, s39, s40, s41, s42, s43, s44, s45, s46, s47, s47_0, s47_1, z10, z01, z1m, zm1, z0m, zm0, hf.1, c6, c0, h0, ga, lw, d1, am_bv_s, am_bw_s, eq_self, true_or, or_true, am_b0, am_b1, am_em, if_true, if_false, true_and, and_true, false_and, and_false, not_true_eq_false, not_false_eq_true, false_or, or_false, Bool.false_eq_true]
      rw [← fin, ← e1]
      simp only [e63_0, e63_2, e63_3, e63_4, e63_7, e63_8, e63_10, e63_11, e63_15, e63_17, e63_20, e63_22, e63_23, e63_26, e63_27, e63_28, e63_30, e63_31, e63_32, e63_34, e63_35, e63_38, e63_40, e63_41, e63_44, e63_45, e63_48, e63_49, e63_50, e63_53, e63_56, e63_57, e63_58, e63_60, e63_61, e63_64, e63_67, e63_69, e63_70, e63_73, e63_74, e63_77, e63_78, e63_79, e63_81, e63_82, e63_83, e63_86, e63_89, e63_92, e63_94, e63_97, e63_98, e63_99, e63_102, e63_105, e63_106, e63_107, e63_109, e63_111, e63_112, e63_115, e63_116, hf.1, u1, am_bv_s, am_bw_s, eq_self, true_or, or_true, am_b0, am_b1, am_em, if_true, if_false, true_and, and_true, false_and, and_false, not_true_eq_false, not_false_eq_true, false_or, or_false, Bool.false_eq_true]
      rfl
end
