/-! the class: knows -/
theorem qS_p1 {t c h : Nat → Nat} {D n : Nat} (hD : 0 < D) (hn : n ≤ 6) (hh : ∀ k, k < n → c k ≤ h k * D ∧ t k ≤ 99) (hp : ∀ k, k < n → 0 < h k) : (fr (qS t c h n).1 (D * (qS t c h n).2)).1 ≤ 594 * (fr (qS t c h n).1 (D * (qS t c h n).2)).2 := by
  have p1 : 0 < (qS t c h n).2 := qS_pos n hp
  have hl := qS_le (D := D) n hh
  have x1 := @fr_x (qS t c h n).1 (D * (qS t c h n).2)
  generalize (qS t c h n).1 = N at *
  generalize (qS t c h n).2 = H at *
  generalize fr N (D * H) = p at *
  have hdh : 0 < D * H := Nat.mul_pos hD p1
  apply Nat.le_of_mul_le_mul_right _ hdh
  rw [x1]
  have h6 : 99 * n ≤ 594 := by omega
  calc N * p.2 ≤ 99 * n * (D * H) * p.2 := Nat.mul_le_mul_right _ hl
    _ ≤ 594 * (D * H) * p.2 := Nat.mul_le_mul_right _ (Nat.mul_le_mul_right _ h6)
    _ = 594 * p.2 * (D * H) := by ac_rfl
def sKn (s : sgm) (t n : Nat) : Nat × Nat := qS s.2.1.2 (tC s.2.1.1 s.2.2.2.1 s.2.2.2.2 t) (tH s.2.1.1 s.2.2.2.1 s.2.2.2.2 t) n
def sp_knows (s : sgm) (t w v : Int32) : Int64 := if (0 ≤ t ∧ t ≤ 3) ∧ (0 ≤ w ∧ w ≤ 1) ∧ (0 ≤ v ∧ v ≤ 1) then (if w = 0 then fp (fr (sYe s.2.1.1 s.2.2.2.1 s.2.2.2.2 t.toNatClampNeg 6) (gG s.2.1.1 s.2.2.2.1 s.2.2.2.2 t.toNatClampNeg)) v else if hasA s.2.1.1 s.2.2.2.1 s.2.2.2.2 t.toNatClampNeg 6 = true ∧ ¬ gD s.2.1.1 s.2.2.2.1 s.2.2.2.2 t.toNatClampNeg = 0 then fp (fr (sKn s t.toNatClampNeg s.2.1.1).1 (gD s.2.1.1 s.2.2.2.1 s.2.2.2.2 t.toNatClampNeg * (sKn s t.toNatClampNeg s.2.1.1).2)) v else nol (-3)) else nol (-2)
section
variable {X : am_X} {S : am_Sh} {M M' : am_Me} {P : Nat → Nat → Prop} {s : sgm}
theorem add_ok {t : Nat} {p q : Nat × Nat} (h1 : p.1 ≤ 594 * p.2) (h2 : p.2 < 2300000) (h3 : q.1 ≤ 1600) (h4 : q.2 ≤ 1600) (ht : t ≤ 99) : p.1 * q.2 + q.1 * t * p.2 < 2 ^ 63 ∧ p.2 * q.2 < 2 ^ 48 := by
  have a1 : p.1 * q.2 ≤ (594 * 2300000) * 1600 := Nat.mul_le_mul (by omega) h4
  have a2 : q.1 * t * p.2 ≤ 1600 * 99 * 2300000 := Nat.mul_le_mul (Nat.mul_le_mul h3 ht) (by omega)
  have a3 : p.2 * q.2 ≤ 2300000 * 1600 := Nat.mul_le_mul (by omega) h4
  omega
theorem tr_bd {nb : Nat} (hb : nb ≤ 6) {l : sgL} {A : sgA} {t b : Nat} : (fr (tC nb l A t b) (tH nb l A t b * gD nb l A t)).1 ≤ 1600 ∧ (fr (tC nb l A t b) (tH nb l A t b * gD nb l A t)).2 ≤ 1600 := by
  have h40 := fun k => sAs_le hb (l := l) (A := A) (t := t) (k := k)
  have d40 : gD nb l A t ≤ 40 := by have := h40 6; unfold gD gG; omega
  have t40 : tH nb l A t b ≤ 40 := by have := h40 b; unfold tH; omega
  have c := tC_le (nb := nb) (l := l) (A := A) (t := t) (b := b)
  have q : tH nb l A t b * gD nb l A t ≤ 40 * 40 := Nat.mul_le_mul t40 d40
  have f := @fr_le (tC nb l A t b) (tH nb l A t b * gD nb l A t)
  omega
theorem q_putKnown {f t : Nat} (hx : JX s M) (ho : okm s) (ht : t < 4) (hf : isF f) (hf2 : f ≠ 47) (hf3 : pS f 0) (hD : 0 < gD s.2.1.1 s.2.2.2.1 s.2.2.2.2 t) : ∃ M', am_e X 75 0 [some (.ref (36 : Nat)), some (.int (nI t)), some (.ref (1 : Nat)), some (.ref f), none] [] kS M = some (none, kS, M') ∧ hF f (fr (sKn s t s.2.1.1).1 (gD s.2.1.1 s.2.2.2.1 s.2.2.2.2 t * (sKn s t s.2.1.1).2)) M' ∧ am_of (fun a _ => a = f ∨ a = 47) M M' := by
  have d6 := ho.2.1.1
  have hpos : ∀ k, 0 < tH s.2.1.1 s.2.2.2.1 s.2.2.2.2 t k := fun k => tH_pos
  have hcl : ∀ n, n ≤ s.2.1.1 → ∀ k, k < n → tC s.2.1.1 s.2.2.2.1 s.2.2.2.2 t k ≤ tH s.2.1.1 s.2.2.2.1 s.2.2.2.2 t k * gD s.2.1.1 s.2.2.2.1 s.2.2.2.2 t ∧ s.2.1.2 k ≤ 99 := fun n hn k hk => ⟨tC_le, (ho.2.1.2 k (by omega)).2⟩
  obtain ⟨M1, u1, u2, u3⟩ := x_put (X := X) (M := M) (a := 0) (b := 1) hf (by decide) (by decide) (by decide)
  have jx : ∀ {M' : am_Me}, am_of (fun a _ => a = f ∨ a = 47) M M' → JX s M' := fun h => hx.of h (fun a k q => by
    unfold pS at hf3 ⊢
    omega)
  obtain ⟨M', e1, g1, g2⟩ := am_lp (X := X) (S := kS) (mi := 75) (pc := 9) s.2.1.1 (fun i => [some (.ref (36 : Nat)), some (.int (nI t)), some (.ref (1 : Nat)), some (.ref f), some (.int (nI i))])
    (fun i M' => hF f (fr (sKn s t i).1 (gD s.2.1.1 s.2.2.2.1 s.2.2.2.2 t * (sKn s t i).2)) M' ∧ am_of (fun a _ => a = f ∨ a = 47) M M') (M := M1) ⟨by
      have e : fr (sKn s t 0).1 (gD s.2.1.1 s.2.2.2.1 s.2.2.2.2 t * (sKn s t 0).2) = fr 0 1 := by
        show fr 0 (gD s.2.1.1 s.2.2.2.1 s.2.2.2.2 t * 1) = _
        rw [Nat.mul_one, fr_0 hD, fr_0 (by decide)]
      rw [e]; exact u2, u3.mo fun a k q => Or.inl q⟩ (by
      intro j M2 hj hI
      obtain ⟨i1, i2⟩ := hI
      have j2 := jx i2
      have c1 : (nI j < nI s.2.1.1) = True := eq_true (nI_lt hj (by omega))
      have cj : (nI j).toNatClampNeg = j := nI_clamp (by omega)
      have dd := j2.1.2.1
      have sj := (ho.2.1.2 j hj).2
      have lw := lI_w (n := s.2.1.2 j) (by omega)
      obtain ⟨M3, b1, b2, b3⟩ := q_putTrue (X := X) (f := 47) (b := j) d6 j2.2.2 ht (by omega) isF_t hD
      have i3 := i1.of b3 (fun a k q => by omega)
      have p1 := qS_p1 (n := j) hD (by omega) (hcl j (by omega)) (fun k _ => hpos k)
      have p2 : gD s.2.1.1 s.2.2.2.1 s.2.2.2.2 t * (sKn s t j).2 < 2300000 := den_lt d6 (by omega) (fun k _ => Nat.le_refl _)
      have p3 := (@fr_le (sKn s t j).1 (gD s.2.1.1 s.2.2.2.1 s.2.2.2.2 t * (sKn s t j).2)).2
      have tb := tr_bd d6 (l := s.2.2.2.1) (A := s.2.2.2.2) (t := t) (b := j)
      have ok := add_ok (t := s.2.1.2 j) p1 (by unfold sKn at p2 p3; omega) tb.1 tb.2 sj
      have pos : 0 < (fr (sKn s t j).1 (gD s.2.1.1 s.2.2.2.1 s.2.2.2.2 t * (sKn s t j).2)).2 * (fr (tC s.2.1.1 s.2.2.2.1 s.2.2.2.2 t j) (tH s.2.1.1 s.2.2.2.1 s.2.2.2.2 t j * gD s.2.1.1 s.2.2.2.1 s.2.2.2.2 t)).2 := Nat.mul_pos (fr_pos (Nat.mul_pos hD (qS_pos j fun k _ => hpos k))) (fr_pos (Nat.mul_pos (hpos j) hD))
      obtain ⟨M4, d1, d2, d3⟩ := x_addTimes (X := X) (t := s.2.1.2 j) hf isF_t i3 b2 ok.1 ok.2 pos
      refine ⟨M4, ?_, ?_, (i2.tr (b3.mo fun a k q => Or.inr q)).tr (d3.mo fun a k q => Or.inl q)⟩
      · have dd3 : xD s.2.1 M3 := dd.of b3 (fun a k q => by omega)
        rw [e75_9]
        simp only [e75_0, e75_1, e75_2, e75_3, e75_6, e75_7, e75_11, e75_12, e75_15, e75_18, e75_19, e75_20, e75_22, e75_23, e75_26, e75_29, e75_30, e75_31, e75_34, e75_35, e75_37, e75_40, e75_41, e75_44, e75_47, e75_50, e22_0, e22_1, e22_4, e23_0, e23_1, e23_4, e23_5, e23_6, s1, s1_0, s1_1, s1_2, s1_3, s1_4, r1_0, r1_1, r1_2, r1_3, s2, s3, s4, s5, s36, s36_0, s36_1, s36_2, r36_0, r36_1, r36_2, s37, s38, s39, s40, s41, s42, s43, s44, s45, s46, s47, s47_0, s47_1, hf.1, dd.1, c1, cj, b1, dd3.2 j hj, lw, d1, nI_1, a2 (show j < 6 by omega), am_bv_s, am_bw_s, eq_self, true_or, or_true, am_b0, am_b1, am_em, if_true, if_false, true_and, and_true, false_and, and_false, not_true_eq_false, not_false_eq_true, false_or, or_false, Bool.false_eq_true]
      · have e := qS_fr (t := s.2.1.2) (c := tC s.2.1.1 s.2.2.2.1 s.2.2.2.2 t) (h := tH s.2.1.1 s.2.2.2.1 s.2.2.2.2 t) (n := j) hD (fun k _ => hpos k)
        unfold sKn at d2 ⊢
        rw [← e]; exact d2)
  refine ⟨M', ?_, g1, g2⟩
  have j2 := jx g2
  have dd := j2.1.2.1.1
  have c1 : (nI s.2.1.1 < nI s.2.1.1) = False := eq_false (nI_nlt (Nat.le_refl _) (by omega))
  have e2 : am_e X 75 9 [some (.ref (36 : Nat)), some (.int (nI t)), some (.ref (1 : Nat)), some (.ref f), some (.int (nI s.2.1.1))] [] kS M' = some (none, kS, M') := by
    rw [e75_9]
    simp only [e75_0, e75_1, e75_2, e75_3, e75_6, e75_7, e75_11, e75_12, e75_15, e75_18, e75_19, e75_20, e75_22, e75_23, e75_26, e75_29, e75_30, e75_31, e75_34, e75_35, e75_37, e75_40, e75_41, e75_44, e75_47, e75_50, e22_0, e22_1, e22_4, s1, s1_0, s1_1, s1_2, s1_3, s1_4, r1_0, r1_1, r1_2, r1_3, s2, s3, s4, s5, s36, s36_0, s36_1, s36_2, r36_0, r36_1, r36_2, s37, s38, s39, s40, s41, s42, s43, s44, s45, s46, s47, s47_0, s47_1, dd, c1, am_bv_s, am_bw_s, eq_self, true_or, or_true, am_b0, am_b1, am_em, if_true, if_false, true_and, and_true, false_and, and_false, not_true_eq_false, not_false_eq_true, false_or, or_false, Bool.false_eq_true]
  rw [e2] at e1
  rw [← e1]
  rw [lI_0, lI_1] at u1
  simp only [e75_0, e75_1, e75_2, e75_3, e75_6, e75_7, e75_11, e75_12, e75_15, e75_18, e75_19, e75_20, e75_22, e75_23, e75_26, e75_29, e75_30, e75_31, e75_34, e75_35, e75_37, e75_40, e75_41, e75_44, e75_47, e75_50, hf.1, u1, nI_0, am_bv_s, am_bw_s, eq_self, true_or, or_true, am_b0, am_b1, am_em, if_true, if_false, true_and, and_true, false_and, and_false, not_true_eq_false, not_false_eq_true, false_or, or_false, Bool.false_eq_true]
theorem x_knows (hx : JX s M) (ho : okm s) (t w v : Int32) : ∃ M', am_e X 102 0 [some (.ref (0 : Nat)), some (.int t), some (.int w), some (.int v)] [] kS M = some (some (.long (sp_knows s t w v)), kS, M') ∧ JX s M' ∧ am_of pX M M' := by
  have i1 := q_isTaker (X := X) (S := kS) (M := M) t
  have i3 := q_isIn (X := X) (S := kS) (M := M) w 0 1
  have i4 := q_isIn (X := X) (S := kS) (M := M) v 0 1
  have d6 := ho.2.1.1
  unfold sp_knows
  by_cases h1 : 0 ≤ t ∧ t ≤ 3
  · rw [am_bt h1] at i1
    by_cases h3 : 0 ≤ w ∧ w ≤ 1
    · rw [am_bt h3] at i3
      by_cases h4 : 0 ≤ v ∧ v ≤ 1
      · rw [am_bt h4] at i4
        rw [if_pos ⟨h1, h3, h4⟩]
        obtain ⟨tn, htn, rfl⟩ := in_n (n := 3) h1 (by decide)
        rw [nI_clamp (n := tn) (by omega)]
        have ht : tn < 4 := by omega
        have xT := hx.2.2
        by_cases h6 : w = 0
        · rw [if_pos h6]
          obtain ⟨M', r1, r2, r3⟩ := q_putGuess (X := X) (f := 58) d6 xT ht isF_r
          refine ⟨M', ?_, hx.of r3 (fun a k q => by unfold pS; omega), r3.mo fun a k q => by unfold pX; omega⟩
          have pq := q_part (X := X) (w := v) isF_r r2
          subst h6
          simp only [e102_0, e102_1, e102_4, e102_7, e102_8, e102_9, e102_10, e102_13, e102_16, e102_17, e102_18, e102_19, e102_22, e102_25, e102_27, e102_30, e102_31, e102_32, e102_35, e102_36, e102_39, e102_40, e102_41, e102_44, e102_47, e102_48, e102_51, e102_52, e102_55, e102_56, e102_57, e102_60, e102_61, e102_64, e102_67, e102_68, e102_71, e102_72, e102_75, e102_78, e102_80, e102_83, e102_84, e102_85, e102_88, e102_89, e102_90, e102_93, e102_94, e102_97, e102_100, e102_101, e102_104, e102_105, e102_108, s0, s0_0, s0_1, s0_2, s0_3, s0_4, s0_5, s0_6, s0_7, r0_0, r0_1, r0_2, r0_3, r0_4, r0_5, r0_6, r0_7, s36, s36_0, s36_1, s36_2, r36_0, r36_1, r36_2, s37, s38, s39, s40, s41, s42, s43, s44, s45, s46, s47, s47_0, s47_1, s58, s58_0, s58_1, i1, i3, i4, z10, z01, z1m, zm1, z0m, zm0, r1, pq, am_bv_s, am_bw_s, eq_self, true_or, or_true, am_b0, am_b1, am_em, if_true, if_false, true_and, and_true, false_and, and_false, not_true_eq_false, not_false_eq_true, false_or, or_false, Bool.false_eq_true]
        · rw [if_neg h6]
          have ga := q_guessesAll (X := X) d6 xT ht
          have ha := q_hasAsked (X := X) d6 xT ht
          by_cases h5 : hasA s.2.1.1 s.2.2.2.1 s.2.2.2.2 tn 6 = true
          · rw [am_bt h5] at ha
            by_cases h7 : gD s.2.1.1 s.2.2.2.1 s.2.2.2.2 tn = 0
            · rw [am_bt h7] at ga
              rw [if_neg (fun q => q.2 h7)]
              refine ⟨M, ?_, hx, am_of.rf⟩
              simp only [e102_0, e102_1, e102_4, e102_7, e102_8, e102_9, e102_10, e102_13, e102_16, e102_17, e102_18, e102_19, e102_22, e102_25, e102_27, e102_30, e102_31, e102_32, e102_35, e102_36, e102_39, e102_40, e102_41, e102_44, e102_47, e102_48, e102_51, e102_52, e102_55, e102_56, e102_57, e102_60, e102_61, e102_64, e102_67, e102_68, e102_71, e102_72, e102_75, e102_78, e102_80, e102_83, e102_84, e102_85, e102_88, e102_89, e102_90, e102_93, e102_94, e102_97, e102_100, e102_101, e102_104, e102_105, e102_108, s0, s0_0, s0_1, s0_2, s0_3, s0_4, s0_5, s0_6, s0_7, r0_0, r0_1, r0_2, r0_3, r0_4, r0_5, r0_6, r0_7, s36, s36_0, s36_1, s36_2, r36_0, r36_1, r36_2, s37, s38, s39, s40, s41, s42, s43, s44, s45, s46, s47, s47_0, s47_1, s58, s58_0, s58_1, i1, i3, i4, z10, z01, z1m, zm1, z0m, zm0, h6, ha, ga, q_refusal2, am_bv_s, am_bw_s, eq_self, true_or, or_true, am_b0, am_b1, am_em, if_true, if_false, true_and, and_true, false_and, and_false, not_true_eq_false, not_false_eq_true, false_or, or_false, Bool.false_eq_true]
            · rw [am_bf h7] at ga
              rw [if_pos ⟨h5, h7⟩]
              obtain ⟨M', r1, r2, r3⟩ := q_putKnown (X := X) (f := 58) hx ho ht isF_r (by decide) (by unfold pS; omega) (by omega)
              refine ⟨M', ?_, hx.of r3 (fun a k q => by unfold pS; omega), r3.mo fun a k q => by unfold pX; omega⟩
              have pq := q_part (X := X) (w := v) isF_r r2
              simp only [e102_0, e102_1, e102_4, e102_7, e102_8, e102_9, e102_10, e102_13, e102_16, e102_17, e102_18, e102_19, e102_22, e102_25, e102_27, e102_30, e102_31, e102_32, e102_35, e102_36, e102_39, e102_40, e102_41, e102_44, e102_47, e102_48, e102_51, e102_52, e102_55, e102_56, e102_57, e102_60, e102_61, e102_64, e102_67, e102_68, e102_71, e102_72, e102_75, e102_78, e102_80, e102_83, e102_84, e102_85, e102_88, e102_89, e102_90, e102_93, e102_94, e102_97, e102_100, e102_101, e102_104, e102_105, e102_108, s0, s0_0, s0_1, s0_2, s0_3, s0_4, s0_5, s0_6, s0_7, r0_0, r0_1, r0_2, r0_3, r0_4, r0_5, r0_6, r0_7, s1, s1_0, s1_1, s1_2, s1_3, s1_4, r1_0, r1_1, r1_2, r1_3, s2, s3, s4, s5, s36, s36_0, s36_1, s36_2, r36_0, r36_1, r36_2, s37, s38, s39, s40, s41, s42, s43, s44, s45, s46, s47, s47_0, s47_1, s58, s58_0, s58_1, i1, i3, i4, z10, z01, z1m, zm1, z0m, zm0, h6, ha, ga, r1, pq, am_bv_s, am_bw_s, eq_self, true_or, or_true, am_b0, am_b1, am_em, if_true, if_false, true_and, and_true, false_and, and_false, not_true_eq_false, not_false_eq_true, false_or, or_false, Bool.false_eq_true]
          · rw [am_bf h5] at ha
            rw [if_neg (fun q => h5 q.1)]
            refine ⟨M, ?_, hx, am_of.rf⟩
            simp only [e102_0, e102_1, e102_4, e102_7, e102_8, e102_9, e102_10, e102_13, e102_16, e102_17, e102_18, e102_19, e102_22, e102_25, e102_27, e102_30, e102_31, e102_32, e102_35, e102_36, e102_39, e102_40, e102_41, e102_44, e102_47, e102_48, e102_51, e102_52, e102_55, e102_56, e102_57, e102_60, e102_61, e102_64, e102_67, e102_68, e102_71, e102_72, e102_75, e102_78, e102_80, e102_83, e102_84, e102_85, e102_88, e102_89, e102_90, e102_93, e102_94, e102_97, e102_100, e102_101, e102_104, e102_105, e102_108, s0, s0_0, s0_1, s0_2, s0_3, s0_4, s0_5, s0_6, s0_7, r0_0, r0_1, r0_2, r0_3, r0_4, r0_5, r0_6, r0_7, s36, s36_0, s36_1, s36_2, r36_0, r36_1, r36_2, s37, s38, s39, s40, s41, s42, s43, s44, s45, s46, s47, s47_0, s47_1, s58, s58_0, s58_1, i1, i3, i4, z10, z01, z1m, zm1, z0m, zm0, h6, ha, q_refusal2, am_bv_s, am_bw_s, eq_self, true_or, or_true, am_b0, am_b1, am_em, if_true, if_false, true_and, and_true, false_and, and_false, not_true_eq_false, not_false_eq_true, false_or, or_false, Bool.false_eq_true]
      · rw [am_bf h4] at i4
        rw [if_neg (fun q => h4 q.2.2)]
        refine ⟨M, ?_, hx, am_of.rf⟩
        simp only [e102_0, e102_1, e102_4, e102_7, e102_8, e102_9, e102_10, e102_13, e102_16, e102_17, e102_18, e102_19, e102_22, e102_25, e102_27, e102_30, e102_31, e102_32, e102_35, e102_36, e102_39, e102_40, e102_41, e102_44, e102_47, e102_48, e102_51, e102_52, e102_55, e102_56, e102_57, e102_60, e102_61, e102_64, e102_67, e102_68, e102_71, e102_72, e102_75, e102_78, e102_80, e102_83, e102_84, e102_85, e102_88, e102_89, e102_90, e102_93, e102_94, e102_97, e102_100, e102_101, e102_104, e102_105, e102_108, i1, i3, i4, z10, z01, z1m, zm1, z0m, zm0, q_refusal2, am_bv_s, am_bw_s, eq_self, true_or, or_true, am_b0, am_b1, am_em, if_true, if_false, true_and, and_true, false_and, and_false, not_true_eq_false, not_false_eq_true, false_or, or_false, Bool.false_eq_true]
    · rw [am_bf h3] at i3
      rw [if_neg (fun q => h3 q.2.1)]
      refine ⟨M, ?_, hx, am_of.rf⟩
      simp only [e102_0, e102_1, e102_4, e102_7, e102_8, e102_9, e102_10, e102_13, e102_16, e102_17, e102_18, e102_19, e102_22, e102_25, e102_27, e102_30, e102_31, e102_32, e102_35, e102_36, e102_39, e102_40, e102_41, e102_44, e102_47, e102_48, e102_51, e102_52, e102_55, e102_56, e102_57, e102_60, e102_61, e102_64, e102_67, e102_68, e102_71, e102_72, e102_75, e102_78, e102_80, e102_83, e102_84, e102_85, e102_88, e102_89, e102_90, e102_93, e102_94, e102_97, e102_100, e102_101, e102_104, e102_105, e102_108, i1, i3, z10, z01, z1m, zm1, z0m, zm0, q_refusal2, am_bv_s, am_bw_s, eq_self, true_or, or_true, am_b0, am_b1, am_em, if_true, if_false, true_and, and_true, false_and, and_false, not_true_eq_false, not_false_eq_true, false_or, or_false, Bool.false_eq_true]
  · rw [am_bf h1] at i1
    rw [if_neg (fun q => h1 q.1)]
    refine ⟨M, ?_, hx, am_of.rf⟩
    simp only [e102_0, e102_1, e102_4, e102_7, e102_8, e102_9, e102_10, e102_13, e102_16, e102_17, e102_18, e102_19, e102_22, e102_25, e102_27, e102_30, e102_31, e102_32, e102_35, e102_36, e102_39, e102_40, e102_41, e102_44, e102_47, e102_48, e102_51, e102_52, e102_55, e102_56, e102_57, e102_60, e102_61, e102_64, e102_67, e102_68, e102_71, e102_72, e102_75, e102_78, e102_80, e102_83, e102_84, e102_85, e102_88, e102_89, e102_90, e102_93, e102_94, e102_97, e102_100, e102_101, e102_104, e102_105, e102_108, i1, q_refusal2, am_bv_s, am_bw_s, eq_self, true_or, or_true, am_b0, am_b1, am_em, if_true, if_false, true_and, and_true, false_and, and_false, not_true_eq_false, not_false_eq_true, false_or, or_false, Bool.false_eq_true]
end
