/-! the class: the ladder -/
/-- how many were climbed, which, what is read, how many words of a band were met -/
abbrev sgC : Type := Nat × (Nat → Nat) × (Nat → Bool) × (Nat → Nat)
def lrn (s : sgm) (m : Nat) (me : Nat → Nat) : Nat → Bool := fun b => decide (b < s.2.1.1 ∧ m * s.2.1.2 b ≤ me b)
def clU (s : sgm) (q : sgC) : Option Nat → sgC
  | none => q
  | some k => (q.1 + 1, (fun i => if i = q.1 then k else q.2.1 i), (fun j => if j = k then true else q.2.2.1 j), fun b => q.2.2.2 b + s.2.2.1.2 k b)
def clB (s : sgm) (t p m : Nat) (q : sgC) : Option Nat := bst s t (lrn s m q.2.2.2) q.2.2.1 p s.2.2.1.1
def clm (s : sgm) (t p m : Nat) : Nat → sgC
  | 0 => (0, fun _ => 0, nLr, nMe)
  | n + 1 => clU s (clm s t p m n) (clB s t p m (clm s t p m n))
theorem lrn_c {s : sgm} {m : Nat} {me me' : Nat → Nat} (h : ∀ b, b < s.2.1.1 → me b = me' b) : lrn s m me = lrn s m me' := by
  funext b
  unfold lrn
  by_cases hb : b < s.2.1.1
  · rw [h b hb]
  · rw [decide_eq_false (fun q => hb q.1), decide_eq_false (fun q => hb q.1)]
theorem lrn_0 {s : sgm} {m : Nat} (ho : okm s) (hm : 1 ≤ m) : lrn s m nMe = nLr := by
  funext b
  unfold lrn
  apply decide_eq_false
  intro q
  have h1 := (ho.2.1.2 b q.1).1
  have h2 := Nat.mul_le_mul hm h1
  have h3 : m * s.2.1.2 b ≤ 0 := q.2
  omega
theorem lrn_e {s : sgm} {m b : Nat} {me me' : Nat → Nat} (h : me b = me' b) : lrn s m me b = lrn s m me' b := by
  unfold lrn
  rw [h]
theorem clm_st {s : sgm} {t p m n : Nat} (h : clB s t p m (clm s t p m n) = none) : ∀ k, clm s t p m (n + k) = clm s t p m n
  | 0 => rfl
  | k + 1 => by
    rw [← Nat.add_assoc, clm, clm_st h k, h, clU]
theorem clm_n {s : sgm} {t p m : Nat} : ∀ n, (clm s t p m n).1 ≤ n ∧ ((clm s t p m n).1 = n ∨ clB s t p m (clm s t p m n) = none)
  | 0 => ⟨Nat.le_refl _, Or.inl rfl⟩
  | n + 1 => by
    obtain ⟨h1, h2⟩ := clm_n (s := s) (t := t) (p := p) (m := m) n
    cases hb : clB s t p m (clm s t p m n) with
    | none =>
      have e : clm s t p m (n + 1) = clm s t p m n := clm_st hb 1
      rw [e]
      exact ⟨by omega, Or.inr hb⟩
    | some k =>
      rw [hb] at h2
      rw [clm, hb, clU]
      refine ⟨by dsimp only; omega, Or.inl ?_⟩
      rcases h2 with h2 | h2
      · dsimp only; omega
      · cases h2
theorem clm_me {s : sgm} {t p m : Nat} (ho : okm s) : ∀ n b, b < 6 → (clm s t p m n).2.2.2 b ≤ 99 * n
  | 0, _, _ => Nat.le_refl _
  | n + 1, b, hb => by
    have h1 := clm_me (t := t) (p := p) (m := m) ho n b hb
    rw [clm]
    cases hq : clB s t p m (clm s t p m n) with
    | none => rw [clU]; omega
    | some k =>
      have := bst_ok _ hq
      have h6 := ho.2.2.1.1
      have h2 := ho.2.2.1.2 k (by omega) b hb
      rw [clU]
      dsimp only
      omega
section
variable {X : am_X} {S : am_Sh} {M M' : am_Me} {P : Nat → Nat → Prop} {s : sgm}
theorem x_meetWords {k m : Nat} {rb : Nat → Bool} {me : Nat → Nat} (hx : JX s M) (ho : okm s) (hl : xLr (lrn s m me) M) (hr : xRb rb M) (hm : xMe s.2.1.1 me M) (hk : k < 6) (hm9 : m ≤ 9) (hme : ∀ b, b < 6 → me b ≤ 600) : ∃ M', am_e X 61 0 [some (.ref (6 : Nat)), some (.int (nI k)), some (.ref (1 : Nat)), some (.int (nI m)), none] [] kS M = some (none, kS, M') ∧ xLr (lrn s m (fun b => me b + s.2.2.1.2 k b)) M' ∧ xRb (fun j => if j = k then true else rb j) M' ∧ xMe s.2.1.1 (fun b => me b + s.2.2.1.2 k b) M' ∧ am_of (fun a _ => a = 14 ∨ a = 15 ∨ a = 16) M M' := by
  have d6 := ho.2.1.1
  have ck : (nI k).toNatClampNeg = k := nI_clamp (by omega)
  generalize hM1 : am_setI M 14 k 1 = M1
  have of1 : am_of (fun a _ => a = 14) M M1 := by rw [← hM1]; exact am_of.rf.sI rfl
  have r1 : xRb (fun j => if j = k then true else rb j) M1 := fun j hj => by
    rw [← hM1, gI]
    by_cases e : j = k
    · dsimp only
      rw [if_pos ⟨rfl, e⟩, if_pos (by rw [if_pos e])]
    · have e2 : (fun j => if j = k then true else rb j) j = rb j := if_neg e
      rw [e2, if_neg (fun q => e q.2)]
      exact hr j hj
  have jx : ∀ {M' : am_Me}, am_of (fun a _ => a = 15 ∨ a = 16) M1 M' → JX s M' := fun h => (hx.of of1 (fun a k q => by unfold pS; omega)).of h (fun a k q => by unfold pS; omega)
  obtain ⟨M2, e2, ⟨g1, g2, g3⟩⟩ := am_lp (X := X) (S := kS) (mi := 61) (pc := 10) s.2.1.1 (fun i => [some (.ref (6 : Nat)), some (.int (nI k)), some (.ref (1 : Nat)), some (.int (nI m)), some (.int (nI i))])
    (fun i M' => xLr (lrn s m (fun b => if b < i then me b + s.2.2.1.2 k b else me b)) M' ∧ xMe s.2.1.1 (fun b => if b < i then me b + s.2.2.1.2 k b else me b) M' ∧ am_of (fun a _ => a = 15 ∨ a = 16) M1 M') (M := M1) ⟨by
      have e : (fun b => if b < 0 then me b + s.2.2.1.2 k b else me b) = me := funext fun b => if_neg (Nat.not_lt_zero _)
      rw [e]; exact hl.of of1 (fun a k q => by omega), fun b hb => by
      dsimp only
      rw [if_neg (Nat.not_lt_zero _), (of1 _ _ (by omega)).1]; exact hm b hb, am_of.rf⟩ (by
      intro j M3 hj hI
      obtain ⟨i1, i2, i3⟩ := hI
      have j3 := jx i3
      have dd := j3.1.2.1
      have rr := j3.1.2.2.1.2 k hk j (by omega)
      have c1 : (nI j < nI s.2.1.1) = True := eq_true (nI_lt hj (by omega))
      have cj : (nI j).toNatClampNeg = j := nI_clamp (by omega)
      have mj : M3.1 16 j = nI (me j) := by rw [i2 j hj]; dsimp only; rw [if_neg (Nat.lt_irrefl _)]
      have sa : nI (me j) + nI (s.2.2.1.2 k j) = nI (me j + s.2.2.1.2 k j) := nI_add _ _
      have v99 := ho.2.2.1.2 k hk j (by omega)
      have s99 := ho.2.1.2 j hj
      have m6 := hme j (by omega)
      have ml : nI m * nI (s.2.1.2 j) = nI (m * s.2.1.2 j) := pk_mul _ _
      have mb : m * s.2.1.2 j ≤ 9 * 99 := Nat.mul_le_mul hm9 s99.2
      have c2 : (nI (me j + s.2.2.1.2 k j) < nI (m * s.2.1.2 j)) = (me j + s.2.2.1.2 k j < m * s.2.1.2 j) := ok_lt (by omega) (by omega)
      generalize hM4 : am_setI M3 16 j (nI (me j + s.2.2.1.2 k j)) = M4
      have of4 : am_of (fun a _ => a = 16) M3 M4 := by rw [← hM4]; exact am_of.rf.sI rfl
      have m4 : M4.1 16 j = nI (me j + s.2.2.1.2 k j) := by rw [← hM4, gI, if_pos ⟨rfl, rfl⟩]
      have dd4 : xD s.2.1 M4 := dd.of of4 (fun a k q => by omega)
      have i4 := i3.tr (of4.mo fun a k q => Or.inr q)
      have x4 : xMe s.2.1.1 (fun b => if b < j + 1 then me b + s.2.2.1.2 k b else me b) M4 := fun b hb => by
        dsimp only
        by_cases e : b = j
        · subst e; rw [m4, if_pos (by omega)]
        · rw [← hM4, gI, if_neg (fun q => e q.2), i2 b hb]
          dsimp only
          by_cases h : b < j
          · rw [if_pos h, if_pos (by omega)]
          · rw [if_neg h, if_neg (by omega)]
      have lo : ∀ b, b ≠ j → lrn s m (fun b => if b < j + 1 then me b + s.2.2.1.2 k b else me b) b = lrn s m (fun b => if b < j then me b + s.2.2.1.2 k b else me b) b := fun b hb => by
        apply lrn_e
        by_cases h : b < j
        · rw [if_pos h, if_pos (show b < j + 1 by omega)]
        · rw [if_neg h, if_neg (show ¬ b < j + 1 by omega)]
      by_cases h2 : me j + s.2.2.1.2 k j < m * s.2.1.2 j
      · refine ⟨M4, ?_, fun b hb => ?_, x4, i4⟩
        · rw [e61_10]
          simp only [e61_0, e61_1, e61_4, e61_5, e61_6, e61_7, e61_8, e61_12, e61_13, e61_16, e61_19, e61_20, e61_23, e61_25, e61_26, e61_27, e61_28, e61_31, e61_32, e61_33, e61_35, e61_36, e61_37, e61_38, e61_39, e61_42, e61_44, e61_45, e61_46, e61_47, e61_49, e61_52, e61_53, e61_56, e61_57, e61_60, e61_62, e61_63, e61_64, e61_67, e61_70, e22_0, e22_1, e22_4, e23_0, e23_1, e23_4, e23_5, e23_6, s1, s1_0, s1_1, s1_2, s1_3, s1_4, r1_0, r1_1, r1_2, r1_3, s2, s3, s4, s5, s6, s6_0, s6_1, s6_2, s6_3, s6_4, s6_5, s6_6, s6_7, s6_8, r6_0, r6_1, r6_2, r6_3, r6_4, r6_5, r6_6, r6_7, s7, s8, s9, s10, s11, s12, s13, s14, s15, s16, s17, s18, s18_0, s18_1, s19, s19_0, s19_1, s20, s20_0, s20_1, dd.1, c1, cj, ck, mj, rr, sa, hM4, m4, dd4.2 j hj, ml, c2, h2, nI_1, a16 (show j < 6 by omega), a2 (show j < 6 by omega), a7 hk, r7 k hk, t7 k hk, g7 hk (show j < 6 by omega), am_bv_s, am_bw_s, eq_self, true_or, or_true, am_b0, am_b1, am_em, if_true, if_false, true_and, and_true, false_and, and_false, not_true_eq_false, not_false_eq_true, false_or, or_false, Bool.false_eq_true]
        · rw [(of4 _ _ (by omega)).1, i1 b hb]
          by_cases e : b = j
          · subst e
            have q1 : lrn s m (fun b' => if b' < b then me b' + s.2.2.1.2 k b' else me b') b = false := by
              unfold lrn
              apply decide_eq_false
              dsimp only
              rw [if_neg (Nat.lt_irrefl _)]
              omega
            have q2 : lrn s m (fun b' => if b' < b + 1 then me b' + s.2.2.1.2 k b' else me b') b = false := by
              unfold lrn
              apply decide_eq_false
              dsimp only
              rw [if_pos (Nat.lt_succ_self _)]
              omega
            rw [q1, q2]
          · rw [lo b e]
      · refine ⟨am_setI M4 15 j 1, ?_, fun b hb => ?_, fun b hb => ?_, i4.sI (Or.inl rfl)⟩
        · rw [e61_10]
          simp only [e61_0, e61_1, e61_4, e61_5, e61_6, e61_7, e61_8, e61_12, e61_13, e61_16, e61_19, e61_20, e61_23, e61_25, e61_26, e61_27, e61_28, e61_31, e61_32, e61_33, e61_35, e61_36, e61_37, e61_38, e61_39, e61_42, e61_44, e61_45, e61_46, e61_47, e61_49, e61_52, e61_53, e61_56, e61_57, e61_60, e61_62, e61_63, e61_64, e61_67, e61_70, e22_0, e22_1, e22_4, e23_0, e23_1, e23_4, e23_5, e23_6, s1, s1_0, s1_1, s1_2, s1_3, s1_4, r1_0, r1_1, r1_2, r1_3, s2, s3, s4, s5, s6, s6_0, s6_1, s6_2, s6_3, s6_4, s6_5, s6_6, s6_7, s6_8, r6_0, r6_1, r6_2, r6_3, r6_4, r6_5, r6_6, r6_7, s7, s8, s9, s10, s11, s12, s13, s14, s15, s16, s17, s18, s18_0, s18_1, s19, s19_0, s19_1, s20, s20_0, s20_1, dd.1, c1, cj, ck, mj, rr, sa, hM4, m4, dd4.2 j hj, ml, c2, h2, am_o01, nI_1, a16 (show j < 6 by omega), a15 (show j < 6 by omega), a2 (show j < 6 by omega), a7 hk, r7 k hk, t7 k hk, g7 hk (show j < 6 by omega), am_bv_s, am_bw_s, eq_self, true_or, or_true, am_b0, am_b1, am_em, if_true, if_false, true_and, and_true, false_and, and_false, not_true_eq_false, not_false_eq_true, false_or, or_false, Bool.false_eq_true]
        · rw [gI]
          by_cases e : b = j
          · subst e
            have q2 : lrn s m (fun b' => if b' < b + 1 then me b' + s.2.2.1.2 k b' else me b') b = true := by
              unfold lrn
              apply decide_eq_true
              dsimp only
              rw [if_pos (Nat.lt_succ_self _)]
              omega
            rw [if_pos ⟨rfl, rfl⟩, if_pos q2]
          · rw [if_neg (fun q => e q.2), (of4 _ _ (by omega)).1, i1 b hb, lo b e]
        · rw [gI, if_neg (by omega)]; exact x4 b hb)
  refine ⟨M2, ?_, ?_, fun j hj => ?_, fun b hb => ?_, (of1.mo fun a k q => Or.inl q).tr (g3.mo fun a k q => Or.inr q)⟩
  · have dd := (jx g3).1.2.1.1
    have cn : (nI s.2.1.1 < nI s.2.1.1) = False := eq_false (nI_nlt (Nat.le_refl _) (by omega))
    have fin : am_e X 61 10 [some (.ref (6 : Nat)), some (.int (nI k)), some (.ref (1 : Nat)), some (.int (nI m)), some (.int (nI s.2.1.1))] [] kS M2 = some (none, kS, M2) := by
      rw [e61_10]
      simp only [e61_0, e61_1, e61_4, e61_5, e61_6, e61_7, e61_8, e61_12, e61_13, e61_16, e61_19, e61_20, e61_23, e61_25, e61_26, e61_27, e61_28, e61_31, e61_32, e61_33, e61_35, e61_36, e61_37, e61_38, e61_39, e61_42, e61_44, e61_45, e61_46, e61_47, e61_49, e61_52, e61_53, e61_56, e61_57, e61_60, e61_62, e61_63, e61_64, e61_67, e61_70, e22_0, e22_1, e22_4, s1, s1_0, s1_1, s1_2, s1_3, s1_4, r1_0, r1_1, r1_2, r1_3, s2, s3, s4, s5, s6, s6_0, s6_1, s6_2, s6_3, s6_4, s6_5, s6_6, s6_7, s6_8, r6_0, r6_1, r6_2, r6_3, r6_4, r6_5, r6_6, r6_7, s7, s8, s9, s10, s11, s12, s13, s14, s15, s16, s17, s18, s18_0, s18_1, s19, s19_0, s19_1, s20, s20_0, s20_1, dd, cn, am_bv_s, am_bw_s, eq_self, true_or, or_true, am_b0, am_b1, am_em, if_true, if_false, true_and, and_true, false_and, and_false, not_true_eq_false, not_false_eq_true, false_or, or_false, Bool.false_eq_true]
    rw [fin, nI_0] at e2
    rw [← e2]
    simp only [e61_0, e61_1, e61_4, e61_5, e61_6, e61_7, e61_8, e61_12, e61_13, e61_16, e61_19, e61_20, e61_23, e61_25, e61_26, e61_27, e61_28, e61_31, e61_32, e61_33, e61_35, e61_36, e61_37, e61_38, e61_39, e61_42, e61_44, e61_45, e61_46, e61_47, e61_49, e61_52, e61_53, e61_56, e61_57, e61_60, e61_62, e61_63, e61_64, e61_67, e61_70, s6, s6_0, s6_1, s6_2, s6_3, s6_4, s6_5, s6_6, s6_7, s6_8, r6_0, r6_1, r6_2, r6_3, r6_4, r6_5, r6_6, r6_7, s7, s8, s9, s10, s11, s12, s13, s14, s15, s16, s17, s18, s18_0, s18_1, s19, s19_0, s19_1, s20, s20_0, s20_1, ck, am_o01, hM1, a14 hk, am_bv_s, am_bw_s, eq_self, true_or, or_true, am_b0, am_b1, am_em, if_true, if_false, true_and, and_true, false_and, and_false, not_true_eq_false, not_false_eq_true, false_or, or_false, Bool.false_eq_true]
  · have e := lrn_c (s := s) (m := m) (me := fun b => if b < s.2.1.1 then me b + s.2.2.1.2 k b else me b) (me' := fun b => me b + s.2.2.1.2 k b) (fun b hb => if_pos hb)
    rw [← e]; exact g1
  · rw [(g3 _ _ (by omega)).1]; exact r1 j hj
  · have := g2 b hb
    dsimp only at this
    rw [if_pos hb] at this
    exact this
end
