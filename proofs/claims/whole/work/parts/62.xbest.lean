/-! the class: the book with the greatest cover -/
def oI : Option Nat → Int32
  | none => -1
  | some j => nI j
abbrev bOk (s : sgm) (t : Nat) (lr rb : Nat → Bool) (p n : Nat) : Prop := rb n = false ∧ ¬ (rAll s n = 0 ∨ gD s.2.1.1 s.2.2.2.1 s.2.2.2.2 t = 0) ∧ p * (cvP s t lr n).2 ≤ 100 * (cvP s t lr n).1
def bMo (s : sgm) (t : Nat) (lr : Nat → Bool) (n : Nat) : Option Nat → Bool
  | none => true
  | some j => decide ((cvP s t lr j).1 * (cvP s t lr n).2 < (cvP s t lr n).1 * (cvP s t lr j).2)
def bst (s : sgm) (t : Nat) (lr rb : Nat → Bool) (p : Nat) : Nat → Option Nat
  | 0 => none
  | n + 1 => if bOk s t lr rb p n ∧ bMo s t lr n (bst s t lr rb p n) = true then some n else bst s t lr rb p n
theorem bst_ok {s : sgm} {t : Nat} {lr rb : Nat → Bool} {p j : Nat} : ∀ n, bst s t lr rb p n = some j → j < n ∧ bOk s t lr rb p j
  | 0, h => by cases h
  | n + 1, h => by
    rw [bst] at h
    by_cases q : bOk s t lr rb p n ∧ bMo s t lr n (bst s t lr rb p n) = true
    · rw [if_pos q] at h
      cases h
      exact ⟨by omega, q.1⟩
    · rw [if_neg q] at h
      obtain ⟨q1, q2⟩ := bst_ok n h
      exact ⟨by omega, q2⟩
section
variable {X : am_X} {S : am_Sh} {M M' : am_Me} {P : Nat → Nat → Prop} {s : sgm}
theorem cvP_bd (ho : okm s) {t k : Nat} {lr : Nat → Bool} (hk : k < 6) (hD : 0 < gD s.2.1.1 s.2.2.2.1 s.2.2.2.2 t) : (cvP s t lr k).1 < 2 ^ 31 ∧ (cvP s t lr k).2 < 2 ^ 31 := by
  obtain ⟨q1, q2⟩ := cvF_bd ho (lr := lr) hk hD
  have ra := rAll_le ho hk
  have q3 : (cvF s t lr k).2 * rAll s k ≤ 2300000 * 594 := Nat.mul_le_mul (by omega) ra
  have f := @fr_le (cvF s t lr k).1 ((cvF s t lr k).2 * rAll s k)
  unfold cvP
  omega
theorem q_isMore {f g : Nat} {p q : Nat × Nat} (hf : isF f) (hg : isF g) (hp : hF f p M) (hq : hF g q M) (h1 : p.1 < 2 ^ 31 ∧ p.2 < 2 ^ 31) (h2 : q.1 < 2 ^ 31 ∧ q.2 < 2 ^ 31) : am_e X 37 0 [some (.ref f), some (.ref g)] [] kS M = some (some (.int (am_b (q.1 * p.2 < p.1 * q.2))), kS, M) := by
  have b1 : q.1 * p.2 < 2 ^ 63 := Nat.lt_of_le_of_lt (Nat.mul_le_mul (Nat.le_of_lt h2.1) (Nat.le_of_lt h1.2)) (by decide)
  have b2 : p.1 * q.2 < 2 ^ 63 := Nat.lt_of_le_of_lt (Nat.mul_le_mul (Nat.le_of_lt h1.1) (Nat.le_of_lt h2.2)) (by decide)
  have c := lI_lt b1 b2
  obtain ⟨a1, a2, a3⟩ := hf
  obtain ⟨b1, b2, b3⟩ := hg
  by_cases h : q.1 * p.2 < p.1 * q.2
  · rw [am_bt h]
    simp only [e37_0, e37_1, e37_4, e37_5, e37_8, e37_9, e37_10, e37_13, e37_14, e37_17, e37_18, e37_19, e37_22, e37_23, e37_26, e37_27, a1, a2, a3, b1, b2, b3, hp.1, hp.2, hq.1, hq.2, lI_mul, lc_gt, c, h, am_bv_s, am_bw_s, eq_self, true_or, or_true, am_b0, am_b1, am_em, if_true, if_false, true_and, and_true, false_and, and_false, not_true_eq_false, not_false_eq_true, false_or, or_false, Bool.false_eq_true]
  · rw [am_bf h]
    simp only [e37_0, e37_1, e37_4, e37_5, e37_8, e37_9, e37_10, e37_13, e37_14, e37_17, e37_18, e37_19, e37_22, e37_23, e37_26, e37_27, a1, a2, a3, b1, b2, b3, hp.1, hp.2, hq.1, hq.2, lI_mul, lc_gt, c, h, am_bv_s, am_bw_s, eq_self, true_or, or_true, am_b0, am_b1, am_em, if_true, if_false, true_and, and_true, false_and, and_false, not_true_eq_false, not_false_eq_true, false_or, or_false, Bool.false_eq_true]
theorem q_isHun {f n : Nat} {p : Nat × Nat} (hf : isF f) (hp : hF f p M) (h1 : p.1 < 2 ^ 31 ∧ p.2 < 2 ^ 31) (hn : n ≤ 100) : am_e X 38 0 [some (.ref f), some (.int (nI n))] [] kS M = some (some (.int (am_b (n * p.2 ≤ 100 * p.1))), kS, M) := by
  have b1 : n * p.2 < 2 ^ 63 := Nat.lt_of_le_of_lt (Nat.mul_le_mul hn (Nat.le_of_lt h1.2)) (by decide)
  have b2 : p.1 * 100 < 2 ^ 63 := by omega
  have c := lI_lt b2 b1
  have lw := lI_w (n := n) (by omega)
  have l100 : (100 : Int64) = lI 100 := rfl
  obtain ⟨a1, a2, a3⟩ := hf
  by_cases h : p.1 * 100 < n * p.2
  · rw [am_bf (by omega)]
    simp only [e38_0, e38_1, e38_4, e38_7, e38_8, e38_9, e38_10, e38_11, e38_14, e38_15, e38_16, e38_19, e38_20, e38_23, e38_24, a1, a2, a3, hp.1, hp.2, lw, l100, lI_mul, lc_lt, c, h, am_bv_s, am_bw_s, eq_self, true_or, or_true, am_b0, am_b1, am_em, if_true, if_false, true_and, and_true, false_and, and_false, not_true_eq_false, not_false_eq_true, false_or, or_false, Bool.false_eq_true]
  · rw [am_bt (show n * p.2 ≤ 100 * p.1 by omega)]
    simp only [e38_0, e38_1, e38_4, e38_7, e38_8, e38_9, e38_10, e38_11, e38_14, e38_15, e38_16, e38_19, e38_20, e38_23, e38_24, a1, a2, a3, hp.1, hp.2, lw, l100, lI_mul, lc_lt, c, h, am_bv_s, am_bw_s, eq_self, true_or, or_true, am_b0, am_b1, am_em, if_true, if_false, true_and, and_true, false_and, and_false, not_true_eq_false, not_false_eq_true, false_or, or_false, Bool.false_eq_true]
theorem q_putSame {f g : Nat} {p : Nat × Nat} (hf : isF f) (hg : isF g) (hp : hF g p M) (hfg : f ≠ g) : ∃ M', am_e X 33 0 [some (.ref f), some (.ref g)] [] kS M = some (none, kS, M') ∧ hF f p M' ∧ am_of (fun a _ => a = f) M M' := by
  refine ⟨_, ?_, hF.mk (p := p), hF.fm⟩
  obtain ⟨a1, a2, a3⟩ := hf
  obtain ⟨b1, b2, b3⟩ := hg
  have e : ∀ z, (am_setL M f 0 z).2 g 1 = lI p.2 := fun z => by rw [gL, if_neg (fun q => hfg q.1.symm)]; exact hp.2
  simp only [e33_0, e33_1, e33_2, e33_5, e33_8, e33_9, e33_10, e33_13, e33_16, a1, a2, a3, b1, b2, b3, hp.1, e, am_bv_s, am_bw_s, eq_self, true_or, or_true, am_b0, am_b1, am_em, if_true, if_false, true_and, and_true, false_and, and_false, not_true_eq_false, not_false_eq_true, false_or, or_false, Bool.false_eq_true]
theorem x_bestUnread {t p : Nat} {lr rb : Nat → Bool} (hx : JX s M) (ho : okm s) (hl : xLr lr M) (hr : xRb rb M) (ht : t < 4) (hp : p ≤ 100) : ∃ M', am_e X 62 0 [some (.ref (6 : Nat)), some (.ref (36 : Nat)), some (.int (nI t)), some (.int (nI p)), none, none] [] kS M = some (some (.int (oI (bst s t lr rb p s.2.2.1.1))), kS, M') ∧ am_of (fun a _ => a = 18 ∨ a = 19 ∨ a = 20) M M' := by
  have b6 := ho.2.2.1.1
  have jx : ∀ {M' : am_Me}, am_of (fun a _ => a = 18 ∨ a = 19 ∨ a = 20) M M' → JX s M' ∧ xLr lr M' ∧ xRb rb M' := fun h => ⟨hx.of h (fun a k q => by unfold pS; omega), hl.of h (fun a k q => by omega), fun k hk => ((h _ _ (by omega)).1).trans (hr k hk)⟩
  have n0 : ((-1 : Int32) = -1) = True := eq_true rfl
  obtain ⟨M', e1, g1, g2⟩ := am_lp (X := X) (S := kS) (mi := 62) (pc := 6) s.2.2.1.1 (fun i => [some (.ref (6 : Nat)), some (.ref (36 : Nat)), some (.int (nI t)), some (.int (nI p)), some (.int (oI (bst s t lr rb p i))), some (.int (nI i))])
    (fun i M' => (∀ j, bst s t lr rb p i = some j → hF 20 (cvP s t lr j) M') ∧ am_of (fun a _ => a = 18 ∨ a = 19 ∨ a = 20) M M') (M := M) ⟨fun j h => (by cases h), am_of.rf⟩ (by
      intro j M2 hj hI
      obtain ⟨i1, i2⟩ := hI
      obtain ⟨j2, l2, r2⟩ := jx i2
      have c1 : (nI j < nI s.2.2.1.1) = True := eq_true (nI_lt hj (by omega))
      have cj : (nI j).toNatClampNeg = j := nI_clamp (by omega)
      have bk := j2.1.2.2.1.1
      have rj := r2 j (by omega)
      have o0 : ((1 : Int32) = 0) = False := eq_false (by decide)
      have z0 : ((0 : Int32) = 0) = True := eq_true rfl
      by_cases hrb : rb j = true
      · rw [if_pos hrb] at rj
        have eb : bst s t lr rb p (j + 1) = bst s t lr rb p j := by
          rw [bst, if_neg]
          intro q
          have := q.1.1
          rw [hrb] at this
          cases this
        refine ⟨M2, ?_, by rw [eb]; exact i1, i2⟩
        rw [eb, e62_6]
        simp only [e62_0, e62_1, e62_3, e62_4, e62_8, e62_9, e62_12, e62_15, e62_16, e62_19, e62_21, e62_22, e62_25, e62_26, e62_27, e62_28, e62_30, e62_31, e62_34, e62_37, e62_40, e62_43, e62_44, e62_47, e62_48, e62_51, e62_54, e62_57, e62_59, e62_60, e62_63, e62_64, e62_67, e62_68, e62_71, e62_74, e62_77, e62_79, e62_81, e62_82, e62_85, e62_86, e62_89, e62_92, e62_95, e62_98, e62_100, s6, s6_0, s6_1, s6_2, s6_3, s6_4, s6_5, s6_6, s6_7, s6_8, r6_0, r6_1, r6_2, r6_3, r6_4, r6_5, r6_6, r6_7, s7, s8, s9, s10, s11, s12, s13, s14, s15, s16, s17, s18, s18_0, s18_1, s19, s19_0, s19_1, s20, s20_0, s20_1, bk, c1, cj, rj, o0, nI_1, a14 (show j < 6 by omega), am_bv_s, am_bw_s, eq_self, true_or, or_true, am_b0, am_b1, am_em, if_true, if_false, true_and, and_true, false_and, and_false, not_true_eq_false, not_false_eq_true, false_or, or_false, Bool.false_eq_true]
      · rw [if_neg hrb] at rj
        have hrf : rb j = false := by cases h : rb j; rfl; exact absurd h hrb
        obtain ⟨M3, d1, d2, d3⟩ := x_putLadder (X := X) (f := 19) (t := t) (k := j) j2 ho l2 ht (by omega) isF_sc (Or.inr rfl)
        have of3 := i2.tr (d3.mo fun a k q => by omega)
        have i3 : ∀ j', bst s t lr rb p j = some j' → hF 20 (cvP s t lr j') M3 := fun j' h => (i1 j' h).of d3 (fun a k q => by omega)
        by_cases h0 : rAll s j = 0 ∨ gD s.2.1.1 s.2.2.2.1 s.2.2.2.2 t = 0
        · rw [am_bf (fun q => q h0)] at d1
          have eb : bst s t lr rb p (j + 1) = bst s t lr rb p j := by
            rw [bst, if_neg]
            exact fun q => q.1.2.1 h0
          refine ⟨M3, ?_, by rw [eb]; exact i3, of3⟩
          rw [eb, e62_6]
          simp only [e62_0, e62_1, e62_3, e62_4, e62_8, e62_9, e62_12, e62_15, e62_16, e62_19, e62_21, e62_22, e62_25, e62_26, e62_27, e62_28, e62_30, e62_31, e62_34, e62_37, e62_40, e62_43, e62_44, e62_47, e62_48, e62_51, e62_54, e62_57, e62_59, e62_60, e62_63, e62_64, e62_67, e62_68, e62_71, e62_74, e62_77, e62_79, e62_81, e62_82, e62_85, e62_86, e62_89, e62_92, e62_95, e62_98, e62_100, s6, s6_0, s6_1, s6_2, s6_3, s6_4, s6_5, s6_6, s6_7, s6_8, r6_0, r6_1, r6_2, r6_3, r6_4, r6_5, r6_6, r6_7, s7, s8, s9, s10, s11, s12, s13, s14, s15, s16, s17, s18, s18_0, s18_1, s19, s19_0, s19_1, s20, s20_0, s20_1, bk, c1, cj, rj, z0, d1, nI_1, a14 (show j < 6 by omega), am_bv_s, am_bw_s, eq_self, true_or, or_true, am_b0, am_b1, am_em, if_true, if_false, true_and, and_true, false_and, and_false, not_true_eq_false, not_false_eq_true, false_or, or_false, Bool.false_eq_true]
        · rw [am_bt h0] at d1
          have hD : 0 < gD s.2.1.1 s.2.2.2.1 s.2.2.2.2 t := by omega
          have cv := d2 h0
          have bd := fun k (hk : k < 6) => cvP_bd ho (t := t) (k := k) (lr := lr) hk hD
          have hh := q_isHun (X := X) isF_sc cv (bd j (by omega)) hp
          by_cases h1 : p * (cvP s t lr j).2 ≤ 100 * (cvP s t lr j).1
          · rw [am_bt h1] at hh
            have hok : bOk s t lr rb p j := ⟨hrf, h0, h1⟩
            obtain ⟨M4, p1, p2, p3⟩ := q_putSame (X := X) isF_sg isF_sc cv (by decide)
            cases hb : bst s t lr rb p j with
            | none =>
              have eb : bst s t lr rb p (j + 1) = some j := by
                rw [bst, hb, if_pos ⟨hok, rfl⟩]
              refine ⟨M4, ?_, fun j' h => ?_, of3.tr (p3.mo fun a k q => Or.inr (Or.inr q))⟩
              · rw [eb, oI, oI, e62_6]
                simp only [e62_0, e62_1, e62_3, e62_4, e62_8, e62_9, e62_12, e62_15, e62_16, e62_19, e62_21, e62_22, e62_25, e62_26, e62_27, e62_28, e62_30, e62_31, e62_34, e62_37, e62_40, e62_43, e62_44, e62_47, e62_48, e62_51, e62_54, e62_57, e62_59, e62_60, e62_63, e62_64, e62_67, e62_68, e62_71, e62_74, e62_77, e62_79, e62_81, e62_82, e62_85, e62_86, e62_89, e62_92, e62_95, e62_98, e62_100, s6, s6_0, s6_1, s6_2, s6_3, s6_4, s6_5, s6_6, s6_7, s6_8, r6_0, r6_1, r6_2, r6_3, r6_4, r6_5, r6_6, r6_7, s7, s8, s9, s10, s11, s12, s13, s14, s15, s16, s17, s18, s18_0, s18_1, s19, s19_0, s19_1, s20, s20_0, s20_1, bk, c1, cj, rj, z0, o0, n0, d1, hh, p1, nI_1, a14 (show j < 6 by omega), am_bv_s, am_bw_s, eq_self, true_or, or_true, am_b0, am_b1, am_em, if_true, if_false, true_and, and_true, false_and, and_false, not_true_eq_false, not_false_eq_true, false_or, or_false, Bool.false_eq_true]
              · rw [eb] at h
                cases h
                exact p2
            | some j0 =>
              obtain ⟨q1, q2⟩ := bst_ok j hb
              have g := i3 j0 hb
              have mm := q_isMore (X := X) isF_sc isF_sg cv g (bd j (by omega)) (bd j0 (by omega))
              have n1 := nI_n1 (k := j0) (by omega)
              by_cases h2 : (cvP s t lr j0).1 * (cvP s t lr j).2 < (cvP s t lr j).1 * (cvP s t lr j0).2
              · rw [am_bt h2] at mm
                have eb : bst s t lr rb p (j + 1) = some j := by
                  rw [bst, hb, if_pos ⟨hok, decide_eq_true h2⟩]
                refine ⟨M4, ?_, fun j' h => ?_, of3.tr (p3.mo fun a k q => Or.inr (Or.inr q))⟩
                · rw [eb, oI, oI, e62_6]
                  simp only [e62_0, e62_1, e62_3, e62_4, e62_8, e62_9, e62_12, e62_15, e62_16, e62_19, e62_21, e62_22, e62_25, e62_26, e62_27, e62_28, e62_30, e62_31, e62_34, e62_37, e62_40, e62_43, e62_44, e62_47, e62_48, e62_51, e62_54, e62_57, e62_59, e62_60, e62_63, e62_64, e62_67, e62_68, e62_71, e62_74, e62_77, e62_79, e62_81, e62_82, e62_85, e62_86, e62_89, e62_92, e62_95, e62_98, e62_100, s6, s6_0, s6_1, s6_2, s6_3, s6_4, s6_5, s6_6, s6_7, s6_8, r6_0, r6_1, r6_2, r6_3, r6_4, r6_5, r6_6, r6_7, s7, s8, s9, s10, s11, s12, s13, s14, s15, s16, s17, s18, s18_0, s18_1, s19, s19_0, s19_1, s20, s20_0, s20_1, bk, c1, cj, rj, z0, o0, n1, d1, hh, mm, p1, nI_1, a14 (show j < 6 by omega), am_bv_s, am_bw_s, eq_self, true_or, or_true, am_b0, am_b1, am_em, if_true, if_false, true_and, and_true, false_and, and_false, not_true_eq_false, not_false_eq_true, false_or, or_false, Bool.false_eq_true]
                · rw [eb] at h
                  cases h
                  exact p2
              · rw [am_bf h2] at mm
                have eb : bst s t lr rb p (j + 1) = some j0 := by
                  rw [bst, hb, if_neg (fun q => h2 (of_decide_eq_true q.2))]
                refine ⟨M3, ?_, fun j' h => i3 j' (by rw [eb] at h; rw [hb]; exact h), of3⟩
                rw [eb, oI, e62_6]
                simp only [e62_0, e62_1, e62_3, e62_4, e62_8, e62_9, e62_12, e62_15, e62_16, e62_19, e62_21, e62_22, e62_25, e62_26, e62_27, e62_28, e62_30, e62_31, e62_34, e62_37, e62_40, e62_43, e62_44, e62_47, e62_48, e62_51, e62_54, e62_57, e62_59, e62_60, e62_63, e62_64, e62_67, e62_68, e62_71, e62_74, e62_77, e62_79, e62_81, e62_82, e62_85, e62_86, e62_89, e62_92, e62_95, e62_98, e62_100, s6, s6_0, s6_1, s6_2, s6_3, s6_4, s6_5, s6_6, s6_7, s6_8, r6_0, r6_1, r6_2, r6_3, r6_4, r6_5, r6_6, r6_7, s7, s8, s9, s10, s11, s12, s13, s14, s15, s16, s17, s18, s18_0, s18_1, s19, s19_0, s19_1, s20, s20_0, s20_1, bk, c1, cj, rj, z0, o0, n1, d1, hh, mm, nI_1, a14 (show j < 6 by omega), am_bv_s, am_bw_s, eq_self, true_or, or_true, am_b0, am_b1, am_em, if_true, if_false, true_and, and_true, false_and, and_false, not_true_eq_false, not_false_eq_true, false_or, or_false, Bool.false_eq_true]
          · rw [am_bf h1] at hh
            have eb : bst s t lr rb p (j + 1) = bst s t lr rb p j := by
              rw [bst, if_neg]
              exact fun q => h1 q.1.2.2
            refine ⟨M3, ?_, by rw [eb]; exact i3, of3⟩
            rw [eb, e62_6]
            simp only [e62_0, e62_1, e62_3, e62_4, e62_8, e62_9, e62_12, e62_15, e62_16, e62_19, e62_21, e62_22, e62_25, e62_26, e62_27, e62_28, e62_30, e62_31, e62_34, e62_37, e62_40, e62_43, e62_44, e62_47, e62_48, e62_51, e62_54, e62_57, e62_59, e62_60, e62_63, e62_64, e62_67, e62_68, e62_71, e62_74, e62_77, e62_79, e62_81, e62_82, e62_85, e62_86, e62_89, e62_92, e62_95, e62_98, e62_100, s6, s6_0, s6_1, s6_2, s6_3, s6_4, s6_5, s6_6, s6_7, s6_8, r6_0, r6_1, r6_2, r6_3, r6_4, r6_5, r6_6, r6_7, s7, s8, s9, s10, s11, s12, s13, s14, s15, s16, s17, s18, s18_0, s18_1, s19, s19_0, s19_1, s20, s20_0, s20_1, bk, c1, cj, rj, z0, o0, d1, hh, nI_1, a14 (show j < 6 by omega), am_bv_s, am_bw_s, eq_self, true_or, or_true, am_b0, am_b1, am_em, if_true, if_false, true_and, and_true, false_and, and_false, not_true_eq_false, not_false_eq_true, false_or, or_false, Bool.false_eq_true])
  refine ⟨M', ?_, g2⟩
  have bk := (jx g2).1.1.2.2.1.1
  have cn : (nI s.2.2.1.1 < nI s.2.2.1.1) = False := eq_false (nI_nlt (Nat.le_refl _) (by omega))
  have fin : am_e X 62 6 [some (.ref (6 : Nat)), some (.ref (36 : Nat)), some (.int (nI t)), some (.int (nI p)), some (.int (oI (bst s t lr rb p s.2.2.1.1))), some (.int (nI s.2.2.1.1))] [] kS M' = some (some (.int (oI (bst s t lr rb p s.2.2.1.1))), kS, M') := by
    rw [e62_6]
    simp only [e62_0, e62_1, e62_3, e62_4, e62_8, e62_9, e62_12, e62_15, e62_16, e62_19, e62_21, e62_22, e62_25, e62_26, e62_27, e62_28, e62_30, e62_31, e62_34, e62_37, e62_40, e62_43, e62_44, e62_47, e62_48, e62_51, e62_54, e62_57, e62_59, e62_60, e62_63, e62_64, e62_67, e62_68, e62_71, e62_74, e62_77, e62_79, e62_81, e62_82, e62_85, e62_86, e62_89, e62_92, e62_95, e62_98, e62_100, s6, s6_0, s6_1, s6_2, s6_3, s6_4, s6_5, s6_6, s6_7, s6_8, r6_0, r6_1, r6_2, r6_3, r6_4, r6_5, r6_6, r6_7, s7, s8, s9, s10, s11, s12, s13, s14, s15, s16, s17, s18, s18_0, s18_1, s19, s19_0, s19_1, s20, s20_0, s20_1, bk, cn, am_bv_s, am_bw_s, eq_self, true_or, or_true, am_b0, am_b1, am_em, if_true, if_false, true_and, and_true, false_and, and_false, not_true_eq_false, not_false_eq_true, false_or, or_false, Bool.false_eq_true]
  rw [fin, nI_0] at e1
  rw [← e1]
  simp only [e62_0, e62_1, e62_3, e62_4, e62_8, e62_9, e62_12, e62_15, e62_16, e62_19, e62_21, e62_22, e62_25, e62_26, e62_27, e62_28, e62_30, e62_31, e62_34, e62_37, e62_40, e62_43, e62_44, e62_47, e62_48, e62_51, e62_54, e62_57, e62_59, e62_60, e62_63, e62_64, e62_67, e62_68, e62_71, e62_74, e62_77, e62_79, e62_81, e62_82, e62_85, e62_86, e62_89, e62_92, e62_95, e62_98, e62_100, am_bv_s, am_bw_s, eq_self, true_or, or_true, am_b0, am_b1, am_em, if_true, if_false, true_and, and_true, false_and, and_false, not_true_eq_false, not_false_eq_true, false_or, or_false, Bool.false_eq_true]
  rfl
end
