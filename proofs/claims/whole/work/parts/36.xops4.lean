/-! the class: read, write -/
/-- so many words read off a sheet, from one on -/
def rd (it : Nat → Int32) (t tm : Nat) : Nat → Nat → sgA → Nat × sgA
  | 0, i, A => (i, A)
  | k + 1, i, A => if -1 ≤ it i ∧ it i ≤ 1 then rd it t tm k (i + 1) (aTl A t i (it i) tm) else (i, A)
theorem rd_ok {it : Nat → Int32} {t tm : Nat} (ht : t < 4) (htm : tm ≤ 999) : ∀ (k i : Nat) (A : sgA), okA A → A.1 + k ≤ 120 → i + k ≤ 40 → okA (rd it t tm k i A).2 ∧ (rd it t tm k i A).1 ≤ 40
  | 0, i, A, h, _, h2 => ⟨h, h2⟩
  | k + 1, i, A, h, h1, h2 => by
    unfold rd
    split
    · rename_i hv
      exact rd_ok ht htm k (i + 1) _ (h.tl (by omega) ht (by omega) (okS_of hv) htm) (by show A.1 + 1 + k ≤ 120; omega) (by omega)
    · exact ⟨h, by omega⟩
def sp_most (s : sgm) (u : Nat) : Nat := min (min (s.1.2.2.1 u) 40) (120 - s.2.2.2.2.1)
def sp_read (s : sgm) (u t tm : Int32) : Int32 × sgm := if (0 ≤ u ∧ u ≤ 3) ∧ (0 ≤ t ∧ t ≤ 3) ∧ ((0 ≤ tm ∧ tm ≤ 999) ∧ ¬ tm < nI (aLt s.2.2.2.2)) then (if s.1.1 u.toNatClampNeg = true then (-11, hFd s.1 1, s.2) else (nI (rd (s.1.2.2.2.1 u.toNatClampNeg) t.toNatClampNeg tm.toNatClampNeg (sp_most s u.toNatClampNeg) 0 s.2.2.2.2).1, s.1, s.2.1, s.2.2.1, s.2.2.2.1, (rd (s.1.2.2.2.1 u.toNatClampNeg) t.toNatClampNeg tm.toNatClampNeg (sp_most s u.toNatClampNeg) 0 s.2.2.2.2).2)) else (-2, s)
theorem okH.fd {h : sgH} (ho : okH h) {k : Nat} (hk : k ≤ 5) : okH (hFd h k) := ⟨hk, ho.2⟩
theorem sp_most_le {s : sgm} {u : Nat} : sp_most s u ≤ 40 ∧ (s.2.2.2.2.1 ≤ 120 → s.2.2.2.2.1 + sp_most s u ≤ 120) ∧ sp_most s u ≤ s.1.2.2.1 u := by
  unfold sp_most
  omega
theorem sp_read_ok {s : sgm} (ho : okm s) (u t tm : Int32) : okm (sp_read s u t tm).2 := by
  unfold sp_read
  split
  · rename_i h
    split
    · exact ⟨ho.1.fd (by decide), ho.2⟩
    · obtain ⟨a, ha, rfl⟩ := in_n (n := 3) h.2.1 (by decide)
      obtain ⟨c, hc, rfl⟩ := in_n (n := 999) h.2.2.1 (by decide)
      rw [nI_clamp (n := a) (by omega), nI_clamp (n := c) (by omega)]
      have q := @sp_most_le s u.toNatClampNeg
      exact ⟨ho.1, ho.2.1, ho.2.2.1, ho.2.2.2.1, (rd_ok (show a < 4 by omega) hc _ _ _ ho.2.2.2.2 (q.2.1 ho.2.2.2.2.1) (by omega)).1⟩
  · exact ho
section
variable {X : am_X} {S : am_Sh} {M M' : am_Me} {P : Nat → Nat → Prop} {s : sgm}
theorem q_min {a b : Nat} (ha : a < 2 ^ 31) (hb : b < 2 ^ 31) : am_e X 218 0 [some (.int (nI a)), some (.int (nI b))] [] S M = some (some (.int (nI (min a b))), S, M) := by
  have c1 : (nI b < nI a) = (b < a) := ok_lt hb ha
  by_cases h : b < a
  · rw [Nat.min_eq_right (by omega)]
    simp only [e218_0, e218_1, e218_2, e218_5, e218_6, e218_9, e218_10, c1, h, am_bv_s, am_bw_s, eq_self, true_or, or_true, am_b0, am_b1, am_em, if_true, if_false, true_and, and_true, false_and, and_false, not_true_eq_false, not_false_eq_true, false_or, or_false, Bool.false_eq_true]
  · rw [Nat.min_eq_left (by omega)]
    simp only [e218_0, e218_1, e218_2, e218_5, e218_6, e218_9, e218_10, c1, h, am_bv_s, am_bw_s, eq_self, true_or, or_true, am_b0, am_b1, am_em, if_true, if_false, true_and, and_true, false_and, and_false, not_true_eq_false, not_false_eq_true, false_or, or_false, Bool.false_eq_true]
theorem x_readLoop {h : sgH} {u t tm n : Nat} (hu : u < 4) (ht : t < 4) (htm : tm ≤ 999) (hl : h.1 u = false) (hn : n ≤ h.2.2.1 u) (hn4 : n ≤ 40) (hz : h.2.2.1 u ≤ 60) : ∀ (k i : Nat) (A : sgA) (M : am_Me), i + k = n → okA A → A.1 + k ≤ 120 → xH h M → xA A M → xN A M →
    ∃ M' o1 o2 o3 o4 o6, am_e X 98 79 [some (.ref (0 : Nat)), some (.int (nI u)), some (.int (nI t)), some (.int (nI tm)), some (.int (nI n)), some (.int (nI i)), some (.int (nI i)), none] [] kS M = am_e X 98 131 [some (.ref (0 : Nat)), o1, o2, o3, o4, some (.int (nI (rd (h.2.2.2.1 u) t tm k i A).1)), o6, none] [] kS M' ∧ xA (rd (h.2.2.2.1 u) t tm k i A).2 M' ∧ xN (rd (h.2.2.2.1 u) t tm k i A).2 M' ∧ am_of pxA M M' := by
  intro k
  induction k with
  | zero =>
    intro i A M hk ho hA hH hxA hxN
    obtain rfl : i = n := by omega
    have c1 : (nI i < nI i) = False := eq_false (nI_nlt (Nat.le_refl _) (by omega))
    refine ⟨M, some (.int (nI u)), some (.int (nI t)), some (.int (nI tm)), some (.int (nI i)), some (.int (nI i)), ?_, hxA, hxN, am_of.rf⟩
    rw [e98_79]
    simp only [e98_0, e98_1, e98_4, e98_7, e98_8, e98_11, e98_14, e98_15, e98_16, e98_19, e98_22, e98_24, e98_25, e98_26, e98_29, e98_30, e98_33, e98_36, e98_37, e98_40, e98_41, e98_44, e98_45, e98_46, e98_49, e98_50, e98_53, e98_55, e98_58, e98_60, e98_61, e98_64, e98_67, e98_68, e98_71, e98_73, e98_74, e98_76, e98_77, e98_81, e98_83, e98_86, e98_87, e98_90, e98_91, e98_93, e98_96, e98_98, e98_100, e98_103, e98_106, e98_109, e98_110, e98_113, e98_114, e98_116, e98_118, e98_119, e98_122, e98_125, e98_128, e98_132, e98_135, e98_137, c1, rd, am_bv_s, am_bw_s, eq_self, true_or, or_true, am_b0, am_b1, am_em, if_true, if_false, true_and, and_true, false_and, and_false, not_true_eq_false, not_false_eq_true, false_or, or_false, Bool.false_eq_true]
  | succ k ih =>
    intro i A M hk ho hA hH hxA hxN
    have c1 : (nI i < nI n) = True := eq_true (nI_lt (by omega) (by omega))
    have it := q_item (X := X) (M := M) hu (show i < 60 by omega)
    rw [((hH.2 u hu).2 hl).2 i (by omega)] at it
    have i3 := q_maySay (X := X) (S := kS) (M := M) (h.2.2.2.1 u i)
    have o0 : ((1 : Int32) = 0) = False := eq_false (by decide)
    rw [rd]
    by_cases h3 : -1 ≤ h.2.2.2.1 u i ∧ h.2.2.2.1 u i ≤ 1
    · rw [if_pos h3]
      rw [am_bt h3] at i3
      obtain ⟨M1, t1, t2, t3, t4⟩ := q_tell (X := X) (t := t) (w := i) (tm := tm) (v := h.2.2.2.1 u i) hxA hxN ho (by omega) ht (by omega) htm
      obtain ⟨M', o1, o2, o3, o4, o6, r1, r2, r3, r4⟩ := ih (i + 1) (aTl A t i (h.2.2.2.1 u i) tm) M1 (by omega) (ho.tl (by omega) ht (by omega) (okS_of h3) htm) (by show A.1 + 1 + k ≤ 120; omega) (hH.of t4 (fun a k q => by unfold pxA at q; unfold pxH; omega)) t2 t3
      refine ⟨M', o1, o2, o3, o4, o6, ?_, r2, r3, t4.tr r4⟩
      rw [← r1, e98_79]
      simp only [e98_0, e98_1, e98_4, e98_7, e98_8, e98_11, e98_14, e98_15, e98_16, e98_19, e98_22, e98_24, e98_25, e98_26, e98_29, e98_30, e98_33, e98_36, e98_37, e98_40, e98_41, e98_44, e98_45, e98_46, e98_49, e98_50, e98_53, e98_55, e98_58, e98_60, e98_61, e98_64, e98_67, e98_68, e98_71, e98_73, e98_74, e98_76, e98_77, e98_81, e98_83, e98_86, e98_87, e98_90, e98_91, e98_93, e98_96, e98_98, e98_100, e98_103, e98_106, e98_109, e98_110, e98_113, e98_114, e98_116, e98_118, e98_119, e98_122, e98_125, e98_128, e98_132, e98_135, e98_137, s0, s0_0, s0_1, s0_2, s0_3, s0_4, s0_5, s0_6, s0_7, r0_0, r0_1, r0_2, r0_3, r0_4, r0_5, r0_6, r0_7, s24, s24_0, s24_1, s24_2, s24_3, s24_4, s24_5, s24_6, s24_7, s24_8, r24_0, r24_1, r24_2, r24_3, r24_4, r24_5, r24_6, s25, s26, s27, s28, s29, s30, s31, s32, s33, s34, s35, s50, s50_0, s50_1, s50_2, s50_3, r50_0, r50_1, r50_2, s51, s52, s53, s54, s55, s56, s57, c1, it, i3, o0, t1, nI_1, am_bv_s, am_bw_s, eq_self, true_or, or_true, am_b0, am_b1, am_em, if_true, if_false, true_and, and_true, false_and, and_false, not_true_eq_false, not_false_eq_true, false_or, or_false, Bool.false_eq_true]
    · rw [if_neg h3]
      rw [am_bf h3] at i3
      refine ⟨M, none, none, none, none, none, ?_, hxA, hxN, am_of.rf⟩
      rw [e98_79]
      simp only [e98_0, e98_1, e98_4, e98_7, e98_8, e98_11, e98_14, e98_15, e98_16, e98_19, e98_22, e98_24, e98_25, e98_26, e98_29, e98_30, e98_33, e98_36, e98_37, e98_40, e98_41, e98_44, e98_45, e98_46, e98_49, e98_50, e98_53, e98_55, e98_58, e98_60, e98_61, e98_64, e98_67, e98_68, e98_71, e98_73, e98_74, e98_76, e98_77, e98_81, e98_83, e98_86, e98_87, e98_90, e98_91, e98_93, e98_96, e98_98, e98_100, e98_103, e98_106, e98_109, e98_110, e98_113, e98_114, e98_116, e98_118, e98_119, e98_122, e98_125, e98_128, e98_132, e98_135, e98_137, s0, s0_0, s0_1, s0_2, s0_3, s0_4, s0_5, s0_6, s0_7, r0_0, r0_1, r0_2, r0_3, r0_4, r0_5, r0_6, r0_7, s24, s24_0, s24_1, s24_2, s24_3, s24_4, s24_5, s24_6, s24_7, s24_8, r24_0, r24_1, r24_2, r24_3, r24_4, r24_5, r24_6, s25, s26, s27, s28, s29, s30, s31, s32, s33, s34, s35, s50, s50_0, s50_1, s50_2, s50_3, r50_0, r50_1, r50_2, s51, s52, s53, s54, s55, s56, s57, c1, it, i3, am_bv_s, am_bw_s, eq_self, true_or, or_true, am_b0, am_b1, am_em, if_true, if_false, true_and, and_true, false_and, and_false, not_true_eq_false, not_false_eq_true, false_or, or_false, Bool.false_eq_true]
theorem x_lostQ {h : sgH} {u : Nat} (hx : xH h M) (ho : okH h) (hu : u < 4) : am_e X 42 0 [some (.ref (50 : Nat)), some (.int (nI u))] [] kS M = some (some (.int (am_b (h.1 u = true))), kS, M) := by
  have q := q_isLost (X := X) (M := M) hu
  have hz := (ho.2 u hu).2
  by_cases h1 : h.1 u = true
  · rw [am_bt (by rw [(hx.2 u hu).1, if_pos h1])] at q
    rw [am_bt h1]; exact q
  · rw [am_bf (by rw [(hx.2 u hu).1, if_neg h1, nI_n1 (by omega)]; exact id)] at q
    rw [am_bf h1]; exact q
theorem x_read (hx : JX s M) (ho : okm s) (u t tm : Int32) : ∃ M', am_e X 98 0 [some (.ref (0 : Nat)), some (.int u), some (.int t), some (.int tm), none, none, none, none] [] kS M = some (some (.int (sp_read s u t tm).1), kS, M') ∧ JX (sp_read s u t tm).2 M' ∧ am_of pX M M' := by
  have y1 := hx.1.1
  have y5 := hx.1.2.2.2.2.1
  have y6 := hx.1.2.2.2.2.2.1
  have i1 := q_isSheet (X := X) (S := kS) (M := M) u
  have i2 := q_isTaker (X := X) (S := kS) (M := M) t
  have i4 := q_mayBeTold (X := X) y5 ho.2.2.2.2 tm
  have o0 : ((1 : Int32) = 0) = False := eq_false (by decide)
  have h120 := ho.2.2.2.2.1
  unfold sp_read
  by_cases h : (0 ≤ u ∧ u ≤ 3) ∧ (0 ≤ t ∧ t ≤ 3) ∧ ((0 ≤ tm ∧ tm ≤ 999) ∧ ¬ tm < nI (aLt s.2.2.2.2))
  · rw [if_pos h]
    obtain ⟨h1, h2, h4⟩ := h
    rw [am_bt h1] at i1
    rw [am_bt h2] at i2
    rw [am_bt h4] at i4
    obtain ⟨a, ha, rfl⟩ := in_n (n := 3) h1 (by decide)
    obtain ⟨b, hb, rfl⟩ := in_n (n := 3) h2 (by decide)
    obtain ⟨c, hc, rfl⟩ := in_n (n := 999) h4.1 (by decide)
    rw [nI_clamp (n := a) (by omega), nI_clamp (n := b) (by omega), nI_clamp (n := c) (by omega)]
    have lq := x_lostQ (X := X) y1 ho.1 (show a < 4 by omega)
    by_cases hl : s.1.1 a = true
    · rw [if_pos hl]
      rw [am_bt hl] at lq
      have hf := y1.fd (k := 1)
      refine ⟨am_setI M 50 3 (nI 1), ?_, hx.setH hf (am_of.rf.sI (Or.inl rfl)), am_of.rf.sI (by unfold pX; omega)⟩
      simp only [e98_0, e98_1, e98_4, e98_7, e98_8, e98_11, e98_14, e98_15, e98_16, e98_19, e98_22, e98_24, e98_25, e98_26, e98_29, e98_30, e98_33, e98_36, e98_37, e98_40, e98_41, e98_44, e98_45, e98_46, e98_49, e98_50, e98_53, e98_55, e98_58, e98_60, e98_61, e98_64, e98_67, e98_68, e98_71, e98_73, e98_74, e98_76, e98_77, e98_81, e98_83, e98_86, e98_87, e98_90, e98_91, e98_93, e98_96, e98_98, e98_100, e98_103, e98_106, e98_109, e98_110, e98_113, e98_114, e98_116, e98_118, e98_119, e98_122, e98_125, e98_128, e98_131, e98_132, e98_135, e98_137, s0, s0_0, s0_1, s0_2, s0_3, s0_4, s0_5, s0_6, s0_7, r0_0, r0_1, r0_2, r0_3, r0_4, r0_5, r0_6, r0_7, s50, s50_0, s50_1, s50_2, s50_3, r50_0, r50_1, r50_2, s51, s52, s53, s54, s55, s56, s57, i1, i2, i4, o0, lq, q_refuse, am_bv_s, am_bw_s, eq_self, true_or, or_true, am_b0, am_b1, am_em, if_true, if_false, true_and, and_true, false_and, and_false, not_true_eq_false, not_false_eq_true, false_or, or_false, Bool.false_eq_true]
      rfl
    · rw [if_neg hl]
      rw [am_bf hl] at lq
      have hl' : s.1.1 a = false := by
        cases e : s.1.1 a with
        | true => exact absurd e hl
        | false => rfl
      have hz := (ho.1.2 a (by omega)).2
      have zq := q_sizeOf (X := X) (M := M) (show a < 4 by omega)
      rw [(y1.2 a (by omega)).1, if_neg hl] at zq
      have mq := q_min (X := X) (S := kS) (M := M) (a := s.1.2.2.1 a) (b := 40) (by omega) (by decide)
      rw [show nI 40 = 40 from rfl] at mq
      have sb : (120 : Int32) - nI s.2.2.2.2.1 = nI (120 - s.2.2.2.2.1) := pk_sub (a := 120) h120
      have mq2 := q_min (X := X) (S := kS) (M := M) (a := min (s.1.2.2.1 a) 40) (b := 120 - s.2.2.2.2.1) (by omega) (by omega)
      have q := @sp_most_le s a
      obtain ⟨M1, o1, o2, o3, o4, o6, t1, t2, t3, t4⟩ := x_readLoop (X := X) (h := s.1) (u := a) (t := b) (tm := c) (n := sp_most s a) (by omega) (by omega) hc hl' q.2.2 q.1 hz (sp_most s a) 0 s.2.2.2.2 M (by omega) ho.2.2.2.2 (q.2.1 h120) y1 y5 y6
      have okr := rd_ok (it := s.1.2.2.2.1 a) (show b < 4 by omega) hc (sp_most s a) 0 s.2.2.2.2 ho.2.2.2.2 (q.2.1 h120) (by omega)
      obtain ⟨M', r1, r2, r3⟩ := JX.setA (X := X) hx ho okr.1 t4 t2 t3
      refine ⟨M', ?_, r2, r3⟩
      have t1' : am_e X 98 79 [some (.ref (0 : Nat)), some (.int (nI a)), some (.int (nI b)), some (.int (nI c)), some (.int (nI (min (min (s.1.2.2.1 a) 40) (120 - s.2.2.2.2.1)))), some (.int 0), some (.int 0), none] [] kS M = _ := t1
      simp only [e98_0, e98_1, e98_4, e98_7, e98_8, e98_11, e98_14, e98_15, e98_16, e98_19, e98_22, e98_24, e98_25, e98_26, e98_29, e98_30, e98_33, e98_36, e98_37, e98_40, e98_41, e98_44, e98_45, e98_46, e98_49, e98_50, e98_53, e98_55, e98_58, e98_60, e98_61, e98_64, e98_67, e98_68, e98_71, e98_73, e98_74, e98_76, e98_77, e98_81, e98_83, e98_86, e98_87, e98_90, e98_91, e98_93, e98_96, e98_98, e98_100, e98_103, e98_106, e98_109, e98_110, e98_113, e98_114, e98_116, e98_118, e98_119, e98_122, e98_125, e98_128, e98_132, e98_135, e98_137, e2_0, e2_1, e2_4, s0, s0_0, s0_1, s0_2, s0_3, s0_4, s0_5, s0_6, s0_7, r0_0, r0_1, r0_2, r0_3, r0_4, r0_5, r0_6, r0_7, s24, s24_0, s24_1, s24_2, s24_3, s24_4, s24_5, s24_6, s24_7, s24_8, r24_0, r24_1, r24_2, r24_3, r24_4, r24_5, r24_6, s25, s26, s27, s28, s29, s30, s31, s32, s33, s34, s35, s50, s50_0, s50_1, s50_2, s50_3, r50_0, r50_1, r50_2, s51, s52, s53, s54, s55, s56, s57, i1, i2, i4, o0, lq, zq, mq, y5.1, sb, mq2, t1', am_bv_s, am_bw_s, eq_self, true_or, or_true, am_b0, am_b1, am_em, if_true, if_false, true_and, and_true, false_and, and_false, not_true_eq_false, not_false_eq_true, false_or, or_false, Bool.false_eq_true]
      rw [e98_131]
      simp only [e98_0, e98_1, e98_4, e98_7, e98_8, e98_11, e98_14, e98_15, e98_16, e98_19, e98_22, e98_24, e98_25, e98_26, e98_29, e98_30, e98_33, e98_36, e98_37, e98_40, e98_41, e98_44, e98_45, e98_46, e98_49, e98_50, e98_53, e98_55, e98_58, e98_60, e98_61, e98_64, e98_67, e98_68, e98_71, e98_73, e98_74, e98_76, e98_77, e98_81, e98_83, e98_86, e98_87, e98_90, e98_91, e98_93, e98_96, e98_98, e98_100, e98_103, e98_106, e98_109, e98_110, e98_113, e98_114, e98_116, e98_118, e98_119, e98_122, e98_125, e98_128, e98_132, e98_135, e98_137, s0, s0_0, s0_1, s0_2, s0_3, s0_4, s0_5, s0_6, s0_7, r0_0, r0_1, r0_2, r0_3, r0_4, r0_5, r0_6, r0_7, r1, am_bv_s, am_bw_s, eq_self, true_or, or_true, am_b0, am_b1, am_em, if_true, if_false, true_and, and_true, false_and, and_false, not_true_eq_false, not_false_eq_true, false_or, or_false, Bool.false_eq_true]
  · rw [if_neg h]
    refine ⟨M, ?_, hx, am_of.rf⟩
    by_cases h1 : 0 ≤ u ∧ u ≤ 3
    · rw [am_bt h1] at i1
      by_cases h2 : 0 ≤ t ∧ t ≤ 3
      · rw [am_bt h2] at i2
        have h4 : ¬ ((0 ≤ tm ∧ tm ≤ 999) ∧ ¬ tm < nI (aLt s.2.2.2.2)) := fun q => h ⟨h1, h2, q⟩
        rw [am_bf h4] at i4
        simp only [e98_0, e98_1, e98_4, e98_7, e98_8, e98_11, e98_14, e98_15, e98_16, e98_19, e98_22, e98_24, e98_25, e98_26, e98_29, e98_30, e98_33, e98_36, e98_37, e98_40, e98_41, e98_44, e98_45, e98_46, e98_49, e98_50, e98_53, e98_55, e98_58, e98_60, e98_61, e98_64, e98_67, e98_68, e98_71, e98_73, e98_74, e98_76, e98_77, e98_79, e98_81, e98_83, e98_86, e98_87, e98_90, e98_91, e98_93, e98_96, e98_98, e98_100, e98_103, e98_106, e98_109, e98_110, e98_113, e98_114, e98_116, e98_118, e98_119, e98_122, e98_125, e98_128, e98_131, e98_132, e98_135, e98_137, s0, s0_0, s0_1, s0_2, s0_3, s0_4, s0_5, s0_6, s0_7, r0_0, r0_1, r0_2, r0_3, r0_4, r0_5, r0_6, r0_7, i1, i2, i4, o0, am_bv_s, am_bw_s, eq_self, true_or, or_true, am_b0, am_b1, am_em, if_true, if_false, true_and, and_true, false_and, and_false, not_true_eq_false, not_false_eq_true, false_or, or_false, Bool.false_eq_true]
      · rw [am_bf h2] at i2
        simp only [e98_0, e98_1, e98_4, e98_7, e98_8, e98_11, e98_14, e98_15, e98_16, e98_19, e98_22, e98_24, e98_25, e98_26, e98_29, e98_30, e98_33, e98_36, e98_37, e98_40, e98_41, e98_44, e98_45, e98_46, e98_49, e98_50, e98_53, e98_55, e98_58, e98_60, e98_61, e98_64, e98_67, e98_68, e98_71, e98_73, e98_74, e98_76, e98_77, e98_79, e98_81, e98_83, e98_86, e98_87, e98_90, e98_91, e98_93, e98_96, e98_98, e98_100, e98_103, e98_106, e98_109, e98_110, e98_113, e98_114, e98_116, e98_118, e98_119, e98_122, e98_125, e98_128, e98_131, e98_132, e98_135, e98_137, s0, s0_0, s0_1, s0_2, s0_3, s0_4, s0_5, s0_6, s0_7, r0_0, r0_1, r0_2, r0_3, r0_4, r0_5, r0_6, r0_7, i1, i2, o0, am_bv_s, am_bw_s, eq_self, true_or, or_true, am_b0, am_b1, am_em, if_true, if_false, true_and, and_true, false_and, and_false, not_true_eq_false, not_false_eq_true, false_or, or_false, Bool.false_eq_true]
    · rw [am_bf h1] at i1
      simp only [e98_0, e98_1, e98_4, e98_7, e98_8, e98_11, e98_14, e98_15, e98_16, e98_19, e98_22, e98_24, e98_25, e98_26, e98_29, e98_30, e98_33, e98_36, e98_37, e98_40, e98_41, e98_44, e98_45, e98_46, e98_49, e98_50, e98_53, e98_55, e98_58, e98_60, e98_61, e98_64, e98_67, e98_68, e98_71, e98_73, e98_74, e98_76, e98_77, e98_79, e98_81, e98_83, e98_86, e98_87, e98_90, e98_91, e98_93, e98_96, e98_98, e98_100, e98_103, e98_106, e98_109, e98_110, e98_113, e98_114, e98_116, e98_118, e98_119, e98_122, e98_125, e98_128, e98_131, e98_132, e98_135, e98_137, i1, am_bv_s, am_bw_s, eq_self, true_or, or_true, am_b0, am_b1, am_em, if_true, if_false, true_and, and_true, false_and, and_false, not_true_eq_false, not_false_eq_true, false_or, or_false, Bool.false_eq_true]
end
