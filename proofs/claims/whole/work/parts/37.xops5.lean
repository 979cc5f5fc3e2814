/-! the class: write, pair, learnt -/
theorem z10 : ((1 : Int32) = 0) = False := eq_false (by decide)
theorem z01 : ((0 : Int32) = 1) = False := eq_false (by decide)
theorem z1m : ((1 : Int32) = -1) = False := eq_false (by decide)
theorem zm1 : ((-1 : Int32) = 1) = False := eq_false (by decide)
theorem z0m : ((0 : Int32) = -1) = False := eq_false (by decide)
theorem zm0 : ((-1 : Int32) = 0) = False := eq_false (by decide)
def hWr (h : sgH) (u n : Nat) (f : Nat → Int32) : sgH := (h.1, h.2.1, h.2.2.1, fun v j => if v = u ∧ j < n then f j else h.2.2.2.1 v j, h.2.2.2.2)
def sp_wr (s : sgm) (t u : Int32) : Int32 × sgm := if (0 ≤ t ∧ t ≤ 3) ∧ (0 ≤ u ∧ u ≤ 3) then (if s.1.1 u.toNatClampNeg = true then (-11, hFd s.1 1, s.2) else (nI (min (s.1.2.2.1 u.toNatClampNeg) (ps s.2.1.1 s.2.2.2.1).2.1), hWr s.1 u.toNatClampNeg (min (s.1.2.2.1 u.toNatClampNeg) (ps s.2.1.1 s.2.2.2.1).2.1) (fun j => sp_cut (nI (s.1.2.1 u.toNatClampNeg)) (sd s.2.2.2.2 s.2.2.2.2.2.2.2.2.2 t.toNatClampNeg j)), s.2)) else (-2, s)
theorem sp_wr_ok {s : sgm} (ho : okm s) (t u : Int32) : okm (sp_wr s t u).2 := by
  unfold sp_wr
  split
  · split
    · exact ⟨ho.1.fd (by decide), ho.2⟩
    · exact ⟨⟨ho.1.1, ho.1.2⟩, ho.2⟩
  · exact ho
section
variable {X : am_X} {S : am_Sh} {M M' : am_Me} {P : Nat → Nat → Prop} {s : sgm}
theorem hWr_0 {h : sgH} {u : Nat} {f : Nat → Int32} (hx : xH h M) : xH (hWr h u 0 f) M := ⟨hx.1, fun t ht => ⟨(hx.2 t ht).1, fun hl => ⟨((hx.2 t ht).2 hl).1, fun i hi => by
  rw [((hx.2 t ht).2 hl).2 i hi]
  show _ = if t = u ∧ i < 0 then _ else _
  rw [if_neg (by omega)]⟩⟩⟩
theorem hWr_s {h : sgH} {u n : Nat} {f : Nat → Int32} (hx : xH (hWr h u n f) M) (hu : u < 4) : xH (hWr h u (n + 1) f) (am_setI M (52 + u) n (f n)) := by
  have q := hx.put (t := u) (i := n) (v := f n) hu
  refine ⟨q.1, fun t ht => ⟨(q.2 t ht).1, fun hl => ⟨((q.2 t ht).2 hl).1, fun i hi => ?_⟩⟩⟩
  rw [((q.2 t ht).2 hl).2 i hi]
  show (if t = u ∧ i = n then f n else if t = u ∧ i < n then f i else _) = if t = u ∧ i < n + 1 then f i else _
  by_cases e : t = u ∧ i = n
  · rw [if_pos e, if_pos (by omega), e.2]
  · rw [if_neg e]
    by_cases e2 : t = u ∧ i < n
    · rw [if_pos e2, if_pos (by omega)]
    · rw [if_neg e2, if_neg (by omega)]
theorem q_rowNow {t : Nat} (ht : t < 4) : am_e X 5 0 [some (.ref (24 : Nat)), some (.int (nI t))] [] kS M = some (some (.ref (30 + t)), kS, M) := by
  have ct : (nI t).toNatClampNeg = t := nI_clamp (by omega)
  simp only [e5_0, e5_1, e5_4, e5_5, e5_6, s24, s24_0, s24_1, s24_2, s24_3, s24_4, s24_5, s24_6, s24_7, s24_8, r24_0, r24_1, r24_2, r24_3, r24_4, r24_5, r24_6, s25, s26, s27, s28, s29, s30, s31, s32, s33, s34, s35, ct, a29 ht, r29 t ht, t29 t ht, am_bv_s, am_bw_s, eq_self, true_or, or_true, am_b0, am_b1, am_em, if_true, if_false, true_and, and_true, false_and, and_false, not_true_eq_false, not_false_eq_true, false_or, or_false, Bool.false_eq_true]
theorem x_write (hx : JX s M) (ho : okm s) (t u : Int32) : ∃ M', am_e X 119 0 [some (.ref (0 : Nat)), some (.int t), some (.int u), none, none, none] [] kS M = some (some (.int (sp_wr s t u).1), kS, M') ∧ JX (sp_wr s t u).2 M' ∧ am_of pX M M' := by
  have y1 := hx.1.1
  have i1 := q_isTaker (X := X) (S := kS) (M := M) t
  have i2 := q_isSheet (X := X) (S := kS) (M := M) u
  unfold sp_wr
  by_cases h : (0 ≤ t ∧ t ≤ 3) ∧ (0 ≤ u ∧ u ≤ 3)
  · rw [if_pos h]
    obtain ⟨h1, h2⟩ := h
    rw [am_bt h1] at i1
    rw [am_bt h2] at i2
    obtain ⟨b, hb, rfl⟩ := in_n (n := 3) h1 (by decide)
    obtain ⟨a, ha, rfl⟩ := in_n (n := 3) h2 (by decide)
    rw [nI_clamp (n := a) (by omega), nI_clamp (n := b) (by omega)]
    have lq := x_lostQ (X := X) y1 ho.1 (show a < 4 by omega)
    by_cases hl : s.1.1 a = true
    · rw [if_pos hl]
      rw [am_bt hl] at lq
      refine ⟨am_setI M 50 3 (nI 1), ?_, hx.setH (y1.fd (k := 1)) (am_of.rf.sI (Or.inl rfl)), am_of.rf.sI (by unfold pX; omega)⟩
      simp only [e119_0, e119_1, e119_4, e119_7, e119_8, e119_11, e119_14, e119_16, e119_17, e119_18, e119_21, e119_22, e119_25, e119_28, e119_29, e119_32, e119_33, e119_36, e119_37, e119_38, e119_41, e119_42, e119_45, e119_46, e119_49, e119_52, e119_55, e119_56, e119_57, e119_60, e119_61, e119_64, e119_66, e119_67, e119_71, e119_72, e119_75, e119_76, e119_79, e119_80, e119_82, e119_84, e119_86, e119_87, e119_90, e119_93, e119_96, e119_97, s0, s0_0, s0_1, s0_2, s0_3, s0_4, s0_5, s0_6, s0_7, r0_0, r0_1, r0_2, r0_3, r0_4, r0_5, r0_6, r0_7, s50, s50_0, s50_1, s50_2, s50_3, r50_0, r50_1, r50_2, s51, s52, s53, s54, s55, s56, s57, i1, i2, z10, z01, z1m, zm1, z0m, zm0, lq, q_refuse, am_bv_s, am_bw_s, eq_self, true_or, or_true, am_b0, am_b1, am_em, if_true, if_false, true_and, and_true, false_and, and_false, not_true_eq_false, not_false_eq_true, false_or, or_false, Bool.false_eq_true]
      rfl
    · rw [if_neg hl]
      rw [am_bf hl] at lq
      have hl' : s.1.1 a = false := by
        cases e : s.1.1 a with
        | true => exact absurd e hl
        | false => rfl
      have hz := (ho.1.2 a (by omega)).2
      have h40 := (ps_le (l := s.2.2.2.1) ho.2.1.1).1
      have zq := q_sizeOf (X := X) (M := M) (show a < 4 by omega)
      rw [(y1.2 a (by omega)).1, if_neg hl] at zq
      have mq := q_min (X := X) (S := kS) (M := M) (a := s.1.2.2.1 a) (b := (ps s.2.1.1 s.2.2.2.1).2.1) (by omega) (by omega)
      have rq := q_rowNow (X := X) (M := M) (t := b) (by omega)
      generalize hn : min (s.1.2.2.1 a) (ps s.2.1.1 s.2.2.2.1).2.1 = n at mq ⊢
      generalize hf : (fun j => sp_cut (nI (s.1.2.1 a)) (sd s.2.2.2.2 s.2.2.2.2.2.2.2.2.2 b j)) = f
      obtain ⟨M', e1, g1, g2⟩ := am_lp (X := X) (S := kS) (mi := 119) (pc := 69) n (fun i => [some (.ref (0 : Nat)), none, some (.int (nI a)), some (.int (nI n)), some (.ref (30 + b)), some (.int (nI i))])
        (fun i M' => xH (hWr s.1 a i f) M' ∧ am_of pxH M M') (M := M) ⟨hWr_0 y1, am_of.rf⟩ (by
          intro j M2 hj hI
          obtain ⟨i1, i2⟩ := hI
          have c1 : (nI j < nI n) = True := eq_true (nI_lt hj (by omega))
          have cj : (nI j).toNatClampNeg = j := nI_clamp (by omega)
          have nq := (hx.1.2.2.2.2.2.1.of i2 (fun a k q => by unfold pxH at q; omega)) b (by omega) j (by omega)
          have pq := q_putItem (X := X) (M := M2) (t := a) (i := j) (v := sd s.2.2.2.2 s.2.2.2.2.2.2.2.2.2 b j) (by omega) (by omega)
          rw [((i1.2 a (by omega)).2 hl').1] at pq
          have fj : sp_cut (nI ((hWr s.1 a j f).2.1 a)) (sd s.2.2.2.2 s.2.2.2.2.2.2.2.2.2 b j) = f j := by rw [← hf]; rfl
          rw [fj] at pq
          refine ⟨am_setI M2 (52 + a) j (f j), ?_, hWr_s i1 (by omega), i2.sI (Or.inr (by omega))⟩
          rw [e119_69]
          simp only [e119_0, e119_1, e119_4, e119_7, e119_8, e119_11, e119_14, e119_16, e119_17, e119_18, e119_21, e119_22, e119_25, e119_28, e119_29, e119_32, e119_33, e119_36, e119_37, e119_38, e119_41, e119_42, e119_45, e119_46, e119_49, e119_52, e119_55, e119_56, e119_57, e119_60, e119_61, e119_64, e119_66, e119_67, e119_71, e119_72, e119_75, e119_76, e119_79, e119_80, e119_82, e119_84, e119_86, e119_87, e119_90, e119_93, e119_96, e119_97, s0, s0_0, s0_1, s0_2, s0_3, s0_4, s0_5, s0_6, s0_7, r0_0, r0_1, r0_2, r0_3, r0_4, r0_5, r0_6, r0_7, s50, s50_0, s50_1, s50_2, s50_3, r50_0, r50_1, r50_2, s51, s52, s53, s54, s55, s56, s57, c1, cj, nq, pq, g29 (show b < 4 by omega) (show j < 40 by omega), nI_1, am_bv_s, am_bw_s, eq_self, true_or, or_true, am_b0, am_b1, am_em, if_true, if_false, true_and, and_true, false_and, and_false, not_true_eq_false, not_false_eq_true, false_or, or_false, Bool.false_eq_true])
      refine ⟨M', ?_, hx.setH g1 g2, g2.mo fun a k q => pxH_X q⟩
      have c1 : (nI n < nI n) = False := eq_false (nI_nlt (Nat.le_refl _) (by omega))
      have e2 : am_e X 119 69 [some (.ref (0 : Nat)), none, some (.int (nI a)), some (.int (nI n)), some (.ref (30 + b)), some (.int (nI n))] [] kS M' = some (some (.int (nI n)), kS, M') := by
        rw [e119_69]
        simp only [e119_0, e119_1, e119_4, e119_7, e119_8, e119_11, e119_14, e119_16, e119_17, e119_18, e119_21, e119_22, e119_25, e119_28, e119_29, e119_32, e119_33, e119_36, e119_37, e119_38, e119_41, e119_42, e119_45, e119_46, e119_49, e119_52, e119_55, e119_56, e119_57, e119_60, e119_61, e119_64, e119_66, e119_67, e119_71, e119_72, e119_75, e119_76, e119_79, e119_80, e119_82, e119_84, e119_86, e119_87, e119_90, e119_93, e119_96, e119_97, c1, am_bv_s, am_bw_s, eq_self, true_or, or_true, am_b0, am_b1, am_em, if_true, if_false, true_and, and_true, false_and, and_false, not_true_eq_false, not_false_eq_true, false_or, or_false, Bool.false_eq_true]
      rw [e2, show (nI 0) = 0 from rfl] at e1
      have w1 := hx.2.1.1
      simp only [e119_0, e119_1, e119_4, e119_7, e119_8, e119_11, e119_14, e119_16, e119_17, e119_18, e119_21, e119_22, e119_25, e119_28, e119_29, e119_32, e119_33, e119_36, e119_37, e119_38, e119_41, e119_42, e119_45, e119_46, e119_49, e119_52, e119_55, e119_56, e119_57, e119_60, e119_61, e119_64, e119_66, e119_67, e119_71, e119_72, e119_75, e119_76, e119_79, e119_80, e119_82, e119_84, e119_86, e119_87, e119_90, e119_93, e119_96, e119_97, e78_0, e78_1, e78_4, s0, s0_0, s0_1, s0_2, s0_3, s0_4, s0_5, s0_6, s0_7, r0_0, r0_1, r0_2, r0_3, r0_4, r0_5, r0_6, r0_7, s21, s21_0, s21_1, s21_2, s21_3, s21_4, r21_0, r21_1, s22, s23, s24, s24_0, s24_1, s24_2, s24_3, s24_4, s24_5, s24_6, s24_7, s24_8, r24_0, r24_1, r24_2, r24_3, r24_4, r24_5, r24_6, s25, s26, s27, s28, s29, s30, s31, s32, s33, s34, s35, s50, s50_0, s50_1, s50_2, s50_3, r50_0, r50_1, r50_2, s51, s52, s53, s54, s55, s56, s57, i1, i2, z10, z01, z1m, zm1, z0m, zm0, lq, zq, w1, mq, rq, am_bv_s, am_bw_s, eq_self, true_or, or_true, am_b0, am_b1, am_em, if_true, if_false, true_and, and_true, false_and, and_false, not_true_eq_false, not_false_eq_true, false_or, or_false, Bool.false_eq_true]
      first | exact e1 | (rw [← e1])
  · rw [if_neg h]
    refine ⟨M, ?_, hx, am_of.rf⟩
    by_cases h1 : 0 ≤ t ∧ t ≤ 3
    · rw [am_bt h1] at i1
      have h2 : ¬ (0 ≤ u ∧ u ≤ 3) := fun q => h ⟨h1, q⟩
      rw [am_bf h2] at i2
      simp only [e119_0, e119_1, e119_4, e119_7, e119_8, e119_11, e119_14, e119_16, e119_17, e119_18, e119_21, e119_22, e119_25, e119_28, e119_29, e119_32, e119_33, e119_36, e119_37, e119_38, e119_41, e119_42, e119_45, e119_46, e119_49, e119_52, e119_55, e119_56, e119_57, e119_60, e119_61, e119_64, e119_66, e119_67, e119_69, e119_71, e119_72, e119_75, e119_76, e119_79, e119_80, e119_82, e119_84, e119_86, e119_87, e119_90, e119_93, e119_96, e119_97, i1, i2, z10, z01, z1m, zm1, z0m, zm0, am_bv_s, am_bw_s, eq_self, true_or, or_true, am_b0, am_b1, am_em, if_true, if_false, true_and, and_true, false_and, and_false, not_true_eq_false, not_false_eq_true, false_or, or_false, Bool.false_eq_true]
    · rw [am_bf h1] at i1
      simp only [e119_0, e119_1, e119_4, e119_7, e119_8, e119_11, e119_14, e119_16, e119_17, e119_18, e119_21, e119_22, e119_25, e119_28, e119_29, e119_32, e119_33, e119_36, e119_37, e119_38, e119_41, e119_42, e119_45, e119_46, e119_49, e119_52, e119_55, e119_56, e119_57, e119_60, e119_61, e119_64, e119_66, e119_67, e119_69, e119_71, e119_72, e119_75, e119_76, e119_79, e119_80, e119_82, e119_84, e119_86, e119_87, e119_90, e119_93, e119_96, e119_97, i1, am_bv_s, am_bw_s, eq_self, true_or, or_true, am_b0, am_b1, am_em, if_true, if_false, true_and, and_true, false_and, and_false, not_true_eq_false, not_false_eq_true, false_or, or_false, Bool.false_eq_true]
/-- words, not false ones, of which one said this and the other that -/
def bth (nb : Nat) (l : sgL) (fa fb : Nat → Int32) (a b : Int32) : Nat := cnt (fun w => (ps nb l).2.2 w ≠ 6 ∧ fa w = a ∧ fb w = b) (ps nb l).2.1
def c1of (c : Nat) : Int32 := if c = 0 ∨ c = 1 then 1 else 0
def c2of (c : Nat) : Int32 := if c = 0 ∨ c = 2 then 1 else 0
theorem q_crossOf {a b : Int32} : am_e X 88 0 [some (.int a), some (.int b)] [] S M = some (some (.int (if a = 1 then (if b = 1 then 0 else 1) else (if b = 1 then 2 else 3))), S, M) := by
  by_cases h1 : a = 1 <;> by_cases h2 : b = 1 <;> simp only [e88_0, e88_1, e88_2, e88_5, e88_6, e88_7, e88_10, e88_11, e88_14, e88_15, e88_16, e88_17, e88_18, e88_21, e88_22, e88_25, e88_26, h1, h2, z10, z01, z1m, zm1, z0m, zm0, am_bv_s, am_bw_s, eq_self, true_or, or_true, am_b0, am_b1, am_em, if_true, if_false, true_and, and_true, false_and, and_false, not_true_eq_false, not_false_eq_true, false_or, or_false, Bool.false_eq_true]
theorem q_countCrossed {nb : Nat} {l : sgL} {ra rb c : Nat} {fa fb : Nat → Int32} (hb : nb ≤ 6) (hw : xW nb l M) (hra : ∀ j, j < 40 → am_ar kS ra 100 (nI j) = true) (hrb : ∀ j, j < 40 → am_ar kS rb 100 (nI j) = true) (va : ∀ j, j < 40 → M.1 ra j = fa j) (vb : ∀ j, j < 40 → M.1 rb j = fb j) (oa : ∀ j, okS (fa j)) (ob : ∀ j, okS (fb j)) (hc : c < 4) :
    am_e X 87 0 [some (.ref (21 : Nat)), some (.ref ra), some (.ref rb), some (.int (nI c)), none, none] [] kS M = some (some (.int (nI (bth nb l fa fb (c1of c) (c2of c)))), kS, M) := by
  have h40 := ps_le (l := l) hb
  obtain ⟨w1, w2, w3⟩ := hw
  obtain ⟨M', e1, g1⟩ := am_lp (X := X) (S := kS) (mi := 87) (pc := 6) (ps nb l).2.1 (fun i => [some (.ref (21 : Nat)), some (.ref ra), some (.ref rb), some (.int (nI c)), some (.int (nI (cnt (fun w => (ps nb l).2.2 w ≠ 6 ∧ fa w = c1of c ∧ fb w = c2of c) i))), some (.int (nI i))])
    (fun i M' => M' = M) (M := M) rfl (by
      intro j M2 hj hI
      subst hI
      refine ⟨M2, ?_, rfl⟩
      have c1 : (nI j < nI (ps nb l).2.1) = True := eq_true (nI_lt hj (by omega))
      have cj : (nI j).toNatClampNeg = j := nI_clamp (by omega)
      have k6 := h40.2 j hj
      have j40 : j < 40 := by omega
      have ck : (nI ((ps nb l).2.2 j) = 6) = ((ps nb l).2.2 j = 6) := propext (nI_eq (b := 6) (by omega) (by decide))
      by_cases e6 : (ps nb l).2.2 j = 6
      · rw [cnt_s0 (fun q => q.1 e6), e87_6]
        simp only [e87_0, e87_1, e87_3, e87_4, e87_8, e87_9, e87_12, e87_15, e87_16, e87_19, e87_21, e87_22, e87_24, e87_27, e87_28, e87_30, e87_31, e87_32, e87_35, e87_36, e87_38, e87_39, e87_40, e87_43, e87_46, e87_47, e87_49, e87_50, e87_51, e87_53, e87_54, e87_57, e87_58, e87_61, e87_64, e87_67, e87_70, e87_72, s21, s21_0, s21_1, s21_2, s21_3, s21_4, r21_0, r21_1, s22, s23, w1, w2 j hj, c1, cj, e6, show (nI 6 = 6) = True from eq_true rfl, a23 j40, nI_1, am_bv_s, am_bw_s, eq_self, true_or, or_true, am_b0, am_b1, am_em, if_true, if_false, true_and, and_true, false_and, and_false, not_true_eq_false, not_false_eq_true, false_or, or_false, Bool.false_eq_true]
      · have x0 : ((0 : Int32) = nI c) = (0 = c) := propext (nI_eq (a := 0) (b := c) (by decide) (by omega))
        have x1 : ((1 : Int32) = nI c) = (1 = c) := propext (nI_eq (a := 1) (b := c) (by decide) (by omega))
        have x2 : ((2 : Int32) = nI c) = (2 = c) := propext (nI_eq (a := 2) (b := c) (by decide) (by omega))
        have x3 : ((3 : Int32) = nI c) = (3 = c) := propext (nI_eq (a := 3) (b := c) (by decide) (by omega))
        have key : ∀ d : Prop, (d ↔ fa j = c1of c ∧ fb j = c2of c) → [Decidable d] → nI (cnt (fun w => (ps nb l).2.2 w ≠ 6 ∧ fa w = c1of c ∧ fb w = c2of c) (j + 1)) = if d then nI (cnt (fun w => (ps nb l).2.2 w ≠ 6 ∧ fa w = c1of c ∧ fb w = c2of c) j + 1) else nI (cnt (fun w => (ps nb l).2.2 w ≠ 6 ∧ fa w = c1of c ∧ fb w = c2of c) j) := fun d hd _ => by
          by_cases e : d
          · rw [if_pos e, cnt_s1 ⟨e6, hd.mp e⟩]
          · rw [if_neg e, cnt_s0 (fun q => e (hd.mpr q.2))]
        have c4 : c = 0 ∨ c = 1 ∨ c = 2 ∨ c = 3 := by omega
        rw [e87_6]
        rcases oa j with e1 | e1 | e1 <;> rcases ob j with e2 | e2 | e2 <;> rcases c4 with rfl | rfl | rfl | rfl <;>
          (first | rw [key False (by rw [e1, e2]; decide)] | rw [key True (by rw [e1, e2]; decide)]) <;>
          simp only [e87_0, e87_1, e87_3, e87_4, e87_8, e87_9, e87_12, e87_15, e87_16, e87_19, e87_21, e87_22, e87_24, e87_27, e87_28, e87_30, e87_31, e87_32, e87_35, e87_36, e87_38, e87_39, e87_40, e87_43, e87_46, e87_47, e87_49, e87_50, e87_51, e87_53, e87_54, e87_57, e87_58, e87_61, e87_64, e87_67, e87_70, e87_72, s21, s21_0, s21_1, s21_2, s21_3, s21_4, r21_0, r21_1, s22, s23, w1, w2 j hj, va j j40, vb j j40, hra j j40, hrb j j40, e1, e2, c1, cj, ck, e6, a23 j40, q_crossOf, nI_1, x0, x1, x2, x3, Nat.reduceEqDiff, z10, z01, z1m, zm1, z0m, zm0, am_bv_s, am_bw_s, eq_self, true_or, or_true, am_b0, am_b1, am_em, if_true, if_false, true_and, and_true, false_and, and_false, not_true_eq_false, not_false_eq_true, false_or, or_false, Bool.false_eq_true])
  subst g1
  have c1 : (nI (ps nb l).2.1 < nI (ps nb l).2.1) = False := eq_false (nI_nlt (Nat.le_refl _) (by omega))
  have e2 : am_e X 87 6 [some (.ref (21 : Nat)), some (.ref ra), some (.ref rb), some (.int (nI c)), some (.int (nI (cnt (fun w => (ps nb l).2.2 w ≠ 6 ∧ fa w = c1of c ∧ fb w = c2of c) (ps nb l).2.1))), some (.int (nI (ps nb l).2.1))] [] kS M' = some (some (.int (nI (bth nb l fa fb (c1of c) (c2of c)))), kS, M') := by
    rw [e87_6]
    simp only [e87_0, e87_1, e87_3, e87_4, e87_8, e87_9, e87_12, e87_15, e87_16, e87_19, e87_21, e87_22, e87_24, e87_27, e87_28, e87_30, e87_31, e87_32, e87_35, e87_36, e87_38, e87_39, e87_40, e87_43, e87_46, e87_47, e87_49, e87_50, e87_51, e87_53, e87_54, e87_57, e87_58, e87_61, e87_64, e87_67, e87_70, e87_72, s21, s21_0, s21_1, s21_2, s21_3, s21_4, r21_0, r21_1, s22, s23, w1, c1, bth, am_bv_s, am_bw_s, eq_self, true_or, or_true, am_b0, am_b1, am_em, if_true, if_false, true_and, and_true, false_and, and_false, not_true_eq_false, not_false_eq_true, false_or, or_false, Bool.false_eq_true]
  rw [e2] at e1
  rw [← e1]
  simp only [e87_0, e87_1, e87_3, e87_4, e87_8, e87_9, e87_12, e87_15, e87_16, e87_19, e87_21, e87_22, e87_24, e87_27, e87_28, e87_30, e87_31, e87_32, e87_35, e87_36, e87_38, e87_39, e87_40, e87_43, e87_46, e87_47, e87_49, e87_50, e87_51, e87_53, e87_54, e87_57, e87_58, e87_61, e87_64, e87_67, e87_70, e87_72, am_bv_s, am_bw_s, eq_self, true_or, or_true, am_b0, am_b1, am_em, if_true, if_false, true_and, and_true, false_and, and_false, not_true_eq_false, not_false_eq_true, false_or, or_false, Bool.false_eq_true]
  rfl
end
