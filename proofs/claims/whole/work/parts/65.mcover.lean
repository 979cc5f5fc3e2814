/-! the reference: covers -/
/-- which bands are learned, as the reference keeps it -/
def mCl (s : sgm) (lr : Nat → Bool) (M : am_Me) : Prop := (M.1 59 27 = 0 ∧ lr = nLr) ∨ ∃ (m : Nat) (me : Nat → Nat), m ≤ 9 ∧ (∀ b, b < 6 → me b ≤ 600) ∧ M.1 59 27 = 1 ∧ M.1 59 28 = nI m ∧ (∀ b, b < 6 → M.1 74 b = nI (me b)) ∧ lr = lrn s m me
theorem qS_sk {t c h : Nat → Nat} {n : Nat} (h1 : c n = 0) (h2 : h n = 1) : qS t c h (n + 1) = qS t c h n := by
  rw [qS, h1, h2, Nat.mul_one, Nat.mul_zero, Nat.zero_mul, Nat.add_zero, Nat.mul_one]
theorem cvQ_6 {s : sgm} {t k : Nat} {lr : Nat → Bool} (hl : ∀ b, s.2.1.1 ≤ b → lr b = false) : ∀ q, s.2.1.1 + q ≤ 6 → cvQ s t lr k (s.2.1.1 + q) = cvQ s t lr k s.2.1.1
  | 0, _ => rfl
  | q + 1, h => by
    have ih := cvQ_6 (t := t) (k := k) hl q (by omega)
    have hf := hl (s.2.1.1 + q) (by omega)
    have ha : sAs s.2.1.1 s.2.2.2.1 s.2.2.2.2 t (s.2.1.1 + q) = 0 := sAs_out (by omega) (by omega)
    rw [← ih]
    unfold cvQ
    rw [← Nat.add_assoc]
    apply qS_sk
    · unfold cvC
      rw [hf, if_neg (by decide)]
      exact tC_out ha
    · unfold cvH
      rw [hf, if_neg (by decide)]
      unfold tH
      rw [ha]
      rfl
theorem mCl.out {s : sgm} {lr : Nat → Bool} {M : am_Me} (h : mCl s lr M) : ∀ b, s.2.1.1 ≤ b → lr b = false := by
  intro b hb
  rcases h with ⟨_, rfl⟩ | ⟨m, me, _, _, _, _, _, rfl⟩
  · rfl
  · unfold lrn
    apply decide_eq_false
    omega
section
variable {X : am_X} {S : am_Sh} {M M' : am_Me} {P : Nat → Nat → Prop} {s : sgm}
theorem mCl.of {lr : Nat → Bool} (hx : mCl s lr M) (ho : am_of P M M') (hP : ∀ a k, P a k → ¬ ((a = 59 ∧ (k = 27 ∨ k = 28)) ∨ a = 74)) : mCl s lr M' := by
  have key : ∀ a k, ((a = 59 ∧ (k = 27 ∨ k = 28)) ∨ a = 74) → M'.1 a k = M.1 a k := fun a k q => (ho a k (fun z => hP a k z q)).1
  rcases hx with ⟨h1, h2⟩ | ⟨m, me, h1, h2, h3, h4, h5, h6⟩
  · exact Or.inl ⟨(key _ _ (by omega)).trans h1, h2⟩
  · exact Or.inr ⟨m, me, h1, h2, (key _ _ (by omega)).trans h3, (key _ _ (by omega)).trans h4, fun b hb => (key _ _ (by omega)).trans (h5 b hb), h6⟩
theorem m_isMet {lr : Nat → Bool} {b : Nat} (hx : JM s M) (ho : okm s) (hc : mCl s lr M) (hb : b < s.2.1.1) : am_e X 188 0 [some (.ref (59 : Nat)), some (.int (nI b))] [] kS M = some (some (.int (am_b (lr b = true))), kS, M) := by
  have d6 := ho.2.1.1
  have dd := hx.2.1
  have c1 : (nI b < nI s.2.1.1) = True := eq_true (nI_lt hb (by omega))
  have cb : (nI b).toNatClampNeg = b := nI_clamp (by omega)
  have o0 : ((1 : Int32) = 0) = False := eq_false (by decide)
  have z0 : ((0 : Int32) = 0) = True := eq_true rfl
  rcases hc with ⟨h1, rfl⟩ | ⟨m, me, h1, h2, h3, h4, h5, rfl⟩
  · rw [am_bf (show ¬ nLr b = true from Bool.false_ne_true)]
    simp only [e188_0, e188_1, e188_4, e188_7, e188_8, e188_9, e188_12, e188_15, e188_16, e188_19, e188_20, e188_21, e188_22, e188_25, e188_26, e188_29, e188_30, e188_31, e188_32, e188_35, e188_36, e188_39, e188_40, s59, s59_0, s59_1, s59_2, s59_3, s59_4, s59_5, s59_6, s59_7, s59_8, s59_9, s59_10, s59_11, s59_12, s59_13, s59_14, s59_15, s59_16, s59_17, s59_18, s59_19, s59_20, s59_21, s59_22, s59_23, s59_24, s59_25, s59_26, s59_27, s59_28, s59_29, s59_30, s59_31, r59_0, r59_1, r59_2, r59_3, r59_6, r59_8, r59_9, r59_13, r59_15, r59_16, r59_17, r59_19, r59_22, r59_23, r59_26, r59_30, r59_31, s60, s61, s62, s63, s64, s65, s66, s67, s68, s69, s70, s71, s72, s73, s74, s75, s76, h1, z0, am_bv_s, am_bw_s, eq_self, true_or, or_true, am_b0, am_b1, am_em, if_true, if_false, true_and, and_true, false_and, and_false, not_true_eq_false, not_false_eq_true, false_or, or_false, Bool.false_eq_true]
  · have s99 := ho.2.1.2 b hb
    have m6 := h2 b (by omega)
    have ml : nI m * nI (s.2.1.2 b) = nI (m * s.2.1.2 b) := pk_mul _ _
    have mb : m * s.2.1.2 b ≤ 9 * 99 := Nat.mul_le_mul h1 s99.2
    have c2 : (nI (me b) < nI (m * s.2.1.2 b)) = (me b < m * s.2.1.2 b) := ok_lt (by omega) (by omega)
    by_cases h : me b < m * s.2.1.2 b
    · have e : lrn s m me b = false := decide_eq_false (fun q => by have := q.2; omega)
      rw [am_bf (by rw [e]; decide)]
      simp only [e188_0, e188_1, e188_4, e188_7, e188_8, e188_9, e188_12, e188_15, e188_16, e188_19, e188_20, e188_21, e188_22, e188_25, e188_26, e188_29, e188_30, e188_31, e188_32, e188_35, e188_36, e188_39, e188_40, s59, s59_0, s59_1, s59_2, s59_3, s59_4, s59_5, s59_6, s59_7, s59_8, s59_9, s59_10, s59_11, s59_12, s59_13, s59_14, s59_15, s59_16, s59_17, s59_18, s59_19, s59_20, s59_21, s59_22, s59_23, s59_24, s59_25, s59_26, s59_27, s59_28, s59_29, s59_30, s59_31, r59_0, r59_1, r59_2, r59_3, r59_6, r59_8, r59_9, r59_13, r59_15, r59_16, r59_17, r59_19, r59_22, r59_23, r59_26, r59_30, r59_31, s60, s61, s62, s63, s64, s65, s66, s67, s68, s69, s70, s71, s72, s73, s74, s75, s76, h3, h4, o0, dd.1, dd.2 b hb, h5 b (by omega), c1, cb, ml, c2, h, a74 (show b < 6 by omega), a64 (show b < 6 by omega), am_bv_s, am_bw_s, eq_self, true_or, or_true, am_b0, am_b1, am_em, if_true, if_false, true_and, and_true, false_and, and_false, not_true_eq_false, not_false_eq_true, false_or, or_false, Bool.false_eq_true]
    · have e : lrn s m me b = true := decide_eq_true ⟨hb, by omega⟩
      rw [am_bt e]
      simp only [e188_0, e188_1, e188_4, e188_7, e188_8, e188_9, e188_12, e188_15, e188_16, e188_19, e188_20, e188_21, e188_22, e188_25, e188_26, e188_29, e188_30, e188_31, e188_32, e188_35, e188_36, e188_39, e188_40, s59, s59_0, s59_1, s59_2, s59_3, s59_4, s59_5, s59_6, s59_7, s59_8, s59_9, s59_10, s59_11, s59_12, s59_13, s59_14, s59_15, s59_16, s59_17, s59_18, s59_19, s59_20, s59_21, s59_22, s59_23, s59_24, s59_25, s59_26, s59_27, s59_28, s59_29, s59_30, s59_31, r59_0, r59_1, r59_2, r59_3, r59_6, r59_8, r59_9, r59_13, r59_15, r59_16, r59_17, r59_19, r59_22, r59_23, r59_26, r59_30, r59_31, s60, s61, s62, s63, s64, s65, s66, s67, s68, s69, s70, s71, s72, s73, s74, s75, s76, h3, h4, o0, dd.1, dd.2 b hb, h5 b (by omega), c1, cb, ml, c2, h, a74 (show b < 6 by omega), a64 (show b < 6 by omega), am_bv_s, am_bw_s, eq_self, true_or, or_true, am_b0, am_b1, am_em, if_true, if_false, true_and, and_true, false_and, and_false, not_true_eq_false, not_false_eq_true, false_or, or_false, Bool.false_eq_true]
theorem m_runningOf {k : Nat} (hx : JM s M) (hk : k < 6) : am_e X 189 0 [some (.ref (59 : Nat)), some (.int (nI k)), none, none] [] kS M = some (some (.int (nI (rAll s k))), kS, M) := by
  obtain ⟨M', e1, g1⟩ := am_lp (X := X) (S := kS) (mi := 189) (pc := 4) 6 (fun i => [some (.ref (59 : Nat)), some (.int (nI k)), some (.int (nI (sm (s.2.2.1.2 k) i))), some (.int (nI i))])
    (fun i M' => M' = M) (M := M) rfl (by
      intro j M2 hj hI
      subst hI
      have c1 : (nI j < 6) = True := eq_true (nI_lt (b := 6) hj (by decide))
      have e6 : (6 : Int32) * nI k + nI j = nI (6 * k + j) := by rw [show (6 : Int32) * nI k = nI (6 * k) from pk_mul 6 k, nI_add]
      have ce : (nI (6 * k + j)).toNatClampNeg = 6 * k + j := nI_clamp (by omega)
      have sa : nI (sm (s.2.2.1.2 k) j) + nI (s.2.2.1.2 k j) = nI (sm (s.2.2.1.2 k) (j + 1)) := nI_add _ _
      refine ⟨M2, ?_, rfl⟩
      rw [e189_4]
      simp only [e189_0, e189_1, e189_2, e189_3, e189_5, e189_7, e189_10, e189_11, e189_12, e189_15, e189_17, e189_18, e189_19, e189_20, e189_21, e189_22, e189_23, e189_24, e189_27, e189_30, e189_31, s59, s59_0, s59_1, s59_2, s59_3, s59_4, s59_5, s59_6, s59_7, s59_8, s59_9, s59_10, s59_11, s59_12, s59_13, s59_14, s59_15, s59_16, s59_17, s59_18, s59_19, s59_20, s59_21, s59_22, s59_23, s59_24, s59_25, s59_26, s59_27, s59_28, s59_29, s59_30, s59_31, r59_0, r59_1, r59_2, r59_3, r59_6, r59_8, r59_9, r59_13, r59_15, r59_16, r59_17, r59_19, r59_22, r59_23, r59_26, r59_30, r59_31, s60, s61, s62, s63, s64, s65, s66, s67, s68, s69, s70, s71, s72, s73, s74, s75, s76, c1, e6, ce, hx.2.2.1.2 k hk j hj, sa, nI_1, a65 (show 6 * k + j < 36 by omega), am_bv_s, am_bw_s, eq_self, true_or, or_true, am_b0, am_b1, am_em, if_true, if_false, true_and, and_true, false_and, and_false, not_true_eq_false, not_false_eq_true, false_or, or_false, Bool.false_eq_true])
  subst g1
  have c6 : (nI 6 < 6) = False := eq_false (by decide)
  have fin : am_e X 189 4 [some (.ref (59 : Nat)), some (.int (nI k)), some (.int (nI (sm (s.2.2.1.2 k) 6))), some (.int (nI 6))] [] kS M' = some (some (.int (nI (rAll s k))), kS, M') := by
    rw [e189_4]
    simp only [e189_0, e189_1, e189_2, e189_3, e189_5, e189_7, e189_10, e189_11, e189_12, e189_15, e189_17, e189_18, e189_19, e189_20, e189_21, e189_22, e189_23, e189_24, e189_27, e189_30, e189_31, c6, am_bv_s, am_bw_s, eq_self, true_or, or_true, am_b0, am_b1, am_em, if_true, if_false, true_and, and_true, false_and, and_false, not_true_eq_false, not_false_eq_true, false_or, or_false, Bool.false_eq_true]
    rfl
  rw [fin, nI_0] at e1
  rw [← e1]
  simp only [e189_0, e189_1, e189_2, e189_3, e189_5, e189_7, e189_10, e189_11, e189_12, e189_15, e189_17, e189_18, e189_19, e189_20, e189_21, e189_22, e189_23, e189_24, e189_27, e189_30, e189_31, am_bv_s, am_bw_s, eq_self, true_or, or_true, am_b0, am_b1, am_em, if_true, if_false, true_and, and_true, false_and, and_false, not_true_eq_false, not_false_eq_true, false_or, or_false, Bool.false_eq_true]
  rfl
theorem m_findCover {t k : Nat} {lr : Nat → Bool} (hx : JM s M) (ho : okm s) (mt : mT s t M) (hc : mCl s lr M) (hk : k < 6) (hD : 0 < gD s.2.1.1 s.2.2.2.1 s.2.2.2.2 t) : ∃ M', am_e X 190 0 [some (.ref (59 : Nat)), some (.int (nI k)), none, none] [] kS M = some (none, kS, M') ∧ mQ ((cvF s t lr k).1, (cvF s t lr k).2 * rAll s k) M' ∧ am_of pmQ M M' := by
  have d6 := ho.2.1.1
  have h40 := fun k => sAs_le d6 (l := s.2.2.2.1) (A := s.2.2.2.2) (t := t) (k := k)
  have d40 : gD s.2.1.1 s.2.2.2.1 s.2.2.2.2 t ≤ 40 := by have := h40 6; unfold gD gG; omega
  generalize hM2 : am_setL (am_setL M 59 24 (lI 0)) 59 25 (lI 1) = M2
  rw [lI_0, lI_1] at hM2
  have of2 : am_of pmQ M M2 := by rw [← hM2]; exact am_of.sL (am_of.sL am_of.rf ⟨rfl, Or.inl rfl⟩) ⟨rfl, Or.inr rfl⟩
  have q2 : mQ (0, 1) M2 := ⟨by rw [← hM2, gL, if_neg (by omega), gL, if_pos ⟨rfl, rfl⟩]; rfl, by rw [← hM2, gL, if_pos ⟨rfl, rfl⟩]; rfl⟩
  have pj : ∀ {Mb : am_Me}, am_of pmQ M Mb → JM s Mb := fun o => hx.of o (fun a k q => by unfold pmQ at q; unfold pR; omega)
  have pt : ∀ {Mb : am_Me}, am_of pmQ M Mb → mT s t Mb := fun o b hb => ⟨((o _ _ (by unfold pmQ; omega)).2).trans (mt b hb).1, ((o _ _ (by unfold pmQ; omega)).2).trans (mt b hb).2⟩
  have pc : ∀ {Mb : am_Me}, am_of pmQ M Mb → mCl s lr Mb := fun o => hc.of o (fun a k q => by unfold pmQ at q; omega)
  have hpos : ∀ n k, k < n → 0 < cvH s t lr k := fun _ _ _ => cv_pos
  obtain ⟨M3, e3, ⟨g3, of3⟩⟩ := am_lp (X := X) (S := kS) (mi := 190) (pc := 12) s.2.1.1 (fun i => [some (.ref (59 : Nat)), some (.int (nI k)), some (.int (nI i)), none])
    (fun i M' => mSm (s.2.2.1.2 k) (cvC s t lr) (cvH s t lr) (gD s.2.1.1 s.2.2.2.1 s.2.2.2.2 t) i M' ∧ am_of pmQ M M') (M := M2) ⟨mSm.st q2, of2⟩ (by
      intro j M4 hj hI
      obtain ⟨i1, i2⟩ := hI
      have j4 := pj i2
      have dd := j4.2.1
      have c1 : (nI j < nI s.2.1.1) = True := eq_true (nI_lt hj (by omega))
      have cj : (nI j).toNatClampNeg = j := nI_clamp (by omega)
      have e6 : (6 : Int32) * nI k + nI j = nI (6 * k + j) := by rw [show (6 : Int32) * nI k = nI (6 * k) from pk_mul 6 k, nI_add]
      have ce : (nI (6 * k + j)).toNatClampNeg = 6 * k + j := nI_clamp (by omega)
      have rr := j4.2.2.1.2 k hk j (by omega)
      have v99 := ho.2.2.1.2 k hk j (by omega)
      have lw := lI_w (n := s.2.2.1.2 k j) (by omega)
      obtain ⟨u1, u2⟩ := pt i2 j (by omega)
      have im := m_isMet (X := X) j4 ho (pc i2) hj
      have dl := cv_den ho (t := t) (k := k) (lr := lr) (n := j) (by omega)
      unfold cvQ at dl
      by_cases hl : lr j = true
      · rw [am_bt hl] at im
        have ec : cvC s t lr j = gD s.2.1.1 s.2.2.2.1 s.2.2.2.2 t := by unfold cvC; rw [if_pos hl]
        have eh : cvH s t lr j = 1 := by unfold cvH; rw [if_pos hl]
        obtain ⟨M5, b1, b2, b3⟩ := i1.ad (X := X) (a := s.2.2.1.2 k j) (b := 1) hD (hpos j) (by omega) (by decide) (by decide) (by rw [ec, eh]; ac_rfl) ⟨_, (Nat.one_mul _).symm⟩
        refine ⟨M5, ?_, b2, i2.tr b3⟩
        rw [lI_1] at b1
        rw [e190_12]
        simp only [e190_0, e190_1, e190_2, e190_5, e190_6, e190_7, e190_10, e190_11, e190_13, e190_14, e190_17, e190_20, e190_21, e190_24, e190_26, e190_27, e190_28, e190_29, e190_30, e190_31, e190_32, e190_33, e190_34, e190_37, e190_40, e190_41, e190_42, e190_43, e190_44, e190_47, e190_50, e190_51, e190_54, e190_55, e190_56, e190_57, e190_58, e190_61, e190_62, e190_63, e190_66, e190_67, e190_68, e190_69, e190_70, e190_71, e190_72, e190_75, e190_76, e190_77, e190_80, e190_83, e190_86, e190_87, e190_90, e190_91, e190_94, e190_97, e190_98, e190_99, e190_100, e190_103, e190_104, e190_105, e190_108, e190_109, e190_110, e190_113, e190_114, e190_115, e190_116, e190_117, e190_120, e190_121, e190_122, e190_125, s59, s59_0, s59_1, s59_2, s59_3, s59_4, s59_5, s59_6, s59_7, s59_8, s59_9, s59_10, s59_11, s59_12, s59_13, s59_14, s59_15, s59_16, s59_17, s59_18, s59_19, s59_20, s59_21, s59_22, s59_23, s59_24, s59_25, s59_26, s59_27, s59_28, s59_29, s59_30, s59_31, r59_0, r59_1, r59_2, r59_3, r59_6, r59_8, r59_9, r59_13, r59_15, r59_16, r59_17, r59_19, r59_22, r59_23, r59_26, r59_30, r59_31, s60, s61, s62, s63, s64, s65, s66, s67, s68, s69, s70, s71, s72, s73, s74, s75, s76, dd.1, c1, cj, e6, ce, rr, im, z10, z01, z1m, zm1, z0m, zm0, lw, b1, nI_1, a65 (show 6 * k + j < 36 by omega), am_bv_s, am_bw_s, eq_self, true_or, or_true, am_b0, am_b1, am_em, if_true, if_false, true_and, and_true, false_and, and_false, not_true_eq_false, not_false_eq_true, false_or, or_false, Bool.false_eq_true]
      · rw [am_bf hl] at im
        have ec : cvC s t lr j = tC s.2.1.1 s.2.2.2.1 s.2.2.2.2 t j := by unfold cvC; rw [if_neg hl]
        have eh : cvH s t lr j = tH s.2.1.1 s.2.2.2.1 s.2.2.2.2 t j := by unfold cvH; rw [if_neg hl]
        have q1 : sAs s.2.1.1 s.2.2.2.1 s.2.2.2.2 t j * gD s.2.1.1 s.2.2.2.1 s.2.2.2.2 t ≤ 40 * 40 := Nat.mul_le_mul (h40 j) d40
        have c2 : (0 < lI (sAs s.2.1.1 s.2.2.2.1 s.2.2.2.2 t j * gD s.2.1.1 s.2.2.2.1 s.2.2.2.2 t)) = (0 < sAs s.2.1.1 s.2.2.2.1 s.2.2.2.2 t j * gD s.2.1.1 s.2.2.2.1 s.2.2.2.2 t) := by rw [← lI_0]; exact lI_lt (by decide) (by omega)
        by_cases h0 : sAs s.2.1.1 s.2.2.2.1 s.2.2.2.2 t j = 0
        · have c3 : (0 < sAs s.2.1.1 s.2.2.2.1 s.2.2.2.2 t j * gD s.2.1.1 s.2.2.2.1 s.2.2.2.2 t) = False := eq_false (by rw [h0, Nat.zero_mul]; omega)
          refine ⟨M4, ?_, i1.sk (by rw [ec]; exact tC_out h0), i2⟩
          rw [e190_12]
          simp only [e190_0, e190_1, e190_2, e190_5, e190_6, e190_7, e190_10, e190_11, e190_13, e190_14, e190_17, e190_20, e190_21, e190_24, e190_26, e190_27, e190_28, e190_29, e190_30, e190_31, e190_32, e190_33, e190_34, e190_37, e190_40, e190_41, e190_42, e190_43, e190_44, e190_47, e190_50, e190_51, e190_54, e190_55, e190_56, e190_57, e190_58, e190_61, e190_62, e190_63, e190_66, e190_67, e190_68, e190_69, e190_70, e190_71, e190_72, e190_75, e190_76, e190_77, e190_80, e190_83, e190_86, e190_87, e190_90, e190_91, e190_94, e190_97, e190_98, e190_99, e190_100, e190_103, e190_104, e190_105, e190_108, e190_109, e190_110, e190_113, e190_114, e190_115, e190_116, e190_117, e190_120, e190_121, e190_122, e190_125, s59, s59_0, s59_1, s59_2, s59_3, s59_4, s59_5, s59_6, s59_7, s59_8, s59_9, s59_10, s59_11, s59_12, s59_13, s59_14, s59_15, s59_16, s59_17, s59_18, s59_19, s59_20, s59_21, s59_22, s59_23, s59_24, s59_25, s59_26, s59_27, s59_28, s59_29, s59_30, s59_31, r59_0, r59_1, r59_2, r59_3, r59_6, r59_8, r59_9, r59_13, r59_15, r59_16, r59_17, r59_19, r59_22, r59_23, r59_26, r59_30, r59_31, s60, s61, s62, s63, s64, s65, s66, s67, s68, s69, s70, s71, s72, s73, s74, s75, s76, dd.1, c1, cj, e6, ce, rr, im, z10, z01, z1m, zm1, z0m, zm0, u1, u2, lc_gt, c2, c3, nI_1, a65 (show 6 * k + j < 36 by omega), a73 (show j < 6 by omega), am_bv_s, am_bw_s, eq_self, true_or, or_true, am_b0, am_b1, am_em, if_true, if_false, true_and, and_true, false_and, and_false, not_true_eq_false, not_false_eq_true, false_or, or_false, Bool.false_eq_true]
        · have c3 : (0 < sAs s.2.1.1 s.2.2.2.1 s.2.2.2.2 t j * gD s.2.1.1 s.2.2.2.1 s.2.2.2.2 t) = True := eq_true (Nat.mul_pos (by omega) hD)
          have e3 : tH s.2.1.1 s.2.2.2.1 s.2.2.2.2 t j = sAs s.2.1.1 s.2.2.2.1 s.2.2.2.2 t j := Nat.max_eq_right (by omega)
          obtain ⟨M5, b1, b2, b3⟩ := i1.ad (X := X) (a := tC s.2.1.1 s.2.2.2.1 s.2.2.2.2 t j * s.2.2.1.2 k j) (b := sAs s.2.1.1 s.2.2.2.1 s.2.2.2.2 t j * gD s.2.1.1 s.2.2.2.1 s.2.2.2.2 t) hD (hpos j) (by omega) (by omega) (Nat.mul_pos (by omega) hD) (by rw [ec, eh, e3]; ac_rfl) (by rw [eh, e3]; exact Nat.dvd_refl _)
          refine ⟨M5, ?_, b2, i2.tr b3⟩
          rw [e190_12]
          simp only [e190_0, e190_1, e190_2, e190_5, e190_6, e190_7, e190_10, e190_11, e190_13, e190_14, e190_17, e190_20, e190_21, e190_24, e190_26, e190_27, e190_28, e190_29, e190_30, e190_31, e190_32, e190_33, e190_34, e190_37, e190_40, e190_41, e190_42, e190_43, e190_44, e190_47, e190_50, e190_51, e190_54, e190_55, e190_56, e190_57, e190_58, e190_61, e190_62, e190_63, e190_66, e190_67, e190_68, e190_69, e190_70, e190_71, e190_72, e190_75, e190_76, e190_77, e190_80, e190_83, e190_86, e190_87, e190_90, e190_91, e190_94, e190_97, e190_98, e190_99, e190_100, e190_103, e190_104, e190_105, e190_108, e190_109, e190_110, e190_113, e190_114, e190_115, e190_116, e190_117, e190_120, e190_121, e190_122, e190_125, s59, s59_0, s59_1, s59_2, s59_3, s59_4, s59_5, s59_6, s59_7, s59_8, s59_9, s59_10, s59_11, s59_12, s59_13, s59_14, s59_15, s59_16, s59_17, s59_18, s59_19, s59_20, s59_21, s59_22, s59_23, s59_24, s59_25, s59_26, s59_27, s59_28, s59_29, s59_30, s59_31, r59_0, r59_1, r59_2, r59_3, r59_6, r59_8, r59_9, r59_13, r59_15, r59_16, r59_17, r59_19, r59_22, r59_23, r59_26, r59_30, r59_31, s60, s61, s62, s63, s64, s65, s66, s67, s68, s69, s70, s71, s72, s73, s74, s75, s76, dd.1, c1, cj, e6, ce, rr, im, z10, z01, z1m, zm1, z0m, zm0, u1, u2, lc_gt, c2, c3, lw, lI_mul, b1, nI_1, a65 (show 6 * k + j < 36 by omega), a72 (show j < 6 by omega), a73 (show j < 6 by omega), am_bv_s, am_bw_s, eq_self, true_or, or_true, am_b0, am_b1, am_em, if_true, if_false, true_and, and_true, false_and, and_false, not_true_eq_false, not_false_eq_true, false_or, or_false, Bool.false_eq_true])
  have j3 := pj of3
  have dd := j3.2.1.1
  have cn : (nI s.2.1.1 < nI s.2.1.1) = False := eq_false (nI_nlt (Nat.le_refl _) (by omega))
  obtain ⟨p, p1, p2, p3, p4, p5⟩ := g3.fr hD (hpos s.2.1.1)
  have e6 := cvQ_6 (t := t) (k := k) hc.out (6 - s.2.1.1) (by omega)
  rw [show s.2.1.1 + (6 - s.2.1.1) = 6 by omega] at e6
  have ef : fr p.1 p.2 = cvF s t lr k := by
    unfold cvF
    rw [e6]
    exact p4
  have dl := cv_den ho (t := t) (k := k) (lr := lr) (n := s.2.1.1) d6
  unfold cvQ at dl
  have hN := qS_le (t := s.2.2.1.2 k) (c := cvC s t lr) (h := cvH s t lr) (D := gD s.2.1.1 s.2.2.2.1 s.2.2.2.2 t) s.2.1.1 (fun b hb => ⟨cv_le, ho.2.2.1.2 k hk b (by omega)⟩)
  have hN2 := Nat.le_trans hN (Nat.mul_le_mul_right _ (show 99 * s.2.1.1 ≤ 594 by omega))
  have p6 := sm_bd (Nat.mul_pos hD (qS_pos s.2.1.1 (hpos s.2.1.1))) p5 hN2
  have gp : 0 < Nat.gcd p.1 p.2 := Nat.gcd_pos_of_pos_right p.1 p2
  have gl : Nat.gcd p.1 p.2 ≤ p.2 := Nat.le_of_dvd p2 (Nat.gcd_dvd_right p.1 p.2)
  have dv := m_divisor (X := X) (S := kS) (M := M3) (a := p.1) (b := p.2) (by omega) (by omega)
  have cg : (lI (Nat.gcd p.1 p.2) = 0) = False := by rw [lI_0e (by omega)]; exact eq_false (by omega)
  have d1 : lI p.1 / lI (Nat.gcd p.1 p.2) = lI (cvF s t lr k).1 := by rw [← ef]; exact lI_div (by omega) (by omega)
  have d2 : lI p.2 / lI (Nat.gcd p.1 p.2) = lI (cvF s t lr k).2 := by rw [← ef]; exact lI_div (by omega) (by omega)
  generalize hM4 : am_setL M3 59 24 (lI (cvF s t lr k).1) = M4
  have of4 : am_of pmQ M3 M4 := by rw [← hM4]; exact am_of.sL am_of.rf ⟨rfl, Or.inl rfl⟩
  have s4 : M4.2 59 25 = lI p.2 := by rw [← hM4, gL, if_neg (by omega)]; exact p1.2
  have ro := m_runningOf (X := X) (pj (of3.tr of4)) hk
  have lr2 := lI_w (n := rAll s k) (by have := rAll_le ho hk; omega)
  refine ⟨am_setL M4 59 25 (lI ((cvF s t lr k).2 * rAll s k)), ?_, ⟨by rw [gL, if_neg (by omega), ← hM4, gL, if_pos ⟨rfl, rfl⟩], by rw [gL, if_pos ⟨rfl, rfl⟩]⟩, (of3.tr of4).tr (am_of.sL am_of.rf ⟨rfl, Or.inr rfl⟩)⟩
  have fin : am_e X 190 12 [some (.ref (59 : Nat)), some (.int (nI k)), some (.int (nI s.2.1.1)), none] [] kS M3 = some (none, kS, am_setL M4 59 25 (lI ((cvF s t lr k).2 * rAll s k))) := by
    rw [e190_12]
    simp only [e190_0, e190_1, e190_2, e190_5, e190_6, e190_7, e190_10, e190_11, e190_13, e190_14, e190_17, e190_20, e190_21, e190_24, e190_26, e190_27, e190_28, e190_29, e190_30, e190_31, e190_32, e190_33, e190_34, e190_37, e190_40, e190_41, e190_42, e190_43, e190_44, e190_47, e190_50, e190_51, e190_54, e190_55, e190_56, e190_57, e190_58, e190_61, e190_62, e190_63, e190_66, e190_67, e190_68, e190_69, e190_70, e190_71, e190_72, e190_75, e190_76, e190_77, e190_80, e190_83, e190_86, e190_87, e190_90, e190_91, e190_94, e190_97, e190_98, e190_99, e190_100, e190_103, e190_104, e190_105, e190_108, e190_109, e190_110, e190_113, e190_114, e190_115, e190_116, e190_117, e190_120, e190_121, e190_122, e190_125, s59, s59_0, s59_1, s59_2, s59_3, s59_4, s59_5, s59_6, s59_7, s59_8, s59_9, s59_10, s59_11, s59_12, s59_13, s59_14, s59_15, s59_16, s59_17, s59_18, s59_19, s59_20, s59_21, s59_22, s59_23, s59_24, s59_25, s59_26, s59_27, s59_28, s59_29, s59_30, s59_31, r59_0, r59_1, r59_2, r59_3, r59_6, r59_8, r59_9, r59_13, r59_15, r59_16, r59_17, r59_19, r59_22, r59_23, r59_26, r59_30, r59_31, s60, s61, s62, s63, s64, s65, s66, s67, s68, s69, s70, s71, s72, s73, s74, s75, s76, dd, cn, p1.1, p1.2, dv, cg, d1, hM4, s4, d2, ro, lr2, lI_mul, am_bv_s, am_bw_s, eq_self, true_or, or_true, am_b0, am_b1, am_em, if_true, if_false, true_and, and_true, false_and, and_false, not_true_eq_false, not_false_eq_true, false_or, or_false, Bool.false_eq_true]
  rw [fin, nI_0] at e3
  rw [← e3]
  simp only [e190_0, e190_1, e190_2, e190_5, e190_6, e190_7, e190_10, e190_11, e190_13, e190_14, e190_17, e190_20, e190_21, e190_24, e190_26, e190_27, e190_28, e190_29, e190_30, e190_31, e190_32, e190_33, e190_34, e190_37, e190_40, e190_41, e190_42, e190_43, e190_44, e190_47, e190_50, e190_51, e190_54, e190_55, e190_56, e190_57, e190_58, e190_61, e190_62, e190_63, e190_66, e190_67, e190_68, e190_69, e190_70, e190_71, e190_72, e190_75, e190_76, e190_77, e190_80, e190_83, e190_86, e190_87, e190_90, e190_91, e190_94, e190_97, e190_98, e190_99, e190_100, e190_103, e190_104, e190_105, e190_108, e190_109, e190_110, e190_113, e190_114, e190_115, e190_116, e190_117, e190_120, e190_121, e190_122, e190_125, s59, s59_0, s59_1, s59_2, s59_3, s59_4, s59_5, s59_6, s59_7, s59_8, s59_9, s59_10, s59_11, s59_12, s59_13, s59_14, s59_15, s59_16, s59_17, s59_18, s59_19, s59_20, s59_21, s59_22, s59_23, s59_24, s59_25, s59_26, s59_27, s59_28, s59_29, s59_30, s59_31, r59_0, r59_1, r59_2, r59_3, r59_6, r59_8, r59_9, r59_13, r59_15, r59_16, r59_17, r59_19, r59_22, r59_23, r59_26, r59_30, r59_31, s60, s61, s62, s63, s64, s65, s66, s67, s68, s69, s70, s71, s72, s73, s74, s75, s76, hM2, am_bv_s, am_bw_s, eq_self, true_or, or_true, am_b0, am_b1, am_em, if_true, if_false, true_and, and_true, false_and, and_false, not_true_eq_false, not_false_eq_true, false_or, or_false, Bool.false_eq_true]
theorem m_coverOf {t k : Nat} (hx : JM s M) (ho : okm s) (ht : t < 4) (hk : k < 6) (v : Int32) : ∃ M', am_e X 191 0 [some (.ref (59 : Nat)), some (.int (nI t)), some (.int (nI k)), some (.int v)] [] kS M = some (some (.long (if rAll s k = 0 ∨ gD s.2.1.1 s.2.2.2.1 s.2.2.2.2 t = 0 then nol (-3) else fp (cvP s t nLr k) v)), kS, M') ∧ JM s M' ∧ am_of (fun a k => pmT a k ∨ pmQ a k ∨ (a = 59 ∧ k = 27)) M M' := by
  generalize hM1 : am_setI M 59 27 0 = M1
  have of1 : am_of (fun a k => a = 59 ∧ k = 27) M M1 := by rw [← hM1]; exact am_of.rf.sI ⟨rfl, rfl⟩
  have j1 : JM s M1 := hx.of of1 (fun a k q => by unfold pR; omega)
  have cl1 : M1.1 59 27 = 0 := by rw [← hM1, gI, if_pos ⟨rfl, rfl⟩]
  obtain ⟨M2, r2, j2, mt, mf, of2⟩ := m_findTrue (X := X) j1 ho ht
  have cl2 : mCl s nLr M2 := Or.inl ⟨by rw [(of2 _ _ (by unfold pmT pmS pmW; omega)).1]; exact cl1, rfl⟩
  have ofa : am_of (fun a k => pmT a k ∨ pmQ a k ∨ (a = 59 ∧ k = 27)) M M2 := (of1.mo fun a k q => Or.inr (Or.inr q)).tr (of2.mo fun a k q => Or.inl q)
  have ro := m_runningOf (X := X) j2.1 hk
  have ra := rAll_le ho hk
  have c0 : (nI (rAll s k) = 0) = (rAll s k = 0) := nI_0e (by omega)
  by_cases h7 : gD s.2.1.1 s.2.2.2.1 s.2.2.2.2 t = 0
  · rw [if_pos (Or.inr h7)]
    rw [am_bf (fun q => q h7)] at r2
    refine ⟨M2, ?_, j2.1, ofa⟩
    simp only [e191_0, e191_1, e191_2, e191_5, e191_6, e191_7, e191_10, e191_13, e191_14, e191_15, e191_18, e191_21, e191_23, e191_26, e191_27, e191_28, e191_29, e191_32, e191_33, e191_36, e191_37, e191_40, e191_41, e191_44, s59, s59_0, s59_1, s59_2, s59_3, s59_4, s59_5, s59_6, s59_7, s59_8, s59_9, s59_10, s59_11, s59_12, s59_13, s59_14, s59_15, s59_16, s59_17, s59_18, s59_19, s59_20, s59_21, s59_22, s59_23, s59_24, s59_25, s59_26, s59_27, s59_28, s59_29, s59_30, s59_31, r59_0, r59_1, r59_2, r59_3, r59_6, r59_8, r59_9, r59_13, r59_15, r59_16, r59_17, r59_19, r59_22, r59_23, r59_26, r59_30, r59_31, s60, s61, s62, s63, s64, s65, s66, s67, s68, s69, s70, s71, s72, s73, s74, s75, s76, am_z01, hM1, r2, z10, z01, z1m, zm1, z0m, zm0, m_no2, am_bv_s, am_bw_s, eq_self, true_or, or_true, am_b0, am_b1, am_em, if_true, if_false, true_and, and_true, false_and, and_false, not_true_eq_false, not_false_eq_true, false_or, or_false, Bool.false_eq_true]
  · have hn : ¬ gD s.2.1.1 s.2.2.2.1 s.2.2.2.2 t = 0 := h7
    rw [am_bt hn] at r2
    by_cases h0 : rAll s k = 0
    · rw [if_pos (Or.inl h0)]
      refine ⟨M2, ?_, j2.1, ofa⟩
      simp only [e191_0, e191_1, e191_2, e191_5, e191_6, e191_7, e191_10, e191_13, e191_14, e191_15, e191_18, e191_21, e191_23, e191_26, e191_27, e191_28, e191_29, e191_32, e191_33, e191_36, e191_37, e191_40, e191_41, e191_44, s59, s59_0, s59_1, s59_2, s59_3, s59_4, s59_5, s59_6, s59_7, s59_8, s59_9, s59_10, s59_11, s59_12, s59_13, s59_14, s59_15, s59_16, s59_17, s59_18, s59_19, s59_20, s59_21, s59_22, s59_23, s59_24, s59_25, s59_26, s59_27, s59_28, s59_29, s59_30, s59_31, r59_0, r59_1, r59_2, r59_3, r59_6, r59_8, r59_9, r59_13, r59_15, r59_16, r59_17, r59_19, r59_22, r59_23, r59_26, r59_30, r59_31, s60, s61, s62, s63, s64, s65, s66, s67, s68, s69, s70, s71, s72, s73, s74, s75, s76, am_z01, hM1, r2, z10, z01, z1m, zm1, z0m, zm0, ro, h0, (eq_true rfl : (nI 0 = 0) = True), m_no2, am_bv_s, am_bw_s, eq_self, true_or, or_true, am_b0, am_b1, am_em, if_true, if_false, true_and, and_true, false_and, and_false, not_true_eq_false, not_false_eq_true, false_or, or_false, Bool.false_eq_true]
    · rw [if_neg (by omega)]
      have hD : 0 < gD s.2.1.1 s.2.2.2.1 s.2.2.2.2 t := by omega
      obtain ⟨M3, r3, q3, of3⟩ := m_findCover (X := X) j2.1 ho mt cl2 hk hD
      obtain ⟨z1, z2⟩ := cvF_bd ho (lr := nLr) hk hD
      have z3 : (cvF s t nLr k).2 * rAll s k ≤ 2300000 * 594 := Nat.mul_le_mul (by omega) ra
      have pp := m_part2 (X := X) (S := kS) (M := M3) (a := (cvF s t nLr k).1) (b := (cvF s t nLr k).2 * rAll s k) (w := v) (by omega) (by omega) (Nat.mul_pos (cvF_pos hD) (by omega))
      refine ⟨M3, ?_, j2.1.of of3 (fun a k q => by unfold pmQ at q; unfold pR; omega), ofa.tr (of3.mo fun a k q => Or.inr (Or.inl q))⟩
      simp only [e191_0, e191_1, e191_2, e191_5, e191_6, e191_7, e191_10, e191_13, e191_14, e191_15, e191_18, e191_21, e191_23, e191_26, e191_27, e191_28, e191_29, e191_32, e191_33, e191_36, e191_37, e191_40, e191_41, e191_44, s59, s59_0, s59_1, s59_2, s59_3, s59_4, s59_5, s59_6, s59_7, s59_8, s59_9, s59_10, s59_11, s59_12, s59_13, s59_14, s59_15, s59_16, s59_17, s59_18, s59_19, s59_20, s59_21, s59_22, s59_23, s59_24, s59_25, s59_26, s59_27, s59_28, s59_29, s59_30, s59_31, r59_0, r59_1, r59_2, r59_3, r59_6, r59_8, r59_9, r59_13, r59_15, r59_16, r59_17, r59_19, r59_22, r59_23, r59_26, r59_30, r59_31, s60, s61, s62, s63, s64, s65, s66, s67, s68, s69, s70, s71, s72, s73, s74, s75, s76, am_z01, hM1, r2, z10, z01, z1m, zm1, z0m, zm0, ro, c0, h0, r3, q3.1, q3.2, pp, cvP, am_bv_s, am_bw_s, eq_self, true_or, or_true, am_b0, am_b1, am_em, if_true, if_false, true_and, and_true, false_and, and_false, not_true_eq_false, not_false_eq_true, false_or, or_false, Bool.false_eq_true]
theorem m_cover (hx : JM s M) (ho : okm s) (t k v : Int32) : ∃ M', am_e X 192 0 [some (.ref (59 : Nat)), some (.int t), some (.int k), some (.int v)] [] kS M = some (some (.long (sp_cover s t k v)), kS, M') ∧ JM s M' ∧ am_of pM M M' := by
  have i1 := m_isTaker (X := X) (S := kS) (M := M) t
  have i2 := m_isBook (X := X) (M := M) hx.2.2.1 k
  have i3 := m_isTwo (X := X) (S := kS) (M := M) v
  have b6 := ho.2.2.1.1
  unfold sp_cover
  by_cases h1 : 0 ≤ t ∧ t ≤ 3
  · rw [am_bt h1] at i1
    by_cases h2 : 0 ≤ k ∧ k ≤ nI s.2.2.1.1 - 1
    · rw [am_bt h2] at i2
      by_cases h3 : 0 ≤ v ∧ v ≤ 1
      · rw [am_bt h3] at i3
        rw [if_pos ⟨h1, h2, h3⟩]
        obtain ⟨tn, htn, rfl⟩ := in_n (n := 3) h1 (by decide)
        obtain ⟨kn, hkn, rfl⟩ := (pred_le (by omega)).mp h2
        rw [nI_clamp (n := tn) (by omega), nI_clamp (n := kn) (by omega)]
        obtain ⟨M', r1, r2, r3⟩ := m_coverOf (X := X) hx ho (show tn < 4 by omega) (show kn < 6 by omega) v
        refine ⟨M', ?_, r2, r3.mo fun a k q => ?_⟩
        · simp only [e192_0, e192_1, e192_4, e192_7, e192_8, e192_9, e192_12, e192_15, e192_16, e192_19, e192_22, e192_23, e192_24, e192_25, e192_26, e192_29, e192_32, e192_34, e192_37, s59, s59_0, s59_1, s59_2, s59_3, s59_4, s59_5, s59_6, s59_7, s59_8, s59_9, s59_10, s59_11, s59_12, s59_13, s59_14, s59_15, s59_16, s59_17, s59_18, s59_19, s59_20, s59_21, s59_22, s59_23, s59_24, s59_25, s59_26, s59_27, s59_28, s59_29, s59_30, s59_31, r59_0, r59_1, r59_2, r59_3, r59_6, r59_8, r59_9, r59_13, r59_15, r59_16, r59_17, r59_19, r59_22, r59_23, r59_26, r59_30, r59_31, s60, s61, s62, s63, s64, s65, s66, s67, s68, s69, s70, s71, s72, s73, s74, s75, s76, i1, i2, i3, z10, z01, z1m, zm1, z0m, zm0, r1, am_bv_s, am_bw_s, eq_self, true_or, or_true, am_b0, am_b1, am_em, if_true, if_false, true_and, and_true, false_and, and_false, not_true_eq_false, not_false_eq_true, false_or, or_false, Bool.false_eq_true]
        · rcases q with q | q | q
          · exact pmT_M q
          · unfold pmQ at q; unfold pM; omega
          · unfold pM; omega
      · rw [am_bf h3] at i3
        rw [if_neg (fun q => h3 q.2.2)]
        refine ⟨M, ?_, hx, am_of.rf⟩
        simp only [e192_0, e192_1, e192_4, e192_7, e192_8, e192_9, e192_12, e192_15, e192_16, e192_19, e192_22, e192_23, e192_24, e192_25, e192_26, e192_29, e192_32, e192_34, e192_37, s59, s59_0, s59_1, s59_2, s59_3, s59_4, s59_5, s59_6, s59_7, s59_8, s59_9, s59_10, s59_11, s59_12, s59_13, s59_14, s59_15, s59_16, s59_17, s59_18, s59_19, s59_20, s59_21, s59_22, s59_23, s59_24, s59_25, s59_26, s59_27, s59_28, s59_29, s59_30, s59_31, r59_0, r59_1, r59_2, r59_3, r59_6, r59_8, r59_9, r59_13, r59_15, r59_16, r59_17, r59_19, r59_22, r59_23, r59_26, r59_30, r59_31, s60, s61, s62, s63, s64, s65, s66, s67, s68, s69, s70, s71, s72, s73, s74, s75, s76, i1, i2, i3, z10, z01, z1m, zm1, z0m, zm0, m_no2, am_bv_s, am_bw_s, eq_self, true_or, or_true, am_b0, am_b1, am_em, if_true, if_false, true_and, and_true, false_and, and_false, not_true_eq_false, not_false_eq_true, false_or, or_false, Bool.false_eq_true]
    · rw [am_bf h2] at i2
      rw [if_neg (fun q => h2 q.2.1)]
      refine ⟨M, ?_, hx, am_of.rf⟩
      simp only [e192_0, e192_1, e192_4, e192_7, e192_8, e192_9, e192_12, e192_15, e192_16, e192_19, e192_22, e192_23, e192_24, e192_25, e192_26, e192_29, e192_32, e192_34, e192_37, s59, s59_0, s59_1, s59_2, s59_3, s59_4, s59_5, s59_6, s59_7, s59_8, s59_9, s59_10, s59_11, s59_12, s59_13, s59_14, s59_15, s59_16, s59_17, s59_18, s59_19, s59_20, s59_21, s59_22, s59_23, s59_24, s59_25, s59_26, s59_27, s59_28, s59_29, s59_30, s59_31, r59_0, r59_1, r59_2, r59_3, r59_6, r59_8, r59_9, r59_13, r59_15, r59_16, r59_17, r59_19, r59_22, r59_23, r59_26, r59_30, r59_31, s60, s61, s62, s63, s64, s65, s66, s67, s68, s69, s70, s71, s72, s73, s74, s75, s76, i1, i2, z10, z01, z1m, zm1, z0m, zm0, m_no2, am_bv_s, am_bw_s, eq_self, true_or, or_true, am_b0, am_b1, am_em, if_true, if_false, true_and, and_true, false_and, and_false, not_true_eq_false, not_false_eq_true, false_or, or_false, Bool.false_eq_true]
  · rw [am_bf h1] at i1
    rw [if_neg (fun q => h1 q.1)]
    refine ⟨M, ?_, hx, am_of.rf⟩
    simp only [e192_0, e192_1, e192_4, e192_7, e192_8, e192_9, e192_12, e192_15, e192_16, e192_19, e192_22, e192_23, e192_24, e192_25, e192_26, e192_29, e192_32, e192_34, e192_37, s59, s59_0, s59_1, s59_2, s59_3, s59_4, s59_5, s59_6, s59_7, s59_8, s59_9, s59_10, s59_11, s59_12, s59_13, s59_14, s59_15, s59_16, s59_17, s59_18, s59_19, s59_20, s59_21, s59_22, s59_23, s59_24, s59_25, s59_26, s59_27, s59_28, s59_29, s59_30, s59_31, r59_0, r59_1, r59_2, r59_3, r59_6, r59_8, r59_9, r59_13, r59_15, r59_16, r59_17, r59_19, r59_22, r59_23, r59_26, r59_30, r59_31, s60, s61, s62, s63, s64, s65, s66, s67, s68, s69, s70, s71, s72, s73, s74, s75, s76, i1, z10, z01, z1m, zm1, z0m, zm0, m_no2, am_bv_s, am_bw_s, eq_self, true_or, or_true, am_b0, am_b1, am_em, if_true, if_false, true_and, and_true, false_and, and_false, not_true_eq_false, not_false_eq_true, false_or, or_false, Bool.false_eq_true]
end
