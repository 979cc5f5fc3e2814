/-! the reference: easiest, ladder -/
theorem bst_D0 {s : sgm} {t : Nat} {lr rb : Nat → Bool} {p : Nat} (h : gD s.2.1.1 s.2.2.2.1 s.2.2.2.2 t = 0) : ∀ n, bst s t lr rb p n = none
  | 0 => rfl
  | n + 1 => by
    rw [bst, if_neg (fun q => q.1.2.1 (Or.inr h))]
    exact bst_D0 h n
theorem cnt_all {p : Nat → Prop} [∀ i, Decidable (p i)] : ∀ n, cnt p n = n → ∀ i, i < n → p i
  | 0, _, i, hi => absurd hi (Nat.not_lt_zero _)
  | n + 1, h, i, hi => by
    have hl := cnt_le p n
    by_cases hp : p n
    · rw [cnt_s1 hp] at h
      by_cases e : i = n
      · subst e; exact hp
      · exact cnt_all n (by omega) i (by omega)
    · rw [cnt_s0 hp] at h
      omega
theorem cnt_up {rb : Nat → Bool} {k : Nat} (hk : rb k = false) : ∀ n, k < n → cnt (fun j => (if j = k then true else rb j) = true) n = cnt (fun j => rb j = true) n + 1
  | 0, h => absurd h (Nat.not_lt_zero _)
  | n + 1, h => by
    by_cases e : k = n
    · subst e
      rw [cnt_s1 (p := fun j => (if j = k then true else rb j) = true) (if_pos rfl), cnt_s0 (p := fun j => rb j = true) (by rw [hk]; decide), cnt_c (p := fun j => (if j = k then true else rb j) = true) (q := fun j => rb j = true) k (fun i hi => by
        rw [if_neg (show ¬ i = k by omega)])]
    · have ih := cnt_up hk n (by omega)
      have en : ((if n = k then true else rb n) = true) ↔ rb n = true := by rw [if_neg (fun q => e q.symm)]
      by_cases hn : rb n = true
      · rw [cnt_s1 (p := fun j => (if j = k then true else rb j) = true) (en.mpr hn), cnt_s1 (p := fun j => rb j = true) hn, ih]
      · rw [cnt_s0 (p := fun j => (if j = k then true else rb j) = true) (fun q => hn (en.mp q)), cnt_s0 (p := fun j => rb j = true) hn, ih]
theorem clm_rd {s : sgm} {t p m : Nat} : ∀ n, cnt (fun j => (clm s t p m n).2.2.1 j = true) s.2.2.1.1 = (clm s t p m n).1
  | 0 => cnt_no _ (fun i hi q => by cases q)
  | n + 1 => by
    have ih := clm_rd (s := s) (t := t) (p := p) (m := m) n
    cases hq : clB s t p m (clm s t p m n) with
    | none =>
      have e : clm s t p m (n + 1) = clm s t p m n := clm_st hq 1
      rw [e]; exact ih
    | some k =>
      obtain ⟨h1, h2⟩ := bst_ok _ hq
      have e : clm s t p m (n + 1) = clU s (clm s t p m n) (some k) := by rw [clm, hq]
      rw [e, clU]
      exact (cnt_up h2.1 s.2.2.1.1 h1).trans (by rw [ih])
theorem clm_end {s : sgm} {t p m n : Nat} (h : (clm s t p m n).1 = s.2.2.1.1) : clB s t p m (clm s t p m n) = none := by
  cases hq : clB s t p m (clm s t p m n) with
  | none => rfl
  | some k =>
    exfalso
    obtain ⟨h1, h2⟩ := bst_ok _ hq
    have := cnt_all (p := fun j => (clm s t p m n).2.2.1 j = true) s.2.2.1.1 ((clm_rd n).trans h) k h1
    rw [h2.1] at this
    cases this
theorem clm_mo {s : sgm} {t p m n : Nat} : ∀ k, (clm s t p m n).1 ≤ (clm s t p m (n + k)).1 ∧ ∀ i, i < (clm s t p m n).1 → (clm s t p m (n + k)).2.1 i = (clm s t p m n).2.1 i
  | 0 => ⟨Nat.le_refl _, fun _ _ => rfl⟩
  | k + 1 => by
    obtain ⟨h1, h2⟩ := clm_mo (s := s) (t := t) (p := p) (m := m) (n := n) k
    have e : clm s t p m (n + (k + 1)) = clU s (clm s t p m (n + k)) (clB s t p m (clm s t p m (n + k))) := rfl
    rw [e]
    cases hq : clB s t p m (clm s t p m (n + k)) with
    | none => exact ⟨h1, h2⟩
    | some q =>
      rw [clU]
      refine ⟨Nat.le_succ_of_le h1, fun i hi => ?_⟩
      dsimp only
      rw [if_neg (by omega)]
      exact h2 i hi
/-- what the ladder changes -/
def pL2 (a k : Nat) : Prop := pmQ a k ∨ (a = 59 ∧ (k = 27 ∨ k = 28 ∨ k = 29)) ∨ a = 74
section
variable {X : am_X} {S : am_Sh} {M M' : am_Me} {P : Nat → Nat → Prop} {s : sgm}
theorem pL2_R {a k : Nat} (q : pL2 a k) : pR a k := by unfold pL2 pmQ at q; unfold pR; omega
theorem pL2_M {a k : Nat} (q : pmT a k ∨ pL2 a k) : pM a k := by
  rcases q with q | q
  · exact pmT_M q
  · unfold pL2 pmQ at q; unfold pM; omega
theorem mT.of {t : Nat} (mt : mT s t M) (o : am_of pL2 M M') : mT s t M' := fun b hb => ⟨((o _ _ (by unfold pL2 pmQ; omega)).2).trans (mt b hb).1, ((o _ _ (by unfold pL2 pmQ; omega)).2).trans (mt b hb).2⟩
theorem mRb.of {rb : Nat → Bool} (h : mRb rb M) (ho : am_of P M M') (hP : ∀ a k, P a k → ¬ (a = 59 ∧ k = 29)) : mRb rb M' := by
  obtain ⟨r, h1, h2, h3⟩ := h
  exact ⟨r, h1, ((ho _ _ (fun z => hP _ _ z ⟨rfl, rfl⟩)).1).trans h2, h3⟩
theorem mRb.z (h : M.1 59 29 = 0) : mRb nLr M := ⟨0, by decide, h, fun k _ => Nat.zero_testBit k⟩
theorem m_easiestOf {t : Nat} (hx : JM s M) (ho : okm s) (ht : t < 4) : ∃ M', am_e X 195 0 [some (.ref (59 : Nat)), some (.int (nI t))] [] kS M = some (some (.int (oI (bst s t nLr nLr 0 s.2.2.1.1))), kS, M') ∧ JM s M' ∧ am_of (fun a k => pmT a k ∨ pL2 a k) M M' := by
  generalize hM1 : am_setI M 59 27 0 = M1
  generalize hM2 : am_setI M1 59 29 0 = M2
  have of2 : am_of pL2 M M2 := by rw [← hM2, ← hM1]; exact (am_of.rf.sI (Or.inr (Or.inl ⟨rfl, Or.inl rfl⟩))).sI (Or.inr (Or.inl ⟨rfl, Or.inr (Or.inr rfl)⟩))
  have j2 : JM s M2 := hx.of of2 (fun a k q => pL2_R q)
  have v1 : M2.1 59 27 = 0 := by rw [← hM2, gI, if_neg (by omega), ← hM1, gI, if_pos ⟨rfl, rfl⟩]
  have v2 : M2.1 59 29 = 0 := by rw [← hM2, gI, if_pos ⟨rfl, rfl⟩]
  obtain ⟨M3, r3, j3, mt, mf, of3⟩ := m_findTrue (X := X) j2 ho ht
  have ofa : am_of (fun a k => pmT a k ∨ pL2 a k) M M3 := (of2.mo fun a k q => Or.inr q).tr (of3.mo fun a k q => Or.inl q)
  have w1 : mCl s nLr M3 := Or.inl ⟨by rw [(of3 _ _ (by unfold pmT pmS pmW; omega)).1]; exact v1, rfl⟩
  have w2 : mRb nLr M3 := mRb.z (by rw [(of3 _ _ (by unfold pmT pmS pmW; omega)).1]; exact v2)
  by_cases h7 : gD s.2.1.1 s.2.2.2.1 s.2.2.2.2 t = 0
  · rw [am_bf (fun q => q h7)] at r3
    refine ⟨M3, ?_, j3.1, ofa⟩
    rw [bst_D0 h7, oI]
    simp only [e195_0, e195_1, e195_2, e195_5, e195_6, e195_7, e195_10, e195_11, e195_12, e195_15, e195_18, e195_19, e195_20, e195_23, e195_26, e195_27, s59, s59_0, s59_1, s59_2, s59_3, s59_4, s59_5, s59_6, s59_7, s59_8, s59_9, s59_10, s59_11, s59_12, s59_13, s59_14, s59_15, s59_16, s59_17, s59_18, s59_19, s59_20, s59_21, s59_22, s59_23, s59_24, s59_25, s59_26, s59_27, s59_28, s59_29, s59_30, s59_31, r59_0, r59_1, r59_2, r59_3, r59_6, r59_8, r59_9, r59_13, r59_15, r59_16, r59_17, r59_19, r59_22, r59_23, r59_26, r59_30, r59_31, s60, s61, s62, s63, s64, s65, s66, s67, s68, s69, s70, s71, s72, s73, s74, s75, s76, am_z01, hM1, hM2, r3, z10, z01, z1m, zm1, z0m, zm0, am_bv_s, am_bw_s, eq_self, true_or, or_true, am_b0, am_b1, am_em, if_true, if_false, true_and, and_true, false_and, and_false, not_true_eq_false, not_false_eq_true, false_or, or_false, Bool.false_eq_true]
  · have hn : ¬ gD s.2.1.1 s.2.2.2.1 s.2.2.2.2 t = 0 := h7
    rw [am_bt hn] at r3
    obtain ⟨M4, r4, of4⟩ := m_most (X := X) (p := 0) j3.1 ho mt w1 w2 (by decide) (by omega)
    rw [nI_0] at r4
    refine ⟨M4, ?_, j3.1.of of4 (fun a k q => by unfold pmQ at q; unfold pR; omega), ofa.tr (of4.mo fun a k q => Or.inr (Or.inl q))⟩
    simp only [e195_0, e195_1, e195_2, e195_5, e195_6, e195_7, e195_10, e195_11, e195_12, e195_15, e195_18, e195_19, e195_20, e195_23, e195_26, e195_27, s59, s59_0, s59_1, s59_2, s59_3, s59_4, s59_5, s59_6, s59_7, s59_8, s59_9, s59_10, s59_11, s59_12, s59_13, s59_14, s59_15, s59_16, s59_17, s59_18, s59_19, s59_20, s59_21, s59_22, s59_23, s59_24, s59_25, s59_26, s59_27, s59_28, s59_29, s59_30, s59_31, r59_0, r59_1, r59_2, r59_3, r59_6, r59_8, r59_9, r59_13, r59_15, r59_16, r59_17, r59_19, r59_22, r59_23, r59_26, r59_30, r59_31, s60, s61, s62, s63, s64, s65, s66, s67, s68, s69, s70, s71, s72, s73, s74, s75, s76, am_z01, hM1, hM2, r3, r4, z10, z01, z1m, zm1, z0m, zm0, am_bv_s, am_bw_s, eq_self, true_or, or_true, am_b0, am_b1, am_em, if_true, if_false, true_and, and_true, false_and, and_false, not_true_eq_false, not_false_eq_true, false_or, or_false, Bool.false_eq_true]
theorem m_easiest (hx : JM s M) (ho : okm s) (t : Int32) : ∃ M', am_e X 196 0 [some (.ref (59 : Nat)), some (.int t)] [] kS M = some (some (.int (sp_easiest s t)), kS, M') ∧ JM s M' ∧ am_of pM M M' := by
  have i1 := m_isTaker (X := X) (S := kS) (M := M) t
  unfold sp_easiest
  by_cases h1 : 0 ≤ t ∧ t ≤ 3
  · rw [am_bt h1] at i1
    rw [if_pos h1]
    obtain ⟨tn, htn, rfl⟩ := in_n (n := 3) h1 (by decide)
    rw [nI_clamp (n := tn) (by omega)]
    obtain ⟨M', r1, r2, r3⟩ := m_easiestOf (X := X) hx ho (show tn < 4 by omega)
    refine ⟨M', ?_, r2, r3.mo fun a k q => pL2_M q⟩
    simp only [e196_0, e196_1, e196_4, e196_7, e196_8, e196_9, e196_12, e196_15, e196_17, s59, s59_0, s59_1, s59_2, s59_3, s59_4, s59_5, s59_6, s59_7, s59_8, s59_9, s59_10, s59_11, s59_12, s59_13, s59_14, s59_15, s59_16, s59_17, s59_18, s59_19, s59_20, s59_21, s59_22, s59_23, s59_24, s59_25, s59_26, s59_27, s59_28, s59_29, s59_30, s59_31, r59_0, r59_1, r59_2, r59_3, r59_6, r59_8, r59_9, r59_13, r59_15, r59_16, r59_17, r59_19, r59_22, r59_23, r59_26, r59_30, r59_31, s60, s61, s62, s63, s64, s65, s66, s67, s68, s69, s70, s71, s72, s73, s74, s75, s76, i1, z10, z01, z1m, zm1, z0m, zm0, r1, am_bv_s, am_bw_s, eq_self, true_or, or_true, am_b0, am_b1, am_em, if_true, if_false, true_and, and_true, false_and, and_false, not_true_eq_false, not_false_eq_true, false_or, or_false, Bool.false_eq_true]
  · rw [am_bf h1] at i1
    rw [if_neg h1]
    refine ⟨M, ?_, hx, am_of.rf⟩
    simp only [e196_0, e196_1, e196_4, e196_7, e196_8, e196_9, e196_12, e196_15, e196_17, s59, s59_0, s59_1, s59_2, s59_3, s59_4, s59_5, s59_6, s59_7, s59_8, s59_9, s59_10, s59_11, s59_12, s59_13, s59_14, s59_15, s59_16, s59_17, s59_18, s59_19, s59_20, s59_21, s59_22, s59_23, s59_24, s59_25, s59_26, s59_27, s59_28, s59_29, s59_30, s59_31, r59_0, r59_1, r59_2, r59_3, r59_6, r59_8, r59_9, r59_13, r59_15, r59_16, r59_17, r59_19, r59_22, r59_23, r59_26, r59_30, r59_31, s60, s61, s62, s63, s64, s65, s66, s67, s68, s69, s70, s71, s72, s73, s74, s75, s76, i1, z10, z01, z1m, zm1, z0m, zm0, am_bv_s, am_bw_s, eq_self, true_or, or_true, am_b0, am_b1, am_em, if_true, if_false, true_and, and_true, false_and, and_false, not_true_eq_false, not_false_eq_true, false_or, or_false, Bool.false_eq_true]
/-- a book's words met -/
theorem m_meet {k : Nat} {me : Nat → Nat} {p i n : Int32} (hx : JM s M) (hm : ∀ b, b < 6 → M.1 74 b = nI (me b)) (hk : k < 6) : ∃ M', am_e X 197 95 [some (.ref (59 : Nat)), none, some (.int p), none, some (.int i), some (.int n), some (.int (nI k)), some (.int 0)] [] kS M = am_e X 197 95 [some (.ref (59 : Nat)), none, some (.int p), none, some (.int i), some (.int n), some (.int (nI k)), some (.int (nI 6))] [] kS M' ∧ (∀ b, b < 6 → M'.1 74 b = nI (me b + s.2.2.1.2 k b)) ∧ am_of (fun a _ => a = 74) M M' := by
  obtain ⟨M', e1, g1, g2⟩ := am_lp (X := X) (S := kS) (mi := 197) (pc := 95) 6 (fun q => [some (.ref (59 : Nat)), none, some (.int p), none, some (.int i), some (.int n), some (.int (nI k)), some (.int (nI q))])
    (fun q M' => (∀ b, b < 6 → M'.1 74 b = nI (if b < q then me b + s.2.2.1.2 k b else me b)) ∧ am_of (fun a _ => a = 74) M M') (M := M) ⟨fun b hb => by rw [if_neg (Nat.not_lt_zero _)]; exact hm b hb, am_of.rf⟩ (by
      intro j M2 hj hI
      obtain ⟨i1, i2⟩ := hI
      have c1 : (nI j < 6) = True := eq_true (nI_lt (b := 6) hj (by decide))
      have cj : (nI j).toNatClampNeg = j := nI_clamp (by omega)
      have e6 : (6 : Int32) * nI k + nI j = nI (6 * k + j) := by rw [show (6 : Int32) * nI k = nI (6 * k) from pk_mul 6 k, nI_add]
      have ce : (nI (6 * k + j)).toNatClampNeg = 6 * k + j := nI_clamp (by omega)
      have rr : M2.1 65 (6 * k + j) = nI (s.2.2.1.2 k j) := ((i2 _ _ (by omega)).1).trans (hx.2.2.1.2 k hk j hj)
      have mj : M2.1 74 j = nI (me j) := by rw [i1 j hj, if_neg (Nat.lt_irrefl _)]
      have sa : nI (me j) + nI (s.2.2.1.2 k j) = nI (me j + s.2.2.1.2 k j) := nI_add _ _
      refine ⟨am_setI M2 74 j (nI (me j + s.2.2.1.2 k j)), ?_, fun b hb => ?_, i2.sI rfl⟩
      · rw [e197_95]
        simp only [e197_0, e197_1, e197_2, e197_5, e197_8, e197_10, e197_11, e197_12, e197_13, e197_16, e197_17, e197_18, e197_21, e197_22, e197_23, e197_26, e197_27, e197_31, e197_33, e197_36, e197_37, e197_40, e197_42, e197_43, e197_44, e197_47, e197_50, e197_51, e197_53, e197_54, e197_55, e197_58, e197_62, e197_63, e197_66, e197_68, e197_70, e197_73, e197_75, e197_76, e197_79, e197_80, e197_81, e197_84, e197_85, e197_87, e197_88, e197_89, e197_92, e197_93, e197_97, e197_99, e197_102, e197_103, e197_106, e197_108, e197_109, e197_110, e197_111, e197_114, e197_116, e197_118, e197_119, e197_121, e197_122, e197_123, e197_124, e197_125, e197_128, e197_131, e197_132, e197_133, e197_136, e197_138, e197_141, e197_143, e197_144, e197_147, e197_149, e197_152, e197_153, s59, s59_0, s59_1, s59_2, s59_3, s59_4, s59_5, s59_6, s59_7, s59_8, s59_9, s59_10, s59_11, s59_12, s59_13, s59_14, s59_15, s59_16, s59_17, s59_18, s59_19, s59_20, s59_21, s59_22, s59_23, s59_24, s59_25, s59_26, s59_27, s59_28, s59_29, s59_30, s59_31, r59_0, r59_1, r59_2, r59_3, r59_6, r59_8, r59_9, r59_13, r59_15, r59_16, r59_17, r59_19, r59_22, r59_23, r59_26, r59_30, r59_31, s60, s61, s62, s63, s64, s65, s66, s67, s68, s69, s70, s71, s72, s73, s74, s75, s76, c1, cj, e6, ce, mj, rr, sa, nI_1, a74 (show j < 6 by omega), a65 (show 6 * k + j < 36 by omega), am_bv_s, am_bw_s, eq_self, true_or, or_true, am_b0, am_b1, am_em, if_true, if_false, true_and, and_true, false_and, and_false, not_true_eq_false, not_false_eq_true, false_or, or_false, Bool.false_eq_true]
      · rw [gI]
        by_cases e : b = j
        · subst e
          rw [if_pos ⟨rfl, rfl⟩, if_pos (Nat.lt_succ_self _)]
        · rw [if_neg (fun q => e q.2), i1 b hb]
          by_cases h : b < j
          · rw [if_pos h, if_pos (by omega)]
          · rw [if_neg h, if_neg (by omega)])
  rw [nI_0] at e1
  exact ⟨M', e1, fun b hb => by rw [g1 b hb, if_pos hb], g2⟩
theorem m_ladderOf {t p m : Nat} {i : Int32} (hx : JM s M) (ho : okm s) (ht : t < 4) (hp : p ≤ 100) (hm1 : 1 ≤ m) (hm9 : m ≤ 9) (hi : ¬ i < -1) : ∃ M', am_e X 197 0 [some (.ref (59 : Nat)), some (.int (nI t)), some (.int (nI p)), some (.int (nI m)), some (.int i), none, none, none] [] kS M = some (some (.int (if gD s.2.1.1 s.2.2.2.1 s.2.2.2.2 t = 0 then -3 else if i = -1 then nI (clm s t p m s.2.2.1.1).1 else if i < nI (clm s t p m s.2.2.1.1).1 then nI ((clm s t p m s.2.2.1.1).2.1 i.toNatClampNeg) else -1)), kS, M') ∧ JM s M' ∧ am_of (fun a k => pmT a k ∨ pL2 a k) M M' := by
  have b6 := ho.2.2.1.1
  obtain ⟨M1, r1, j1, mt1, mf1, of1⟩ := m_findTrue (X := X) hx ho ht
  by_cases h7 : gD s.2.1.1 s.2.2.2.1 s.2.2.2.2 t = 0
  · rw [am_bf (fun q => q h7)] at r1
    rw [if_pos h7]
    refine ⟨M1, ?_, j1.1, of1.mo fun a k q => Or.inl q⟩
    simp only [e197_0, e197_1, e197_2, e197_5, e197_8, e197_10, e197_11, e197_12, e197_13, e197_16, e197_17, e197_18, e197_21, e197_22, e197_23, e197_26, e197_27, e197_31, e197_33, e197_36, e197_37, e197_40, e197_42, e197_43, e197_44, e197_47, e197_50, e197_51, e197_53, e197_54, e197_55, e197_58, e197_62, e197_63, e197_66, e197_68, e197_70, e197_73, e197_75, e197_76, e197_79, e197_80, e197_81, e197_84, e197_85, e197_87, e197_88, e197_89, e197_92, e197_93, e197_97, e197_99, e197_102, e197_103, e197_106, e197_108, e197_109, e197_110, e197_111, e197_114, e197_116, e197_118, e197_119, e197_121, e197_122, e197_123, e197_124, e197_125, e197_128, e197_131, e197_132, e197_133, e197_136, e197_138, e197_141, e197_143, e197_144, e197_147, e197_149, e197_152, e197_153, s59, s59_0, s59_1, s59_2, s59_3, s59_4, s59_5, s59_6, s59_7, s59_8, s59_9, s59_10, s59_11, s59_12, s59_13, s59_14, s59_15, s59_16, s59_17, s59_18, s59_19, s59_20, s59_21, s59_22, s59_23, s59_24, s59_25, s59_26, s59_27, s59_28, s59_29, s59_30, s59_31, r59_0, r59_1, r59_2, r59_3, r59_6, r59_8, r59_9, r59_13, r59_15, r59_16, r59_17, r59_19, r59_22, r59_23, r59_26, r59_30, r59_31, s60, s61, s62, s63, s64, s65, s66, s67, s68, s69, s70, s71, s72, s73, s74, s75, s76, r1, z10, z01, z1m, zm1, z0m, zm0, am_bv_s, am_bw_s, eq_self, true_or, or_true, am_b0, am_b1, am_em, if_true, if_false, true_and, and_true, false_and, and_false, not_true_eq_false, not_false_eq_true, false_or, or_false, Bool.false_eq_true]
  · have hn : ¬ gD s.2.1.1 s.2.2.2.1 s.2.2.2.2 t = 0 := h7
    have hD : 0 < gD s.2.1.1 s.2.2.2.1 s.2.2.2.2 t := by omega
    rw [am_bt hn] at r1
    rw [if_neg h7]
    have pj : ∀ {Mb : am_Me}, am_of pL2 M1 Mb → JM s Mb := fun o => j1.1.of o (fun a k q => pL2_R q)
    have lp : ∀ (k j : Nat), j + k = s.2.2.1.1 → (clm s t p m j).1 = j → (∀ q, q < j → ¬ i = nI q) → ∀ M2, mRb (clm s t p m j).2.2.1 M2 → M2.1 59 27 = 1 → M2.1 59 28 = nI m → (∀ b, b < 6 → M2.1 74 b = nI ((clm s t p m j).2.2.2 b)) → am_of pL2 M1 M2 → ∃ M', am_e X 197 60 [some (.ref (59 : Nat)), none, some (.int (nI p)), none, some (.int i), some (.int (nI j)), some (.int (oI (clB s t p m (clm s t p m j)))), none] [] kS M2 = some (some (.int (if i = -1 then nI (clm s t p m s.2.2.1.1).1 else if i < nI (clm s t p m s.2.2.1.1).1 then nI ((clm s t p m s.2.2.1.1).2.1 i.toNatClampNeg) else -1)), kS, M') ∧ am_of pL2 M1 M' := by
      intro k
      induction k with
      | zero =>
        intro j hj hc hq M2 y1 y2 y3 y4 y5
        obtain rfl : j = s.2.2.1.1 := by omega
        rw [clm_end hc, oI]
        refine ⟨M2, ?_, y5⟩
        by_cases h1 : i = -1
        · rw [if_pos h1, hc, e197_60]
          simp only [e197_0, e197_1, e197_2, e197_5, e197_8, e197_10, e197_11, e197_12, e197_13, e197_16, e197_17, e197_18, e197_21, e197_22, e197_23, e197_26, e197_27, e197_31, e197_33, e197_36, e197_37, e197_40, e197_42, e197_43, e197_44, e197_47, e197_50, e197_51, e197_53, e197_54, e197_55, e197_58, e197_62, e197_63, e197_66, e197_68, e197_70, e197_73, e197_75, e197_76, e197_79, e197_80, e197_81, e197_84, e197_85, e197_87, e197_88, e197_89, e197_92, e197_93, e197_97, e197_99, e197_102, e197_103, e197_106, e197_108, e197_109, e197_110, e197_111, e197_114, e197_116, e197_118, e197_119, e197_121, e197_122, e197_123, e197_124, e197_125, e197_128, e197_131, e197_132, e197_133, e197_136, e197_138, e197_141, e197_143, e197_144, e197_147, e197_149, e197_152, e197_153, h1, (eq_true rfl : ((-1 : Int32) = -1) = True), am_bv_s, am_bw_s, eq_self, true_or, or_true, am_b0, am_b1, am_em, if_true, if_false, true_and, and_true, false_and, and_false, not_true_eq_false, not_false_eq_true, false_or, or_false, Bool.false_eq_true]
        · rw [if_neg h1]
          obtain ⟨kk, hkk, rfl⟩ := ge0 hi h1
          have c1 : (nI kk < nI (clm s t p m s.2.2.1.1).1) = (kk < (clm s t p m s.2.2.1.1).1) := ok_lt hkk (by omega)
          have h2 : ¬ kk < (clm s t p m s.2.2.1.1).1 := fun q => hq kk (by omega) rfl
          rw [if_neg (by rw [c1]; exact h2), e197_60]
          simp only [e197_0, e197_1, e197_2, e197_5, e197_8, e197_10, e197_11, e197_12, e197_13, e197_16, e197_17, e197_18, e197_21, e197_22, e197_23, e197_26, e197_27, e197_31, e197_33, e197_36, e197_37, e197_40, e197_42, e197_43, e197_44, e197_47, e197_50, e197_51, e197_53, e197_54, e197_55, e197_58, e197_62, e197_63, e197_66, e197_68, e197_70, e197_73, e197_75, e197_76, e197_79, e197_80, e197_81, e197_84, e197_85, e197_87, e197_88, e197_89, e197_92, e197_93, e197_97, e197_99, e197_102, e197_103, e197_106, e197_108, e197_109, e197_110, e197_111, e197_114, e197_116, e197_118, e197_119, e197_121, e197_122, e197_123, e197_124, e197_125, e197_128, e197_131, e197_132, e197_133, e197_136, e197_138, e197_141, e197_143, e197_144, e197_147, e197_149, e197_152, e197_153, h1, (eq_true rfl : ((-1 : Int32) = -1) = True), am_bv_s, am_bw_s, eq_self, true_or, or_true, am_b0, am_b1, am_em, if_true, if_false, true_and, and_true, false_and, and_false, not_true_eq_false, not_false_eq_true, false_or, or_false, Bool.false_eq_true]
      | succ k ih =>
        intro j hj hc hq M2 y1 y2 y3 y4 y5
        cases hb : clB s t p m (clm s t p m j) with
        | none =>
          have e : clm s t p m s.2.2.1.1 = clm s t p m j := by
            have := clm_st (n := j) hb (s.2.2.1.1 - j)
            rw [show j + (s.2.2.1.1 - j) = s.2.2.1.1 by omega] at this
            exact this
          rw [oI, e, hc]
          refine ⟨M2, ?_, y5⟩
          by_cases h1 : i = -1
          · rw [if_pos h1, e197_60]
            simp only [e197_0, e197_1, e197_2, e197_5, e197_8, e197_10, e197_11, e197_12, e197_13, e197_16, e197_17, e197_18, e197_21, e197_22, e197_23, e197_26, e197_27, e197_31, e197_33, e197_36, e197_37, e197_40, e197_42, e197_43, e197_44, e197_47, e197_50, e197_51, e197_53, e197_54, e197_55, e197_58, e197_62, e197_63, e197_66, e197_68, e197_70, e197_73, e197_75, e197_76, e197_79, e197_80, e197_81, e197_84, e197_85, e197_87, e197_88, e197_89, e197_92, e197_93, e197_97, e197_99, e197_102, e197_103, e197_106, e197_108, e197_109, e197_110, e197_111, e197_114, e197_116, e197_118, e197_119, e197_121, e197_122, e197_123, e197_124, e197_125, e197_128, e197_131, e197_132, e197_133, e197_136, e197_138, e197_141, e197_143, e197_144, e197_147, e197_149, e197_152, e197_153, h1, (eq_true rfl : ((-1 : Int32) = -1) = True), am_bv_s, am_bw_s, eq_self, true_or, or_true, am_b0, am_b1, am_em, if_true, if_false, true_and, and_true, false_and, and_false, not_true_eq_false, not_false_eq_true, false_or, or_false, Bool.false_eq_true]
          · rw [if_neg h1]
            obtain ⟨kk, hkk, rfl⟩ := ge0 hi h1
            have c1 : (nI kk < nI j) = (kk < j) := ok_lt hkk (by omega)
            have h2 : ¬ kk < j := fun q => hq kk q rfl
            rw [if_neg (by rw [c1]; exact h2), e197_60]
            simp only [e197_0, e197_1, e197_2, e197_5, e197_8, e197_10, e197_11, e197_12, e197_13, e197_16, e197_17, e197_18, e197_21, e197_22, e197_23, e197_26, e197_27, e197_31, e197_33, e197_36, e197_37, e197_40, e197_42, e197_43, e197_44, e197_47, e197_50, e197_51, e197_53, e197_54, e197_55, e197_58, e197_62, e197_63, e197_66, e197_68, e197_70, e197_73, e197_75, e197_76, e197_79, e197_80, e197_81, e197_84, e197_85, e197_87, e197_88, e197_89, e197_92, e197_93, e197_97, e197_99, e197_102, e197_103, e197_106, e197_108, e197_109, e197_110, e197_111, e197_114, e197_116, e197_118, e197_119, e197_121, e197_122, e197_123, e197_124, e197_125, e197_128, e197_131, e197_132, e197_133, e197_136, e197_138, e197_141, e197_143, e197_144, e197_147, e197_149, e197_152, e197_153, h1, (eq_true rfl : ((-1 : Int32) = -1) = True), am_bv_s, am_bw_s, eq_self, true_or, or_true, am_b0, am_b1, am_em, if_true, if_false, true_and, and_true, false_and, and_false, not_true_eq_false, not_false_eq_true, false_or, or_false, Bool.false_eq_true]
        | some b =>
          obtain ⟨q1, q2⟩ := bst_ok _ hb
          have e : clm s t p m (j + 1) = clU s (clm s t p m j) (some b) := by rw [clm, hb]
          have n1 := nI_n1 (k := b) (by omega)
          have e1 : (clm s t p m (j + 1)).1 = j + 1 := by rw [e, clU]; dsimp only; omega
          rw [oI]
          by_cases h1 : nI j = i
          · subst h1
            have h3 := nI_n1 (k := j) (by omega)
            obtain ⟨m1, m2⟩ := clm_mo (s := s) (t := t) (p := p) (m := m) (n := j + 1) (s.2.2.1.1 - (j + 1))
            rw [show j + 1 + (s.2.2.1.1 - (j + 1)) = s.2.2.1.1 by omega] at m1 m2
            have c1 : (nI j < nI (clm s t p m s.2.2.1.1).1) = (j < (clm s t p m s.2.2.1.1).1) := ok_lt (by omega) (by have := (clm_n (s := s) (t := t) (p := p) (m := m) s.2.2.1.1).1; omega)
            have e2 : (clm s t p m s.2.2.1.1).2.1 j = b := by
              rw [m2 j (by omega), e, clU]
              dsimp only
              rw [if_pos hc.symm]
            rw [if_neg (by rw [h3]; exact id), if_pos (by rw [c1]; omega), nI_clamp (show j < 2 ^ 31 by omega), e2]
            refine ⟨M2, ?_, y5⟩
            rw [e197_60]
            simp only [e197_0, e197_1, e197_2, e197_5, e197_8, e197_10, e197_11, e197_12, e197_13, e197_16, e197_17, e197_18, e197_21, e197_22, e197_23, e197_26, e197_27, e197_31, e197_33, e197_36, e197_37, e197_40, e197_42, e197_43, e197_44, e197_47, e197_50, e197_51, e197_53, e197_54, e197_55, e197_58, e197_62, e197_63, e197_66, e197_68, e197_70, e197_73, e197_75, e197_76, e197_79, e197_80, e197_81, e197_84, e197_85, e197_87, e197_88, e197_89, e197_92, e197_93, e197_97, e197_99, e197_102, e197_103, e197_106, e197_108, e197_109, e197_110, e197_111, e197_114, e197_116, e197_118, e197_119, e197_121, e197_122, e197_123, e197_124, e197_125, e197_128, e197_131, e197_132, e197_133, e197_136, e197_138, e197_141, e197_143, e197_144, e197_147, e197_149, e197_152, e197_153, n1, am_bv_s, am_bw_s, eq_self, true_or, or_true, am_b0, am_b1, am_em, if_true, if_false, true_and, and_true, false_and, and_false, not_true_eq_false, not_false_eq_true, false_or, or_false, Bool.false_eq_true]
          · obtain ⟨r, r64, rM, rB⟩ := y1
            obtain ⟨w1, w2, w3⟩ := bit_w r r64 b (by omega)
            generalize hM3 : am_setI M2 59 29 (nI (r ||| 1 <<< b)) = M3
            have of3 : am_of (fun a k => a = 59 ∧ k = 29) M2 M3 := by rw [← hM3]; exact am_of.rf.sI ⟨rfl, rfl⟩
            have of3' := y5.tr (of3.mo fun a k q => (Or.inr (Or.inl ⟨q.1, Or.inr (Or.inr q.2)⟩) : pL2 a k))
            obtain ⟨M4, f1, f2, f3⟩ := m_meet (X := X) (p := nI p) (i := i) (n := nI (j + 1)) (pj of3') (fun b hb => ((of3 _ _ (by omega)).1).trans (y4 b hb)) (show b < 6 by omega)
            have of4' := of3'.tr (f3.mo fun a k q => (Or.inr (Or.inr q) : pL2 a k))
            have x1 : mRb (clm s t p m (j + 1)).2.2.1 M4 := ⟨r ||| 1 <<< b, w2, by rw [(f3 _ _ (by omega)).1, ← hM3, gI, if_pos ⟨rfl, rfl⟩], fun q hq => by
              rw [w3 q hq, e, clU]
              dsimp only
              by_cases eq : q = b
              · rw [if_pos eq, if_pos eq]
              · rw [if_neg eq, if_neg eq]; exact rB q hq⟩
            have x2 : M4.1 59 27 = 1 := by rw [(f3 _ _ (by omega)).1, (of3 _ _ (by omega)).1]; exact y2
            have x3 : M4.1 59 28 = nI m := by rw [(f3 _ _ (by omega)).1, (of3 _ _ (by omega)).1]; exact y3
            have x4 : ∀ b, b < 6 → M4.1 74 b = nI ((clm s t p m (j + 1)).2.2.2 b) := fun q hq => by
              rw [f2 q hq, e, clU]
            have cl : mCl s (lrn s m (clm s t p m (j + 1)).2.2.2) M4 := Or.inr ⟨m, _, hm9, fun q hq => by have := clm_me (t := t) (p := p) (m := m) ho (j + 1) q hq; omega, x2, x3, x4, rfl⟩
            obtain ⟨M5, d1, d2⟩ := m_most (X := X) (p := p) (pj of4') ho (mt1.of of4') cl x1 hp hD
            have d2' : am_of pL2 M4 M5 := d2.mo fun a k q => Or.inl q
            obtain ⟨M6, g1, g2⟩ := ih (j + 1) (by omega) e1 (fun q hq2 => by
              by_cases eq : q = j
              · subst eq; exact fun z => h1 z.symm
              · exact hq q (by omega)) M5 (x1.of d2 (fun a k q => by unfold pmQ at q; omega)) (by rw [(d2 _ _ (by unfold pmQ; omega)).1]; exact x2) (by rw [(d2 _ _ (by unfold pmQ; omega)).1]; exact x3) (fun b hb => by rw [(d2 _ _ (by unfold pmQ; omega)).1]; exact x4 b hb) (of4'.tr d2')
            refine ⟨M6, ?_, g2⟩
            have c6 : (nI 6 < 6) = False := eq_false (by decide)
            have fin : am_e X 197 95 [some (.ref (59 : Nat)), none, some (.int (nI p)), none, some (.int i), some (.int (nI (j + 1))), some (.int (nI b)), some (.int (nI 6))] [] kS M4 = am_e X 197 60 [some (.ref (59 : Nat)), none, some (.int (nI p)), none, some (.int i), some (.int (nI (j + 1))), some (.int (oI (clB s t p m (clm s t p m (j + 1))))), none] [] kS M5 := by
              rw [e197_95]
              simp only [e197_0, e197_1, e197_2, e197_5, e197_8, e197_10, e197_11, e197_12, e197_13, e197_16, e197_17, e197_18, e197_21, e197_22, e197_23, e197_26, e197_27, e197_31, e197_33, e197_36, e197_37, e197_40, e197_42, e197_43, e197_44, e197_47, e197_50, e197_51, e197_53, e197_54, e197_55, e197_58, e197_62, e197_63, e197_66, e197_68, e197_70, e197_73, e197_75, e197_76, e197_79, e197_80, e197_81, e197_84, e197_85, e197_87, e197_88, e197_89, e197_92, e197_93, e197_97, e197_99, e197_102, e197_103, e197_106, e197_108, e197_109, e197_110, e197_111, e197_114, e197_116, e197_118, e197_119, e197_121, e197_122, e197_123, e197_124, e197_125, e197_128, e197_131, e197_132, e197_133, e197_136, e197_138, e197_141, e197_143, e197_144, e197_147, e197_149, e197_152, e197_153, s59, s59_0, s59_1, s59_2, s59_3, s59_4, s59_5, s59_6, s59_7, s59_8, s59_9, s59_10, s59_11, s59_12, s59_13, s59_14, s59_15, s59_16, s59_17, s59_18, s59_19, s59_20, s59_21, s59_22, s59_23, s59_24, s59_25, s59_26, s59_27, s59_28, s59_29, s59_30, s59_31, r59_0, r59_1, r59_2, r59_3, r59_6, r59_8, r59_9, r59_13, r59_15, r59_16, r59_17, r59_19, r59_22, r59_23, r59_26, r59_30, r59_31, s60, s61, s62, s63, s64, s65, s66, s67, s68, s69, s70, s71, s72, s73, s74, s75, s76, c6, d1, am_bv_s, am_bw_s, eq_self, true_or, or_true, am_b0, am_b1, am_em, if_true, if_false, true_and, and_true, false_and, and_false, not_true_eq_false, not_false_eq_true, false_or, or_false, Bool.false_eq_true]
              rfl
            rw [fin] at f1
            rw [← g1, ← f1, e197_60]
            simp only [e197_0, e197_1, e197_2, e197_5, e197_8, e197_10, e197_11, e197_12, e197_13, e197_16, e197_17, e197_18, e197_21, e197_22, e197_23, e197_26, e197_27, e197_31, e197_33, e197_36, e197_37, e197_40, e197_42, e197_43, e197_44, e197_47, e197_50, e197_51, e197_53, e197_54, e197_55, e197_58, e197_62, e197_63, e197_66, e197_68, e197_70, e197_73, e197_75, e197_76, e197_79, e197_80, e197_81, e197_84, e197_85, e197_87, e197_88, e197_89, e197_92, e197_93, e197_97, e197_99, e197_102, e197_103, e197_106, e197_108, e197_109, e197_110, e197_111, e197_114, e197_116, e197_118, e197_119, e197_121, e197_122, e197_123, e197_124, e197_125, e197_128, e197_131, e197_132, e197_133, e197_136, e197_138, e197_141, e197_143, e197_144, e197_147, e197_149, e197_152, e197_153, s59, s59_0, s59_1, s59_2, s59_3, s59_4, s59_5, s59_6, s59_7, s59_8, s59_9, s59_10, s59_11, s59_12, s59_13, s59_14, s59_15, s59_16, s59_17, s59_18, s59_19, s59_20, s59_21, s59_22, s59_23, s59_24, s59_25, s59_26, s59_27, s59_28, s59_29, s59_30, s59_31, r59_0, r59_1, r59_2, r59_3, r59_6, r59_8, r59_9, r59_13, r59_15, r59_16, r59_17, r59_19, r59_22, r59_23, r59_26, r59_30, r59_31, s60, s61, s62, s63, s64, s65, s66, s67, s68, s69, s70, s71, s72, s73, s74, s75, s76, n1, h1, rM, w1, hM3, nI_1, am_bv_s, am_bw_s, eq_self, true_or, or_true, am_b0, am_b1, am_em, if_true, if_false, true_and, and_true, false_and, and_false, not_true_eq_false, not_false_eq_true, false_or, or_false, Bool.false_eq_true]
    generalize hM2 : am_setI M1 59 27 1 = M2
    generalize hM3 : am_setI M2 59 28 (nI m) = M3
    generalize hM4 : am_setI M3 59 29 0 = M4
    have of4 : am_of pL2 M1 M4 := by rw [← hM4, ← hM3, ← hM2]; exact ((am_of.rf.sI (Or.inr (Or.inl ⟨rfl, Or.inl rfl⟩))).sI (Or.inr (Or.inl ⟨rfl, Or.inr (Or.inl rfl)⟩))).sI (Or.inr (Or.inl ⟨rfl, Or.inr (Or.inr rfl)⟩))
    have v1 : M4.1 59 27 = 1 := by rw [← hM4, gI, if_neg (by omega), ← hM3, gI, if_neg (by omega), ← hM2, gI, if_pos ⟨rfl, rfl⟩]
    have v2 : M4.1 59 28 = nI m := by rw [← hM4, gI, if_neg (by omega), ← hM3, gI, if_pos ⟨rfl, rfl⟩]
    have v3 : M4.1 59 29 = 0 := by rw [← hM4, gI, if_pos ⟨rfl, rfl⟩]
    obtain ⟨M5, e5, g5, of5⟩ := am_lp (X := X) (S := kS) (mi := 197) (pc := 29) 6 (fun q => [some (.ref (59 : Nat)), none, some (.int (nI p)), none, some (.int i), some (.int (nI q)), none, none])
      (fun q M' => (∀ b, b < q → M'.1 74 b = 0) ∧ am_of (fun a _ => a = 74) M4 M') (M := M4) ⟨fun b hb => absurd hb (Nat.not_lt_zero _), am_of.rf⟩ (by
        intro j M6 hj hI
        obtain ⟨i1, i2⟩ := hI
        have c1 : (nI j < 6) = True := eq_true (nI_lt (b := 6) hj (by decide))
        have cj : (nI j).toNatClampNeg = j := nI_clamp (by omega)
        refine ⟨am_setI M6 74 j 0, ?_, fun b hb => ?_, i2.sI rfl⟩
        · rw [e197_29]
          simp only [e197_0, e197_1, e197_2, e197_5, e197_8, e197_10, e197_11, e197_12, e197_13, e197_16, e197_17, e197_18, e197_21, e197_22, e197_23, e197_26, e197_27, e197_31, e197_33, e197_36, e197_37, e197_40, e197_42, e197_43, e197_44, e197_47, e197_50, e197_51, e197_53, e197_54, e197_55, e197_58, e197_62, e197_63, e197_66, e197_68, e197_70, e197_73, e197_75, e197_76, e197_79, e197_80, e197_81, e197_84, e197_85, e197_87, e197_88, e197_89, e197_92, e197_93, e197_97, e197_99, e197_102, e197_103, e197_106, e197_108, e197_109, e197_110, e197_111, e197_114, e197_116, e197_118, e197_119, e197_121, e197_122, e197_123, e197_124, e197_125, e197_128, e197_131, e197_132, e197_133, e197_136, e197_138, e197_141, e197_143, e197_144, e197_147, e197_149, e197_152, e197_153, s59, s59_0, s59_1, s59_2, s59_3, s59_4, s59_5, s59_6, s59_7, s59_8, s59_9, s59_10, s59_11, s59_12, s59_13, s59_14, s59_15, s59_16, s59_17, s59_18, s59_19, s59_20, s59_21, s59_22, s59_23, s59_24, s59_25, s59_26, s59_27, s59_28, s59_29, s59_30, s59_31, r59_0, r59_1, r59_2, r59_3, r59_6, r59_8, r59_9, r59_13, r59_15, r59_16, r59_17, r59_19, r59_22, r59_23, r59_26, r59_30, r59_31, s60, s61, s62, s63, s64, s65, s66, s67, s68, s69, s70, s71, s72, s73, s74, s75, s76, c1, cj, nI_1, a74 hj, am_bv_s, am_bw_s, eq_self, true_or, or_true, am_b0, am_b1, am_em, if_true, if_false, true_and, and_true, false_and, and_false, not_true_eq_false, not_false_eq_true, false_or, or_false, Bool.false_eq_true]
        · rw [gI]
          by_cases e : b = j
          · rw [if_pos ⟨rfl, e⟩]
          · rw [if_neg (fun q => e q.2)]; exact i1 b (by omega))
    have of5' := of4.tr (of5.mo fun a k q => (Or.inr (Or.inr q) : pL2 a k))
    have x1 : mRb nLr M5 := mRb.z (by rw [(of5 _ _ (by omega)).1]; exact v3)
    have x2 : M5.1 59 27 = 1 := by rw [(of5 _ _ (by omega)).1]; exact v1
    have x3 : M5.1 59 28 = nI m := by rw [(of5 _ _ (by omega)).1]; exact v2
    have cl : mCl s (lrn s m nMe) M5 := Or.inr ⟨m, _, hm9, fun q hq => Nat.zero_le _, x2, x3, g5, rfl⟩
    obtain ⟨M6, d1, d2⟩ := m_most (X := X) (p := p) (pj of5') ho (mt1.of of5') cl x1 hp hD
    obtain ⟨M7, g1, g2⟩ := lp s.2.2.1.1 0 (by omega) rfl (fun q hq => absurd hq (Nat.not_lt_zero _)) M6 (x1.of d2 (fun a k q => by unfold pmQ at q; omega)) (by rw [(d2 _ _ (by unfold pmQ; omega)).1]; exact x2) (by rw [(d2 _ _ (by unfold pmQ; omega)).1]; exact x3) (fun b hb => by rw [(d2 _ _ (by unfold pmQ; omega)).1]; exact g5 b hb) (of5'.tr (d2.mo fun a k q => Or.inl q))
    refine ⟨M7, ?_, pj g2, (of1.mo fun a k q => Or.inl q).tr (g2.mo fun a k q => Or.inr q)⟩
    have c6 : (nI 6 < 6) = False := eq_false (by decide)
    have fin : am_e X 197 29 [some (.ref (59 : Nat)), none, some (.int (nI p)), none, some (.int i), some (.int (nI 6)), none, none] [] kS M5 = am_e X 197 60 [some (.ref (59 : Nat)), none, some (.int (nI p)), none, some (.int i), some (.int (nI 0)), some (.int (oI (clB s t p m (clm s t p m 0)))), none] [] kS M6 := by
      rw [e197_29]
      simp only [e197_0, e197_1, e197_2, e197_5, e197_8, e197_10, e197_11, e197_12, e197_13, e197_16, e197_17, e197_18, e197_21, e197_22, e197_23, e197_26, e197_27, e197_31, e197_33, e197_36, e197_37, e197_40, e197_42, e197_43, e197_44, e197_47, e197_50, e197_51, e197_53, e197_54, e197_55, e197_58, e197_62, e197_63, e197_66, e197_68, e197_70, e197_73, e197_75, e197_76, e197_79, e197_80, e197_81, e197_84, e197_85, e197_87, e197_88, e197_89, e197_92, e197_93, e197_97, e197_99, e197_102, e197_103, e197_106, e197_108, e197_109, e197_110, e197_111, e197_114, e197_116, e197_118, e197_119, e197_121, e197_122, e197_123, e197_124, e197_125, e197_128, e197_131, e197_132, e197_133, e197_136, e197_138, e197_141, e197_143, e197_144, e197_147, e197_149, e197_152, e197_153, s59, s59_0, s59_1, s59_2, s59_3, s59_4, s59_5, s59_6, s59_7, s59_8, s59_9, s59_10, s59_11, s59_12, s59_13, s59_14, s59_15, s59_16, s59_17, s59_18, s59_19, s59_20, s59_21, s59_22, s59_23, s59_24, s59_25, s59_26, s59_27, s59_28, s59_29, s59_30, s59_31, r59_0, r59_1, r59_2, r59_3, r59_6, r59_8, r59_9, r59_13, r59_15, r59_16, r59_17, r59_19, r59_22, r59_23, r59_26, r59_30, r59_31, s60, s61, s62, s63, s64, s65, s66, s67, s68, s69, s70, s71, s72, s73, s74, s75, s76, c6, d1, am_bv_s, am_bw_s, eq_self, true_or, or_true, am_b0, am_b1, am_em, if_true, if_false, true_and, and_true, false_and, and_false, not_true_eq_false, not_false_eq_true, false_or, or_false, Bool.false_eq_true]
      rfl
    rw [fin, g1, nI_0] at e5
    rw [← e5]
    simp only [e197_0, e197_1, e197_2, e197_5, e197_8, e197_10, e197_11, e197_12, e197_13, e197_16, e197_17, e197_18, e197_21, e197_22, e197_23, e197_26, e197_27, e197_31, e197_33, e197_36, e197_37, e197_40, e197_42, e197_43, e197_44, e197_47, e197_50, e197_51, e197_53, e197_54, e197_55, e197_58, e197_62, e197_63, e197_66, e197_68, e197_70, e197_73, e197_75, e197_76, e197_79, e197_80, e197_81, e197_84, e197_85, e197_87, e197_88, e197_89, e197_92, e197_93, e197_97, e197_99, e197_102, e197_103, e197_106, e197_108, e197_109, e197_110, e197_111, e197_114, e197_116, e197_118, e197_119, e197_121, e197_122, e197_123, e197_124, e197_125, e197_128, e197_131, e197_132, e197_133, e197_136, e197_138, e197_141, e197_143, e197_144, e197_147, e197_149, e197_152, e197_153, s59, s59_0, s59_1, s59_2, s59_3, s59_4, s59_5, s59_6, s59_7, s59_8, s59_9, s59_10, s59_11, s59_12, s59_13, s59_14, s59_15, s59_16, s59_17, s59_18, s59_19, s59_20, s59_21, s59_22, s59_23, s59_24, s59_25, s59_26, s59_27, s59_28, s59_29, s59_30, s59_31, r59_0, r59_1, r59_2, r59_3, r59_6, r59_8, r59_9, r59_13, r59_15, r59_16, r59_17, r59_19, r59_22, r59_23, r59_26, r59_30, r59_31, s60, s61, s62, s63, s64, s65, s66, s67, s68, s69, s70, s71, s72, s73, s74, s75, s76, r1, z10, z01, z1m, zm1, z0m, zm0, am_o01, am_z01, hM2, hM3, hM4, am_bv_s, am_bw_s, eq_self, true_or, or_true, am_b0, am_b1, am_em, if_true, if_false, true_and, and_true, false_and, and_false, not_true_eq_false, not_false_eq_true, false_or, or_false, Bool.false_eq_true]
theorem m_ladder (hx : JM s M) (ho : okm s) (t p m i : Int32) : ∃ M', am_e X 198 0 [some (.ref (59 : Nat)), some (.int t), some (.int p), some (.int m), some (.int i)] [] kS M = some (some (.int (sp_ladder s t p m i)), kS, M') ∧ JM s M' ∧ am_of pM M M' := by
  have i1 := m_isTaker (X := X) (S := kS) (M := M) t
  have i2 := q_in (X := X) (S := kS) (M := M) p 0 100 (by decide : (0 : Int32).toInt64 = 0) (by decide : (100 : Int32).toInt64 = 100)
  have i3 := q_in (X := X) (S := kS) (M := M) m 1 9 (by decide : (1 : Int32).toInt64 = 1) (by decide : (9 : Int32).toInt64 = 9)
  unfold sp_ladder
  by_cases h1 : 0 ≤ t ∧ t ≤ 3
  · rw [am_bt h1] at i1
    by_cases h2 : 0 ≤ p ∧ p ≤ 100
    · rw [am_bt h2] at i2
      by_cases h3 : 1 ≤ m ∧ m ≤ 9
      · rw [am_bt h3] at i3
        by_cases h4 : i < -1
        · rw [if_neg (fun q => q.2.2.2 h4)]
          refine ⟨M, ?_, hx, am_of.rf⟩
          simp only [e198_0, e198_1, e198_4, e198_7, e198_8, e198_9, e198_10, e198_13, e198_16, e198_19, e198_20, e198_21, e198_22, e198_25, e198_28, e198_31, e198_33, e198_34, e198_37, e198_38, e198_39, e198_40, e198_41, e198_43, e198_46, e198_49, e198_51, s59, s59_0, s59_1, s59_2, s59_3, s59_4, s59_5, s59_6, s59_7, s59_8, s59_9, s59_10, s59_11, s59_12, s59_13, s59_14, s59_15, s59_16, s59_17, s59_18, s59_19, s59_20, s59_21, s59_22, s59_23, s59_24, s59_25, s59_26, s59_27, s59_28, s59_29, s59_30, s59_31, r59_0, r59_1, r59_2, r59_3, r59_6, r59_8, r59_9, r59_13, r59_15, r59_16, r59_17, r59_19, r59_22, r59_23, r59_26, r59_30, r59_31, s60, s61, s62, s63, s64, s65, s66, s67, s68, s69, s70, s71, s72, s73, s74, s75, s76, i1, i2, i3, z10, z01, z1m, zm1, z0m, zm0, h4, am_bv_s, am_bw_s, eq_self, true_or, or_true, am_b0, am_b1, am_em, if_true, if_false, true_and, and_true, false_and, and_false, not_true_eq_false, not_false_eq_true, false_or, or_false, Bool.false_eq_true]
        · rw [if_pos ⟨h1, h2, h3, h4⟩]
          obtain ⟨tn, htn, rfl⟩ := in_n (n := 3) h1 (by decide)
          obtain ⟨pn, hpn, rfl⟩ := in_n (n := 100) h2 (by decide)
          obtain ⟨mn, hmn, rfl⟩ := in_n (n := 9) ⟨Int32.le_trans (by decide) h3.1, h3.2⟩ (by decide)
          have hm1 : 1 ≤ mn := by
            have q := h3.1
            rw [Int32.le_iff_toInt_le, nI_toInt (by omega), show (1 : Int32).toInt = 1 from by decide] at q
            omega
          rw [nI_clamp (n := tn) (by omega), nI_clamp (n := pn) (by omega), nI_clamp (n := mn) (by omega)]
          obtain ⟨M', r1, r2, r3⟩ := m_ladderOf (X := X) hx ho (show tn < 4 by omega) hpn hm1 hmn h4
          refine ⟨M', ?_, r2, r3.mo fun a k q => pL2_M q⟩
          simp only [e198_0, e198_1, e198_4, e198_7, e198_8, e198_9, e198_10, e198_13, e198_16, e198_19, e198_20, e198_21, e198_22, e198_25, e198_28, e198_31, e198_33, e198_34, e198_37, e198_38, e198_39, e198_40, e198_41, e198_43, e198_46, e198_49, e198_51, s59, s59_0, s59_1, s59_2, s59_3, s59_4, s59_5, s59_6, s59_7, s59_8, s59_9, s59_10, s59_11, s59_12, s59_13, s59_14, s59_15, s59_16, s59_17, s59_18, s59_19, s59_20, s59_21, s59_22, s59_23, s59_24, s59_25, s59_26, s59_27, s59_28, s59_29, s59_30, s59_31, r59_0, r59_1, r59_2, r59_3, r59_6, r59_8, r59_9, r59_13, r59_15, r59_16, r59_17, r59_19, r59_22, r59_23, r59_26, r59_30, r59_31, s60, s61, s62, s63, s64, s65, s66, s67, s68, s69, s70, s71, s72, s73, s74, s75, s76, i1, i2, i3, z10, z01, z1m, zm1, z0m, zm0, h4, r1, am_bv_s, am_bw_s, eq_self, true_or, or_true, am_b0, am_b1, am_em, if_true, if_false, true_and, and_true, false_and, and_false, not_true_eq_false, not_false_eq_true, false_or, or_false, Bool.false_eq_true]
      · rw [am_bf h3] at i3
        rw [if_neg (fun q => h3 q.2.2.1)]
        refine ⟨M, ?_, hx, am_of.rf⟩
        simp only [e198_0, e198_1, e198_4, e198_7, e198_8, e198_9, e198_10, e198_13, e198_16, e198_19, e198_20, e198_21, e198_22, e198_25, e198_28, e198_31, e198_33, e198_34, e198_37, e198_38, e198_39, e198_40, e198_41, e198_43, e198_46, e198_49, e198_51, s59, s59_0, s59_1, s59_2, s59_3, s59_4, s59_5, s59_6, s59_7, s59_8, s59_9, s59_10, s59_11, s59_12, s59_13, s59_14, s59_15, s59_16, s59_17, s59_18, s59_19, s59_20, s59_21, s59_22, s59_23, s59_24, s59_25, s59_26, s59_27, s59_28, s59_29, s59_30, s59_31, r59_0, r59_1, r59_2, r59_3, r59_6, r59_8, r59_9, r59_13, r59_15, r59_16, r59_17, r59_19, r59_22, r59_23, r59_26, r59_30, r59_31, s60, s61, s62, s63, s64, s65, s66, s67, s68, s69, s70, s71, s72, s73, s74, s75, s76, i1, i2, i3, z10, z01, z1m, zm1, z0m, zm0, am_bv_s, am_bw_s, eq_self, true_or, or_true, am_b0, am_b1, am_em, if_true, if_false, true_and, and_true, false_and, and_false, not_true_eq_false, not_false_eq_true, false_or, or_false, Bool.false_eq_true]
    · rw [am_bf h2] at i2
      rw [if_neg (fun q => h2 q.2.1)]
      refine ⟨M, ?_, hx, am_of.rf⟩
      simp only [e198_0, e198_1, e198_4, e198_7, e198_8, e198_9, e198_10, e198_13, e198_16, e198_19, e198_20, e198_21, e198_22, e198_25, e198_28, e198_31, e198_33, e198_34, e198_37, e198_38, e198_39, e198_40, e198_41, e198_43, e198_46, e198_49, e198_51, s59, s59_0, s59_1, s59_2, s59_3, s59_4, s59_5, s59_6, s59_7, s59_8, s59_9, s59_10, s59_11, s59_12, s59_13, s59_14, s59_15, s59_16, s59_17, s59_18, s59_19, s59_20, s59_21, s59_22, s59_23, s59_24, s59_25, s59_26, s59_27, s59_28, s59_29, s59_30, s59_31, r59_0, r59_1, r59_2, r59_3, r59_6, r59_8, r59_9, r59_13, r59_15, r59_16, r59_17, r59_19, r59_22, r59_23, r59_26, r59_30, r59_31, s60, s61, s62, s63, s64, s65, s66, s67, s68, s69, s70, s71, s72, s73, s74, s75, s76, i1, i2, z10, z01, z1m, zm1, z0m, zm0, am_bv_s, am_bw_s, eq_self, true_or, or_true, am_b0, am_b1, am_em, if_true, if_false, true_and, and_true, false_and, and_false, not_true_eq_false, not_false_eq_true, false_or, or_false, Bool.false_eq_true]
  · rw [am_bf h1] at i1
    rw [if_neg (fun q => h1 q.1)]
    refine ⟨M, ?_, hx, am_of.rf⟩
    simp only [e198_0, e198_1, e198_4, e198_7, e198_8, e198_9, e198_10, e198_13, e198_16, e198_19, e198_20, e198_21, e198_22, e198_25, e198_28, e198_31, e198_33, e198_34, e198_37, e198_38, e198_39, e198_40, e198_41, e198_43, e198_46, e198_49, e198_51, s59, s59_0, s59_1, s59_2, s59_3, s59_4, s59_5, s59_6, s59_7, s59_8, s59_9, s59_10, s59_11, s59_12, s59_13, s59_14, s59_15, s59_16, s59_17, s59_18, s59_19, s59_20, s59_21, s59_22, s59_23, s59_24, s59_25, s59_26, s59_27, s59_28, s59_29, s59_30, s59_31, r59_0, r59_1, r59_2, r59_3, r59_6, r59_8, r59_9, r59_13, r59_15, r59_16, r59_17, r59_19, r59_22, r59_23, r59_26, r59_30, r59_31, s60, s61, s62, s63, s64, s65, s66, s67, s68, s69, s70, s71, s72, s73, s74, s75, s76, i1, z10, z01, z1m, zm1, z0m, zm0, am_bv_s, am_bw_s, eq_self, true_or, or_true, am_b0, am_b1, am_em, if_true, if_false, true_and, and_true, false_and, and_false, not_true_eq_false, not_false_eq_true, false_or, or_false, Bool.false_eq_true]
end
