/-! the reference: next, deal -/
def gAB (A B : Nat → Nat) : Option Nat → Nat × Nat
  | none => (0, 1)
  | some j => (A j, B j)
/-- whether one more goes to b rather than to j -/
def gMr (h sz : Nat → Nat) (j b : Nat) : Prop := if h b * (h b + 1) = 0 ∧ h j * (h j + 1) = 0 then sz j * sz j < sz b * sz b else (h b * (h b + 1) = 0 ∨ (0 < h j * (h j + 1) ∧ sz j * sz j * (h b * (h b + 1)) < sz b * sz b * (h j * (h j + 1))))
noncomputable def goR (h sz : Nat → Nat) : Nat → Nat
  | 0 => 0
  | k + 1 => @ite _ (gMr h sz (goR h sz k) (k + 1)) (Classical.propDecidable _) (k + 1) (goR h sz k)
theorem goR_le {h sz : Nat → Nat} : ∀ k, goR h sz k ≤ k
  | 0 => Nat.le_refl _
  | k + 1 => by
    have := goR_le (h := h) (sz := sz) k
    rw [goR]
    split <;> omega
theorem goR_t {h sz : Nat → Nat} {k : Nat} (c : gMr h sz (goR h sz k) (k + 1)) : goR h sz (k + 1) = k + 1 := if_pos c
theorem goR_f {h sz : Nat → Nat} {k : Nat} (c : ¬ gMr h sz (goR h sz k) (k + 1)) : goR h sz (k + 1) = goR h sz k := if_neg c
theorem hh0 {x : Nat} : x * (x + 1) = 0 ↔ x = 0 := by
  constructor
  · intro h
    rcases Nat.mul_eq_zero.mp h with h | h
    · exact h
    · omega
  · intro h
    rw [h]
theorem sq_lt {a b : Nat} : a * a < b * b ↔ a < b := by
  constructor
  · intro h
    apply Nat.lt_of_not_le
    intro q
    have := Nat.mul_le_mul q q
    omega
  · intro h
    exact Nat.lt_of_le_of_lt (Nat.mul_le_mul_left a (Nat.le_of_lt h)) (Nat.mul_lt_mul_of_pos_right h (by omega))
theorem gwo_no {h sz : Nat → Nat} : ∀ n, (∀ b, b < n → 1 ≤ sz b) → gwo h sz n = none → ∀ b, b < n → 0 < h b
  | 0, _, _, b, hb => absurd hb (Nat.not_lt_zero _)
  | n + 1, hs, q, b, hb => by
    rw [gwo] at q
    by_cases c : h n = 0 ∧ gwm sz (gwo h sz n) < sz n
    · rw [if_pos c] at q
      cases q
    · rw [if_neg c] at q
      by_cases e : b = n
      · subst e
        apply Nat.pos_of_ne_zero
        intro z
        rw [q] at c
        have := hs b hb
        exact c ⟨z, by show 0 < sz b; omega⟩
      · exact gwo_no n (fun b hb => hs b (by omega)) q b (by omega)
theorem gwo_h {h sz : Nat → Nat} {j : Nat} : ∀ n, gwo h sz n = some j → h j = 0
  | 0, q => by cases q
  | n + 1, q => by
    rw [gwo] at q
    by_cases c : h n = 0 ∧ gwm sz (gwo h sz n) < sz n
    · rw [if_pos c] at q
      cases q
      exact c.1
    · rw [if_neg c] at q
      exact gwo_h n q
/-- both ways of dealing agree -/
theorem pick_R {h : Nat → Nat} {d : sgD} (hs : ∀ b, b < d.1 → 1 ≤ d.2 b) : ∀ n, n < d.1 → orE (gwo h d.2 (n + 1)) (ggo (dA d) (dB h) (n + 1)) = some (goR h d.2 n)
  | 0, hn => by
    have h1 := hs 0 hn
    by_cases h0 : h 0 = 0
    · have e : gwo h d.2 (0 + 1) = some 0 := by
        rw [gwo, if_pos ⟨h0, (show gwm d.2 none < d.2 0 from h1)⟩]
      rw [e]
      rfl
    · have e : gwo h d.2 (0 + 1) = none := by
        rw [gwo, if_neg (fun q => h0 q.1)]
        rfl
      rw [e]
      rfl
  | n + 1, hn => by
    have ih := pick_R (h := h) hs n (by omega)
    have hsn := hs (n + 1) hn
    cases hq : gwo h d.2 (n + 1) with
    | some j =>
      rw [hq] at ih
      have ij : goR h d.2 n = j := by
        have e : orE (some j) (ggo (dA d) (dB h) (n + 1)) = some j := rfl
        rw [e] at ih
        cases ih
        rfl
      have hj := gwo_h _ hq
      have hj0 : h j * (h j + 1) = 0 := hh0.mpr hj
      by_cases c : h (n + 1) = 0 ∧ d.2 j < d.2 (n + 1)
      · have e : gwo h d.2 (n + 1 + 1) = some (n + 1) := by rw [gwo, hq, if_pos (show h (n + 1) = 0 ∧ gwm d.2 (some j) < d.2 (n + 1) from c)]
        have g : gMr h d.2 (goR h d.2 n) (n + 1) := by
          rw [ij]
          unfold gMr
          rw [if_pos ⟨hh0.mpr c.1, hj0⟩]
          exact sq_lt.mpr c.2
        rw [e, goR_t g]
        rfl
      · have e : gwo h d.2 (n + 1 + 1) = some j := by rw [gwo, hq, if_neg (show ¬ (h (n + 1) = 0 ∧ gwm d.2 (some j) < d.2 (n + 1)) from c)]
        have g : ¬ gMr h d.2 (goR h d.2 n) (n + 1) := by
          rw [ij]
          unfold gMr
          intro q
          by_cases z : h (n + 1) = 0
          · rw [if_pos ⟨hh0.mpr z, hj0⟩] at q
            exact c ⟨z, sq_lt.mp q⟩
          · rw [if_neg (fun y => z (hh0.mp y.1))] at q
            rcases q with q | q
            · exact z (hh0.mp q)
            · have := q.1
              omega
        rw [e, goR_f g, ij]
        rfl
    | none =>
      rw [hq] at ih
      have pos := gwo_no (n + 1) (fun b hb => hs b (by omega)) hq
      have eo : ∀ b, orE none b = b := fun _ => rfl
      rw [eo] at ih
      have il := goR_le (h := h) (sz := d.2) n
      have hj := pos (goR h d.2 n) (by omega)
      have hj0 : ¬ h (goR h d.2 n) * (h (goR h d.2 n) + 1) = 0 := fun q => by have := hh0.mp q; omega
      by_cases c : h (n + 1) = 0
      · have e : gwo h d.2 (n + 1 + 1) = some (n + 1) := by rw [gwo, hq, if_pos (show h (n + 1) = 0 ∧ gwm d.2 none < d.2 (n + 1) from ⟨c, hsn⟩)]
        have g : gMr h d.2 (goR h d.2 n) (n + 1) := by
          unfold gMr
          rw [if_neg (fun q => hj0 q.2)]
          exact Or.inl (hh0.mpr c)
        rw [e, goR_t g]
        rfl
      · have e : gwo h d.2 (n + 1 + 1) = none := by rw [gwo, hq, if_neg (fun q => c q.1)]
        rw [e, eo, ggo, ih]
        have cm : ¬ h (n + 1) * (h (n + 1) + 1) = 0 := fun q => c (hh0.mp q)
        by_cases g : gMr h d.2 (goR h d.2 n) (n + 1)
        · rw [goR_t g]
          unfold gMr at g
          rw [if_neg (fun q => cm q.1)] at g
          rcases g with g | g
          · exact absurd g cm
          · exact if_pos (show gMo (dA d) (dB h) (n + 1) (some (goR h d.2 n)) = true from decide_eq_true g.2)
        · rw [goR_f g]
          unfold gMr at g
          rw [if_neg (fun q => cm q.1)] at g
          exact if_neg (show ¬ gMo (dA d) (dB h) (n + 1) (some (goR h d.2 n)) = true from fun q => g (Or.inr ⟨Nat.pos_of_ne_zero hj0, of_decide_eq_true q⟩))
theorem pick_g {h : Nat → Nat} {d : sgD} (hs : ∀ b, b < d.1 → 1 ≤ d.2 b) (h0 : 0 < d.1) : pick h d = some (goR h d.2 (d.1 - 1)) := by
  have := pick_R (h := h) hs (d.1 - 1) (by omega)
  rw [show d.1 - 1 + 1 = d.1 by omega] at this
  exact this
section
variable {X : am_X} {S : am_Sh} {M M' : am_Me} {P : Nat → Nat → Prop} {s : sgm}
theorem m_nextOf {t : Nat} (hx : JM s M) (ho : okm s) (ht : t < 4) : ∃ M', am_e X 199 0 [some (.ref (59 : Nat)), some (.int (nI t)), none, none, none, none, none, none, none, none, none, none, none, none, none] [] kS M = some (some (.int (oI (sNx s t))), kS, M') ∧ JM s M' ∧ am_of pmS M M' := by
  obtain ⟨M1, r1, j1, of1⟩ := m_said (X := X) hx ho
  have y52 := hx.2.2.2.2.2.1
  have d6 := ho.2.1.1
  have h40 := fun k => sAs_le d6 (l := s.2.2.2.1) (A := s.2.2.2.2) (t := t) (k := k)
  have hy := fun k => sYe_le (nb := s.2.1.1) (l := s.2.2.2.1) (A := s.2.2.2.2) (t := t) (k := k)
  refine ⟨M1, ?_, j1.1, of1⟩
  have dd := j1.1.2.1
  obtain ⟨M', e1, rfl⟩ := am_lp (X := X) (S := kS) (mi := 199) (pc := 15) s.2.1.1 (fun i => [some (.ref (59 : Nat)), some (.int (nI t)), some (.int (oI (gwo (sAs s.2.1.1 s.2.2.2.1 s.2.2.2.2 t) s.2.1.2 i))), some (.int (nI (gwm s.2.1.2 (gwo (sAs s.2.1.1 s.2.2.2.1 s.2.2.2.2 t) s.2.1.2 i)))), some (.int (nI i)), none, none, none, none, none, none, none, none, none, none])
    (fun i M' => M' = M1) (M := M1) rfl (by
      intro j M2 hj hI
      subst hI
      have c1 : (nI j < nI s.2.1.1) = True := eq_true (nI_lt hj (by omega))
      have cj : (nI j).toNatClampNeg = j := nI_clamp (by omega)
      have qa := j1.as (X := X) ho ht (show j < 7 by omega)
      have h4 := h40 j
      have s99 := ho.2.1.2 j hj
      have gm : gwm s.2.1.2 (gwo (sAs s.2.1.1 s.2.2.2.1 s.2.2.2.2 t) s.2.1.2 j) ≤ 99 := by
        cases hq : gwo (sAs s.2.1.1 s.2.2.2.1 s.2.2.2.2 t) s.2.1.2 j with
        | none => exact Nat.zero_le _
        | some q =>
          have := gwo_lt j hq
          exact (ho.2.1.2 q (by omega)).2
      have sz := dd.2 j hj
      generalize sAs s.2.1.1 s.2.2.2.1 s.2.2.2.2 t = h at *
      have c2 : (nI (h j) = 0) = (h j = 0) := nI_0e (by omega)
      have c3 : (nI (gwm s.2.1.2 (gwo h s.2.1.2 j)) < nI (s.2.1.2 j)) = (gwm s.2.1.2 (gwo h s.2.1.2 j) < s.2.1.2 j) := ok_lt (by omega) (by omega)
      refine ⟨M2, ?_, rfl⟩
      by_cases h0 : h j = 0
      · by_cases h1 : gwm s.2.1.2 (gwo h s.2.1.2 j) < s.2.1.2 j
        · have e : gwo h s.2.1.2 (j + 1) = some j := by rw [gwo, if_pos ⟨h0, h1⟩]
          rw [e, oI, gwm, e199_15]
          simp only [e199_0, e199_1, e199_2, e199_5, e199_8, e199_9, e199_10, e199_11, e199_12, e199_13, e199_17, e199_18, e199_21, e199_24, e199_25, e199_26, e199_28, e199_29, e199_32, e199_35, e199_36, e199_39, e199_41, e199_42, e199_43, e199_46, e199_48, e199_49, e199_50, e199_53, e199_55, e199_56, e199_57, e199_60, e199_63, e199_64, e199_65, e199_68, e199_69, e199_70, e199_71, e199_73, e199_74, e199_76, e199_77, e199_81, e199_82, e199_85, e199_88, e199_89, e199_90, e199_92, e199_93, e199_96, e199_98, e199_99, e199_100, e199_102, e199_103, e199_106, e199_108, e199_109, e199_112, e199_114, e199_115, e199_116, e199_117, e199_120, e199_122, e199_123, e199_124, e199_125, e199_127, e199_128, e199_129, e199_130, e199_131, e199_133, e199_135, e199_136, e199_137, e199_138, e199_139, e199_140, e199_142, e199_144, e199_145, e199_146, e199_147, e199_149, e199_150, e199_151, e199_152, e199_153, e199_155, e199_156, e199_157, e199_159, e199_160, e199_161, e199_162, e199_163, e199_165, e199_166, e199_167, e199_170, e199_172, e199_174, e199_175, e199_177, e199_179, e199_180, e199_181, e199_184, e199_186, e199_187, e199_189, e199_191, e199_193, e199_195, e199_198, e199_201, e199_202, s59, s59_0, s59_1, s59_2, s59_3, s59_4, s59_5, s59_6, s59_7, s59_8, s59_9, s59_10, s59_11, s59_12, s59_13, s59_14, s59_15, s59_16, s59_17, s59_18, s59_19, s59_20, s59_21, s59_22, s59_23, s59_24, s59_25, s59_26, s59_27, s59_28, s59_29, s59_30, s59_31, r59_0, r59_1, r59_2, r59_3, r59_6, r59_8, r59_9, r59_13, r59_15, r59_16, r59_17, r59_19, r59_22, r59_23, r59_26, r59_30, r59_31, s60, s61, s62, s63, s64, s65, s66, s67, s68, s69, s70, s71, s72, s73, s74, s75, s76, dd.1, c1, cj, qa, sz, h0, (eq_true rfl : (nI 0 = 0) = True), c3, h1, nI_1, a64 (show j < 6 by omega), am_bv_s, am_bw_s, eq_self, true_or, or_true, am_b0, am_b1, am_em, if_true, if_false, true_and, and_true, false_and, and_false, not_true_eq_false, not_false_eq_true, false_or, or_false, Bool.false_eq_true]
        · have e : gwo h s.2.1.2 (j + 1) = gwo h s.2.1.2 j := by rw [gwo, if_neg (fun q => h1 q.2)]
          rw [e, e199_15]
          simp only [e199_0, e199_1, e199_2, e199_5, e199_8, e199_9, e199_10, e199_11, e199_12, e199_13, e199_17, e199_18, e199_21, e199_24, e199_25, e199_26, e199_28, e199_29, e199_32, e199_35, e199_36, e199_39, e199_41, e199_42, e199_43, e199_46, e199_48, e199_49, e199_50, e199_53, e199_55, e199_56, e199_57, e199_60, e199_63, e199_64, e199_65, e199_68, e199_69, e199_70, e199_71, e199_73, e199_74, e199_76, e199_77, e199_81, e199_82, e199_85, e199_88, e199_89, e199_90, e199_92, e199_93, e199_96, e199_98, e199_99, e199_100, e199_102, e199_103, e199_106, e199_108, e199_109, e199_112, e199_114, e199_115, e199_116, e199_117, e199_120, e199_122, e199_123, e199_124, e199_125, e199_127, e199_128, e199_129, e199_130, e199_131, e199_133, e199_135, e199_136, e199_137, e199_138, e199_139, e199_140, e199_142, e199_144, e199_145, e199_146, e199_147, e199_149, e199_150, e199_151, e199_152, e199_153, e199_155, e199_156, e199_157, e199_159, e199_160, e199_161, e199_162, e199_163, e199_165, e199_166, e199_167, e199_170, e199_172, e199_174, e199_175, e199_177, e199_179, e199_180, e199_181, e199_184, e199_186, e199_187, e199_189, e199_191, e199_193, e199_195, e199_198, e199_201, e199_202, s59, s59_0, s59_1, s59_2, s59_3, s59_4, s59_5, s59_6, s59_7, s59_8, s59_9, s59_10, s59_11, s59_12, s59_13, s59_14, s59_15, s59_16, s59_17, s59_18, s59_19, s59_20, s59_21, s59_22, s59_23, s59_24, s59_25, s59_26, s59_27, s59_28, s59_29, s59_30, s59_31, r59_0, r59_1, r59_2, r59_3, r59_6, r59_8, r59_9, r59_13, r59_15, r59_16, r59_17, r59_19, r59_22, r59_23, r59_26, r59_30, r59_31, s60, s61, s62, s63, s64, s65, s66, s67, s68, s69, s70, s71, s72, s73, s74, s75, s76, dd.1, c1, cj, qa, sz, h0, (eq_true rfl : (nI 0 = 0) = True), c3, h1, nI_1, a64 (show j < 6 by omega), am_bv_s, am_bw_s, eq_self, true_or, or_true, am_b0, am_b1, am_em, if_true, if_false, true_and, and_true, false_and, and_false, not_true_eq_false, not_false_eq_true, false_or, or_false, Bool.false_eq_true]
      · have e : gwo h s.2.1.2 (j + 1) = gwo h s.2.1.2 j := by rw [gwo, if_neg (fun q => h0 q.1)]
        rw [e, e199_15]
        simp only [e199_0, e199_1, e199_2, e199_5, e199_8, e199_9, e199_10, e199_11, e199_12, e199_13, e199_17, e199_18, e199_21, e199_24, e199_25, e199_26, e199_28, e199_29, e199_32, e199_35, e199_36, e199_39, e199_41, e199_42, e199_43, e199_46, e199_48, e199_49, e199_50, e199_53, e199_55, e199_56, e199_57, e199_60, e199_63, e199_64, e199_65, e199_68, e199_69, e199_70, e199_71, e199_73, e199_74, e199_76, e199_77, e199_81, e199_82, e199_85, e199_88, e199_89, e199_90, e199_92, e199_93, e199_96, e199_98, e199_99, e199_100, e199_102, e199_103, e199_106, e199_108, e199_109, e199_112, e199_114, e199_115, e199_116, e199_117, e199_120, e199_122, e199_123, e199_124, e199_125, e199_127, e199_128, e199_129, e199_130, e199_131, e199_133, e199_135, e199_136, e199_137, e199_138, e199_139, e199_140, e199_142, e199_144, e199_145, e199_146, e199_147, e199_149, e199_150, e199_151, e199_152, e199_153, e199_155, e199_156, e199_157, e199_159, e199_160, e199_161, e199_162, e199_163, e199_165, e199_166, e199_167, e199_170, e199_172, e199_174, e199_175, e199_177, e199_179, e199_180, e199_181, e199_184, e199_186, e199_187, e199_189, e199_191, e199_193, e199_195, e199_198, e199_201, e199_202, s59, s59_0, s59_1, s59_2, s59_3, s59_4, s59_5, s59_6, s59_7, s59_8, s59_9, s59_10, s59_11, s59_12, s59_13, s59_14, s59_15, s59_16, s59_17, s59_18, s59_19, s59_20, s59_21, s59_22, s59_23, s59_24, s59_25, s59_26, s59_27, s59_28, s59_29, s59_30, s59_31, r59_0, r59_1, r59_2, r59_3, r59_6, r59_8, r59_9, r59_13, r59_15, r59_16, r59_17, r59_19, r59_22, r59_23, r59_26, r59_30, r59_31, s60, s61, s62, s63, s64, s65, s66, s67, s68, s69, s70, s71, s72, s73, s74, s75, s76, dd.1, c1, cj, qa, c2, h0, nI_1, a64 (show j < 6 by omega), am_bv_s, am_bw_s, eq_self, true_or, or_true, am_b0, am_b1, am_em, if_true, if_false, true_and, and_true, false_and, and_false, not_true_eq_false, not_false_eq_true, false_or, or_false, Bool.false_eq_true])
  have cn : (nI s.2.1.1 < nI s.2.1.1) = False := eq_false (nI_nlt (Nat.le_refl _) (by omega))
  have cf := oI_n (o := gwo (sAs s.2.1.1 s.2.2.2.1 s.2.2.2.2 t) s.2.1.2 s.2.1.1) (fun j h => by have := gwo_lt _ h; omega)
  have pre : ∀ z, am_e X 199 15 [some (.ref (59 : Nat)), some (.int (nI t)), some (.int (-1)), some (.int 0), some (.int 0), none, none, none, none, none, none, none, none, none, none] [] kS M' = z → am_e X 199 0 [some (.ref (59 : Nat)), some (.int (nI t)), none, none, none, none, none, none, none, none, none, none, none, none, none] [] kS M = z := fun z hz => by
    rw [← hz]
    simp only [e199_0, e199_1, e199_2, e199_5, e199_8, e199_9, e199_10, e199_11, e199_12, e199_13, e199_17, e199_18, e199_21, e199_24, e199_25, e199_26, e199_28, e199_29, e199_32, e199_35, e199_36, e199_39, e199_41, e199_42, e199_43, e199_46, e199_48, e199_49, e199_50, e199_53, e199_55, e199_56, e199_57, e199_60, e199_63, e199_64, e199_65, e199_68, e199_69, e199_70, e199_71, e199_73, e199_74, e199_76, e199_77, e199_81, e199_82, e199_85, e199_88, e199_89, e199_90, e199_92, e199_93, e199_96, e199_98, e199_99, e199_100, e199_102, e199_103, e199_106, e199_108, e199_109, e199_112, e199_114, e199_115, e199_116, e199_117, e199_120, e199_122, e199_123, e199_124, e199_125, e199_127, e199_128, e199_129, e199_130, e199_131, e199_133, e199_135, e199_136, e199_137, e199_138, e199_139, e199_140, e199_142, e199_144, e199_145, e199_146, e199_147, e199_149, e199_150, e199_151, e199_152, e199_153, e199_155, e199_156, e199_157, e199_159, e199_160, e199_161, e199_162, e199_163, e199_165, e199_166, e199_167, e199_170, e199_172, e199_174, e199_175, e199_177, e199_179, e199_180, e199_181, e199_184, e199_186, e199_187, e199_189, e199_191, e199_193, e199_195, e199_198, e199_201, e199_202, s59, s59_0, s59_1, s59_2, s59_3, s59_4, s59_5, s59_6, s59_7, s59_8, s59_9, s59_10, s59_11, s59_12, s59_13, s59_14, s59_15, s59_16, s59_17, s59_18, s59_19, s59_20, s59_21, s59_22, s59_23, s59_24, s59_25, s59_26, s59_27, s59_28, s59_29, s59_30, s59_31, r59_0, r59_1, r59_2, r59_3, r59_6, r59_8, r59_9, r59_13, r59_15, r59_16, r59_17, r59_19, r59_22, r59_23, r59_26, r59_30, r59_31, s60, s61, s62, s63, s64, s65, s66, s67, s68, s69, s70, s71, s72, s73, s74, s75, s76, y52, r1, am_bv_s, am_bw_s, eq_self, true_or, or_true, am_b0, am_b1, am_em, if_true, if_false, true_and, and_true, false_and, and_false, not_true_eq_false, not_false_eq_true, false_or, or_false, Bool.false_eq_true]
  apply pre
  have z1 : oI (gwo (sAs s.2.1.1 s.2.2.2.1 s.2.2.2.2 t) s.2.1.2 0) = -1 := rfl
  have z2 : nI (gwm s.2.1.2 (gwo (sAs s.2.1.1 s.2.2.2.1 s.2.2.2.2 t) s.2.1.2 0)) = 0 := rfl
  rw [z1, z2, nI_0] at e1
  unfold sNx
  rw [e1]
  cases hq : gwo (sAs s.2.1.1 s.2.2.2.1 s.2.2.2.2 t) s.2.1.2 s.2.1.1 with
  | some q =>
    rw [hq] at cf
    have cf2 : (oI (some q) = -1) = False := by rw [cf]; exact eq_false (fun z => by cases z)
    have eo : ∀ b, orE (some q) b = some q := fun _ => rfl
    rw [eo, e199_15]
    simp only [e199_0, e199_1, e199_2, e199_5, e199_8, e199_9, e199_10, e199_11, e199_12, e199_13, e199_17, e199_18, e199_21, e199_24, e199_25, e199_26, e199_28, e199_29, e199_32, e199_35, e199_36, e199_39, e199_41, e199_42, e199_43, e199_46, e199_48, e199_49, e199_50, e199_53, e199_55, e199_56, e199_57, e199_60, e199_63, e199_64, e199_65, e199_68, e199_69, e199_70, e199_71, e199_73, e199_74, e199_76, e199_77, e199_81, e199_82, e199_85, e199_88, e199_89, e199_90, e199_92, e199_93, e199_96, e199_98, e199_99, e199_100, e199_102, e199_103, e199_106, e199_108, e199_109, e199_112, e199_114, e199_115, e199_116, e199_117, e199_120, e199_122, e199_123, e199_124, e199_125, e199_127, e199_128, e199_129, e199_130, e199_131, e199_133, e199_135, e199_136, e199_137, e199_138, e199_139, e199_140, e199_142, e199_144, e199_145, e199_146, e199_147, e199_149, e199_150, e199_151, e199_152, e199_153, e199_155, e199_156, e199_157, e199_159, e199_160, e199_161, e199_162, e199_163, e199_165, e199_166, e199_167, e199_170, e199_172, e199_174, e199_175, e199_177, e199_179, e199_180, e199_181, e199_184, e199_186, e199_187, e199_189, e199_191, e199_193, e199_195, e199_198, e199_201, e199_202, s59, s59_0, s59_1, s59_2, s59_3, s59_4, s59_5, s59_6, s59_7, s59_8, s59_9, s59_10, s59_11, s59_12, s59_13, s59_14, s59_15, s59_16, s59_17, s59_18, s59_19, s59_20, s59_21, s59_22, s59_23, s59_24, s59_25, s59_26, s59_27, s59_28, s59_29, s59_30, s59_31, r59_0, r59_1, r59_2, r59_3, r59_6, r59_8, r59_9, r59_13, r59_15, r59_16, r59_17, r59_19, r59_22, r59_23, r59_26, r59_30, r59_31, s60, s61, s62, s63, s64, s65, s66, s67, s68, s69, s70, s71, s72, s73, s74, s75, s76, dd.1, cn, cf2, am_bv_s, am_bw_s, eq_self, true_or, or_true, am_b0, am_b1, am_em, if_true, if_false, true_and, and_true, false_and, and_false, not_true_eq_false, not_false_eq_true, false_or, or_false, Bool.false_eq_true]
  | none =>
    have eo : ∀ b, orE none b = b := fun _ => rfl
    rw [eo]
    obtain ⟨M3, e3, rfl⟩ := am_lp (X := X) (S := kS) (mi := 199) (pc := 79) s.2.1.1 (fun i => [some (.ref (59 : Nat)), some (.int (nI t)), some (.int (oI (ggo (nA s t) (nB s t) i))), none, some (.long (lI (gAB (nA s t) (nB s t) (ggo (nA s t) (nB s t) i)).1)), none, some (.long (lI (gAB (nA s t) (nB s t) (ggo (nA s t) (nB s t) i)).2)), none, some (.int (nI i)), none, none, none, none, none, none])
      (fun i M2 => M2 = M') (M := M') rfl (by
        intro j M2 hj hI
        subst hI
        have c1 : (nI j < nI s.2.1.1) = True := eq_true (nI_lt hj (by omega))
        have cj : (nI j).toNatClampNeg = j := nI_clamp (by omega)
        have qa := j1.as (X := X) ho ht (show j < 7 by omega)
        have qy := j1.ye (X := X) ho ht (show j < 7 by omega)
        have sz := dd.2 j hj
        have h4 := h40 j
        have hyj := hy j
        have s99 := (ho.2.1.2 j hj).2
        have a0 : nI (sAs s.2.1.1 s.2.2.2.1 s.2.2.2.2 t j) - nI (sYe s.2.1.1 s.2.2.2.1 s.2.2.2.2 t j) = nI (sAs s.2.1.1 s.2.2.2.1 s.2.2.2.2 t j - sYe s.2.1.1 s.2.2.2.1 s.2.2.2.2 t j) := pk_sub hyj
        have a2 : ∀ n, nI n + 2 = nI (n + 2) := fun n => nI_add n 2
        have l1 := lI_w (n := sAs s.2.1.1 s.2.2.2.1 s.2.2.2.2 t j) (by omega)
        have l2 := lI_w (n := sAs s.2.1.1 s.2.2.2.1 s.2.2.2.2 t j + 1) (by omega)
        have l3 := lI_w (n := sAs s.2.1.1 s.2.2.2.1 s.2.2.2.2 t j + 2) (by omega)
        have l4 := lI_w (n := sYe s.2.1.1 s.2.2.2.1 s.2.2.2.2 t j + 1) (by omega)
        have l5 := lI_w (n := sAs s.2.1.1 s.2.2.2.1 s.2.2.2.2 t j - sYe s.2.1.1 s.2.2.2.1 s.2.2.2.2 t j + 1) (by omega)
        have l6 := lI_w (n := s.2.1.2 j) (by omega)
        have eA : s.2.1.2 j * s.2.1.2 j * (sYe s.2.1.1 s.2.2.2.1 s.2.2.2.2 t j + 1) * (sAs s.2.1.1 s.2.2.2.1 s.2.2.2.2 t j - sYe s.2.1.1 s.2.2.2.1 s.2.2.2.2 t j + 1) = nA s t j := rfl
        have eB : (sAs s.2.1.1 s.2.2.2.1 s.2.2.2.2 t j + 2) * (sAs s.2.1.1 s.2.2.2.1 s.2.2.2.2 t j + 2) * sAs s.2.1.1 s.2.2.2.1 s.2.2.2.2 t j * (sAs s.2.1.1 s.2.2.2.1 s.2.2.2.2 t j + 1) = nB s t j := rfl
        refine ⟨M2, ?_, rfl⟩
        cases hg : ggo (nA s t) (nB s t) j with
        | none =>
          have e : ggo (nA s t) (nB s t) (j + 1) = some j := by rw [ggo, hg, if_pos (show gMo (nA s t) (nB s t) j none = true from rfl)]
          rw [e, oI, oI, gAB, gAB, e199_79]
          simp only [e199_0, e199_1, e199_2, e199_5, e199_8, e199_9, e199_10, e199_11, e199_12, e199_13, e199_17, e199_18, e199_21, e199_24, e199_25, e199_26, e199_28, e199_29, e199_32, e199_35, e199_36, e199_39, e199_41, e199_42, e199_43, e199_46, e199_48, e199_49, e199_50, e199_53, e199_55, e199_56, e199_57, e199_60, e199_63, e199_64, e199_65, e199_68, e199_69, e199_70, e199_71, e199_73, e199_74, e199_76, e199_77, e199_81, e199_82, e199_85, e199_88, e199_89, e199_90, e199_92, e199_93, e199_96, e199_98, e199_99, e199_100, e199_102, e199_103, e199_106, e199_108, e199_109, e199_112, e199_114, e199_115, e199_116, e199_117, e199_120, e199_122, e199_123, e199_124, e199_125, e199_127, e199_128, e199_129, e199_130, e199_131, e199_133, e199_135, e199_136, e199_137, e199_138, e199_139, e199_140, e199_142, e199_144, e199_145, e199_146, e199_147, e199_149, e199_150, e199_151, e199_152, e199_153, e199_155, e199_156, e199_157, e199_159, e199_160, e199_161, e199_162, e199_163, e199_165, e199_166, e199_167, e199_170, e199_172, e199_174, e199_175, e199_177, e199_179, e199_180, e199_181, e199_184, e199_186, e199_187, e199_189, e199_191, e199_193, e199_195, e199_198, e199_201, e199_202, s59, s59_0, s59_1, s59_2, s59_3, s59_4, s59_5, s59_6, s59_7, s59_8, s59_9, s59_10, s59_11, s59_12, s59_13, s59_14, s59_15, s59_16, s59_17, s59_18, s59_19, s59_20, s59_21, s59_22, s59_23, s59_24, s59_25, s59_26, s59_27, s59_28, s59_29, s59_30, s59_31, r59_0, r59_1, r59_2, r59_3, r59_6, r59_8, r59_9, r59_13, r59_15, r59_16, r59_17, r59_19, r59_22, r59_23, r59_26, r59_30, r59_31, s60, s61, s62, s63, s64, s65, s66, s67, s68, s69, s70, s71, s72, s73, s74, s75, s76, dd.1, c1, cj, qa, qy, sz, a0, a2, nI_1, l1, l2, l3, l4, l5, l6, lI_mul, eA, eB, (eq_true rfl : ((-1 : Int32) = -1) = True), a64 (show j < 6 by omega), am_bv_s, am_bw_s, eq_self, true_or, or_true, am_b0, am_b1, am_em, if_true, if_false, true_and, and_true, false_and, and_false, not_true_eq_false, not_false_eq_true, false_or, or_false, Bool.false_eq_true]
        | some q =>
          have ql := ggo_lt j hg
          have n1 := nI_n1 (k := q) (by omega)
          have b1 := nA_le ho (t := t) (b := j) hj
          have b2 := nA_le ho (t := t) (b := q) (by omega)
          have c2 := lI_lt (Nat.lt_of_le_of_lt (Nat.mul_le_mul b2.1 b1.2) (by decide)) (Nat.lt_of_le_of_lt (Nat.mul_le_mul b1.1 b2.2) (by decide))
          by_cases h : nA s t q * nB s t j < nA s t j * nB s t q
          · have e : ggo (nA s t) (nB s t) (j + 1) = some j := by rw [ggo, hg, if_pos (show gMo (nA s t) (nB s t) j (some q) = true from decide_eq_true h)]
            rw [e, oI, oI, gAB, gAB, e199_79]
            simp only [e199_0, e199_1, e199_2, e199_5, e199_8, e199_9, e199_10, e199_11, e199_12, e199_13, e199_17, e199_18, e199_21, e199_24, e199_25, e199_26, e199_28, e199_29, e199_32, e199_35, e199_36, e199_39, e199_41, e199_42, e199_43, e199_46, e199_48, e199_49, e199_50, e199_53, e199_55, e199_56, e199_57, e199_60, e199_63, e199_64, e199_65, e199_68, e199_69, e199_70, e199_71, e199_73, e199_74, e199_76, e199_77, e199_81, e199_82, e199_85, e199_88, e199_89, e199_90, e199_92, e199_93, e199_96, e199_98, e199_99, e199_100, e199_102, e199_103, e199_106, e199_108, e199_109, e199_112, e199_114, e199_115, e199_116, e199_117, e199_120, e199_122, e199_123, e199_124, e199_125, e199_127, e199_128, e199_129, e199_130, e199_131, e199_133, e199_135, e199_136, e199_137, e199_138, e199_139, e199_140, e199_142, e199_144, e199_145, e199_146, e199_147, e199_149, e199_150, e199_151, e199_152, e199_153, e199_155, e199_156, e199_157, e199_159, e199_160, e199_161, e199_162, e199_163, e199_165, e199_166, e199_167, e199_170, e199_172, e199_174, e199_175, e199_177, e199_179, e199_180, e199_181, e199_184, e199_186, e199_187, e199_189, e199_191, e199_193, e199_195, e199_198, e199_201, e199_202, s59, s59_0, s59_1, s59_2, s59_3, s59_4, s59_5, s59_6, s59_7, s59_8, s59_9, s59_10, s59_11, s59_12, s59_13, s59_14, s59_15, s59_16, s59_17, s59_18, s59_19, s59_20, s59_21, s59_22, s59_23, s59_24, s59_25, s59_26, s59_27, s59_28, s59_29, s59_30, s59_31, r59_0, r59_1, r59_2, r59_3, r59_6, r59_8, r59_9, r59_13, r59_15, r59_16, r59_17, r59_19, r59_22, r59_23, r59_26, r59_30, r59_31, s60, s61, s62, s63, s64, s65, s66, s67, s68, s69, s70, s71, s72, s73, s74, s75, s76, dd.1, c1, cj, qa, qy, sz, a0, a2, nI_1, l1, l2, l3, l4, l5, l6, lI_mul, eA, eB, n1, lc_gt, c2, h, a64 (show j < 6 by omega), am_bv_s, am_bw_s, eq_self, true_or, or_true, am_b0, am_b1, am_em, if_true, if_false, true_and, and_true, false_and, and_false, not_true_eq_false, not_false_eq_true, false_or, or_false, Bool.false_eq_true]
          · have e : ggo (nA s t) (nB s t) (j + 1) = some q := by rw [ggo, hg, if_neg (show ¬ gMo (nA s t) (nB s t) j (some q) = true from fun z => h (of_decide_eq_true z))]
            rw [e, oI, gAB, e199_79]
            simp only [e199_0, e199_1, e199_2, e199_5, e199_8, e199_9, e199_10, e199_11, e199_12, e199_13, e199_17, e199_18, e199_21, e199_24, e199_25, e199_26, e199_28, e199_29, e199_32, e199_35, e199_36, e199_39, e199_41, e199_42, e199_43, e199_46, e199_48, e199_49, e199_50, e199_53, e199_55, e199_56, e199_57, e199_60, e199_63, e199_64, e199_65, e199_68, e199_69, e199_70, e199_71, e199_73, e199_74, e199_76, e199_77, e199_81, e199_82, e199_85, e199_88, e199_89, e199_90, e199_92, e199_93, e199_96, e199_98, e199_99, e199_100, e199_102, e199_103, e199_106, e199_108, e199_109, e199_112, e199_114, e199_115, e199_116, e199_117, e199_120, e199_122, e199_123, e199_124, e199_125, e199_127, e199_128, e199_129, e199_130, e199_131, e199_133, e199_135, e199_136, e199_137, e199_138, e199_139, e199_140, e199_142, e199_144, e199_145, e199_146, e199_147, e199_149, e199_150, e199_151, e199_152, e199_153, e199_155, e199_156, e199_157, e199_159, e199_160, e199_161, e199_162, e199_163, e199_165, e199_166, e199_167, e199_170, e199_172, e199_174, e199_175, e199_177, e199_179, e199_180, e199_181, e199_184, e199_186, e199_187, e199_189, e199_191, e199_193, e199_195, e199_198, e199_201, e199_202, s59, s59_0, s59_1, s59_2, s59_3, s59_4, s59_5, s59_6, s59_7, s59_8, s59_9, s59_10, s59_11, s59_12, s59_13, s59_14, s59_15, s59_16, s59_17, s59_18, s59_19, s59_20, s59_21, s59_22, s59_23, s59_24, s59_25, s59_26, s59_27, s59_28, s59_29, s59_30, s59_31, r59_0, r59_1, r59_2, r59_3, r59_6, r59_8, r59_9, r59_13, r59_15, r59_16, r59_17, r59_19, r59_22, r59_23, r59_26, r59_30, r59_31, s60, s61, s62, s63, s64, s65, s66, s67, s68, s69, s70, s71, s72, s73, s74, s75, s76, dd.1, c1, cj, qa, qy, sz, a0, a2, nI_1, l1, l2, l3, l4, l5, l6, lI_mul, eA, eB, n1, lc_gt, c2, h, a64 (show j < 6 by omega), am_bv_s, am_bw_s, eq_self, true_or, or_true, am_b0, am_b1, am_em, if_true, if_false, true_and, and_true, false_and, and_false, not_true_eq_false, not_false_eq_true, false_or, or_false, Bool.false_eq_true])
    have z3 : oI (ggo (nA s t) (nB s t) 0) = -1 := rfl
    have z4 : lI (gAB (nA s t) (nB s t) (ggo (nA s t) (nB s t) 0)).1 = 0 := rfl
    have z5 : lI (gAB (nA s t) (nB s t) (ggo (nA s t) (nB s t) 0)).2 = 1 := rfl
    have fin : am_e X 199 79 [some (.ref (59 : Nat)), some (.int (nI t)), some (.int (oI (ggo (nA s t) (nB s t) s.2.1.1))), none, some (.long (lI (gAB (nA s t) (nB s t) (ggo (nA s t) (nB s t) s.2.1.1)).1)), none, some (.long (lI (gAB (nA s t) (nB s t) (ggo (nA s t) (nB s t) s.2.1.1)).2)), none, some (.int (nI s.2.1.1)), none, none, none, none, none, none] [] kS M3 = some (some (.int (oI (ggo (nA s t) (nB s t) s.2.1.1))), kS, M3) := by
      rw [e199_79]
      simp only [e199_0, e199_1, e199_2, e199_5, e199_8, e199_9, e199_10, e199_11, e199_12, e199_13, e199_17, e199_18, e199_21, e199_24, e199_25, e199_26, e199_28, e199_29, e199_32, e199_35, e199_36, e199_39, e199_41, e199_42, e199_43, e199_46, e199_48, e199_49, e199_50, e199_53, e199_55, e199_56, e199_57, e199_60, e199_63, e199_64, e199_65, e199_68, e199_69, e199_70, e199_71, e199_73, e199_74, e199_76, e199_77, e199_81, e199_82, e199_85, e199_88, e199_89, e199_90, e199_92, e199_93, e199_96, e199_98, e199_99, e199_100, e199_102, e199_103, e199_106, e199_108, e199_109, e199_112, e199_114, e199_115, e199_116, e199_117, e199_120, e199_122, e199_123, e199_124, e199_125, e199_127, e199_128, e199_129, e199_130, e199_131, e199_133, e199_135, e199_136, e199_137, e199_138, e199_139, e199_140, e199_142, e199_144, e199_145, e199_146, e199_147, e199_149, e199_150, e199_151, e199_152, e199_153, e199_155, e199_156, e199_157, e199_159, e199_160, e199_161, e199_162, e199_163, e199_165, e199_166, e199_167, e199_170, e199_172, e199_174, e199_175, e199_177, e199_179, e199_180, e199_181, e199_184, e199_186, e199_187, e199_189, e199_191, e199_193, e199_195, e199_198, e199_201, e199_202, s59, s59_0, s59_1, s59_2, s59_3, s59_4, s59_5, s59_6, s59_7, s59_8, s59_9, s59_10, s59_11, s59_12, s59_13, s59_14, s59_15, s59_16, s59_17, s59_18, s59_19, s59_20, s59_21, s59_22, s59_23, s59_24, s59_25, s59_26, s59_27, s59_28, s59_29, s59_30, s59_31, r59_0, r59_1, r59_2, r59_3, r59_6, r59_8, r59_9, r59_13, r59_15, r59_16, r59_17, r59_19, r59_22, r59_23, r59_26, r59_30, r59_31, s60, s61, s62, s63, s64, s65, s66, s67, s68, s69, s70, s71, s72, s73, s74, s75, s76, dd.1, cn, am_bv_s, am_bw_s, eq_self, true_or, or_true, am_b0, am_b1, am_em, if_true, if_false, true_and, and_true, false_and, and_false, not_true_eq_false, not_false_eq_true, false_or, or_false, Bool.false_eq_true]
    rw [fin, z3, z4, z5, nI_0] at e3
    rw [← e3, e199_15]
    simp only [e199_0, e199_1, e199_2, e199_5, e199_8, e199_9, e199_10, e199_11, e199_12, e199_13, e199_17, e199_18, e199_21, e199_24, e199_25, e199_26, e199_28, e199_29, e199_32, e199_35, e199_36, e199_39, e199_41, e199_42, e199_43, e199_46, e199_48, e199_49, e199_50, e199_53, e199_55, e199_56, e199_57, e199_60, e199_63, e199_64, e199_65, e199_68, e199_69, e199_70, e199_71, e199_73, e199_74, e199_76, e199_77, e199_81, e199_82, e199_85, e199_88, e199_89, e199_90, e199_92, e199_93, e199_96, e199_98, e199_99, e199_100, e199_102, e199_103, e199_106, e199_108, e199_109, e199_112, e199_114, e199_115, e199_116, e199_117, e199_120, e199_122, e199_123, e199_124, e199_125, e199_127, e199_128, e199_129, e199_130, e199_131, e199_133, e199_135, e199_136, e199_137, e199_138, e199_139, e199_140, e199_142, e199_144, e199_145, e199_146, e199_147, e199_149, e199_150, e199_151, e199_152, e199_153, e199_155, e199_156, e199_157, e199_159, e199_160, e199_161, e199_162, e199_163, e199_165, e199_166, e199_167, e199_170, e199_172, e199_174, e199_175, e199_177, e199_179, e199_180, e199_181, e199_184, e199_186, e199_187, e199_189, e199_191, e199_193, e199_195, e199_198, e199_201, e199_202, s59, s59_0, s59_1, s59_2, s59_3, s59_4, s59_5, s59_6, s59_7, s59_8, s59_9, s59_10, s59_11, s59_12, s59_13, s59_14, s59_15, s59_16, s59_17, s59_18, s59_19, s59_20, s59_21, s59_22, s59_23, s59_24, s59_25, s59_26, s59_27, s59_28, s59_29, s59_30, s59_31, r59_0, r59_1, r59_2, r59_3, r59_6, r59_8, r59_9, r59_13, r59_15, r59_16, r59_17, r59_19, r59_22, r59_23, r59_26, r59_30, r59_31, s60, s61, s62, s63, s64, s65, s66, s67, s68, s69, s70, s71, s72, s73, s74, s75, s76, dd.1, cn, oI, (eq_true rfl : ((-1 : Int32) = -1) = True), am_bv_s, am_bw_s, eq_self, true_or, or_true, am_b0, am_b1, am_em, if_true, if_false, true_and, and_true, false_and, and_false, not_true_eq_false, not_false_eq_true, false_or, or_false, Bool.false_eq_true]
theorem m_next (hx : JM s M) (ho : okm s) (t : Int32) : ∃ M', am_e X 200 0 [some (.ref (59 : Nat)), some (.int t)] [] kS M = some (some (.int (sp_next s t)), kS, M') ∧ JM s M' ∧ am_of pM M M' := by
  have i1 := m_isTaker (X := X) (S := kS) (M := M) t
  unfold sp_next
  by_cases h1 : 0 ≤ t ∧ t ≤ 3
  · rw [am_bt h1] at i1
    rw [if_pos h1]
    obtain ⟨tn, htn, rfl⟩ := in_n (n := 3) h1 (by decide)
    rw [nI_clamp (n := tn) (by omega)]
    obtain ⟨M', r1, r2, r3⟩ := m_nextOf (X := X) hx ho (show tn < 4 by omega)
    refine ⟨M', ?_, r2, r3.mo fun a k q => by unfold pmS pmW at q; unfold pM; omega⟩
    simp only [e200_0, e200_1, e200_4, e200_7, e200_8, e200_9, e200_12, e200_15, e200_17, s59, s59_0, s59_1, s59_2, s59_3, s59_4, s59_5, s59_6, s59_7, s59_8, s59_9, s59_10, s59_11, s59_12, s59_13, s59_14, s59_15, s59_16, s59_17, s59_18, s59_19, s59_20, s59_21, s59_22, s59_23, s59_24, s59_25, s59_26, s59_27, s59_28, s59_29, s59_30, s59_31, r59_0, r59_1, r59_2, r59_3, r59_6, r59_8, r59_9, r59_13, r59_15, r59_16, r59_17, r59_19, r59_22, r59_23, r59_26, r59_30, r59_31, s60, s61, s62, s63, s64, s65, s66, s67, s68, s69, s70, s71, s72, s73, s74, s75, s76, i1, z10, z01, z1m, zm1, z0m, zm0, r1, am_bv_s, am_bw_s, eq_self, true_or, or_true, am_b0, am_b1, am_em, if_true, if_false, true_and, and_true, false_and, and_false, not_true_eq_false, not_false_eq_true, false_or, or_false, Bool.false_eq_true]
  · rw [am_bf h1] at i1
    rw [if_neg h1]
    refine ⟨M, ?_, hx, am_of.rf⟩
    simp only [e200_0, e200_1, e200_4, e200_7, e200_8, e200_9, e200_12, e200_15, e200_17, s59, s59_0, s59_1, s59_2, s59_3, s59_4, s59_5, s59_6, s59_7, s59_8, s59_9, s59_10, s59_11, s59_12, s59_13, s59_14, s59_15, s59_16, s59_17, s59_18, s59_19, s59_20, s59_21, s59_22, s59_23, s59_24, s59_25, s59_26, s59_27, s59_28, s59_29, s59_30, s59_31, r59_0, r59_1, r59_2, r59_3, r59_6, r59_8, r59_9, r59_13, r59_15, r59_16, r59_17, r59_19, r59_22, r59_23, r59_26, r59_30, r59_31, s60, s61, s62, s63, s64, s65, s66, s67, s68, s69, s70, s71, s72, s73, s74, s75, s76, i1, z10, z01, z1m, zm1, z0m, zm0, am_bv_s, am_bw_s, eq_self, true_or, or_true, am_b0, am_b1, am_em, if_true, if_false, true_and, and_true, false_and, and_false, not_true_eq_false, not_false_eq_true, false_or, or_false, Bool.false_eq_true]
theorem m_goesTo {h : Nat → Nat} (hx : JM s M) (ho : okm s) (hh : ∀ b, b < 6 → M.1 75 b = nI (h b)) (hb : ∀ b, h b ≤ 99) (h0 : 0 < s.2.1.1) : am_e X 201 0 [some (.ref (59 : Nat)), none, none, none, none, none, none, none, none, none, none, none] [] kS M = some (some (.int (nI (goR h s.2.1.2 (s.2.1.1 - 1)))), kS, M) := by
  have d6 := ho.2.1.1
  have dd := hx.2.1
  obtain ⟨M', e1, rfl⟩ := am_lp (X := X) (S := kS) (mi := 201) (pc := 4) (s.2.1.1 - 1) (fun i => [some (.ref (59 : Nat)), some (.int (nI (goR h s.2.1.2 i))), some (.int (nI (i + 1))), none, none, none, none, none, none, none, none, none])
    (fun i M' => M' = M) (M := M) rfl (by
      intro j M2 hj hI
      subst hI
      have c1 : (nI (j + 1) < nI s.2.1.1) = True := eq_true (nI_lt (by omega) (by omega))
      have cj : (nI (j + 1)).toNatClampNeg = j + 1 := nI_clamp (by omega)
      have gl := goR_le (h := h) (sz := s.2.1.2) j
      have cg : (nI (goR h s.2.1.2 j)).toNatClampNeg = goR h s.2.1.2 j := nI_clamp (by omega)
      have hj1 := hb (j + 1)
      have hg1 := hb (goR h s.2.1.2 j)
      have sj := (ho.2.1.2 (j + 1) (by omega)).2
      have sg := (ho.2.1.2 (goR h s.2.1.2 j) (by omega)).2
      have m1 := hh (j + 1) (by omega)
      have m2 := hh (goR h s.2.1.2 j) (by omega)
      have m3 := dd.2 (j + 1) (by omega)
      have m4 := dd.2 (goR h s.2.1.2 j) (by omega)
      have gt := @goR_t h s.2.1.2 j
      have gf := @goR_f h s.2.1.2 j
      have ad1 : am_ar kS 75 100 (nI (goR h s.2.1.2 j)) = true := a75 (by omega)
      have ad2 : am_ar kS 64 100 (nI (goR h s.2.1.2 j)) = true := a64 (by omega)
      generalize goR h s.2.1.2 (j + 1) = z at *
      generalize goR h s.2.1.2 j = g at *
      unfold gMr at gt gf
      have l1 := lI_w (n := h (j + 1)) (by omega)
      have l2 := lI_w (n := h (j + 1) + 1) (by omega)
      have l3 := lI_w (n := h g) (by omega)
      have l4 := lI_w (n := h g + 1) (by omega)
      have l5 := lI_w (n := s.2.1.2 (j + 1)) (by omega)
      have l6 := lI_w (n := s.2.1.2 g) (by omega)
      have b1 : h (j + 1) * (h (j + 1) + 1) ≤ 99 * 100 := Nat.mul_le_mul hj1 (by omega)
      have b2 : h g * (h g + 1) ≤ 99 * 100 := Nat.mul_le_mul hg1 (by omega)
      have b3 : s.2.1.2 (j + 1) * s.2.1.2 (j + 1) ≤ 99 * 99 := Nat.mul_le_mul sj sj
      have b4 : s.2.1.2 g * s.2.1.2 g ≤ 99 * 99 := Nat.mul_le_mul sg sg
      refine ⟨M2, ?_, rfl⟩
      have n1 : nI (j + 1) + 1 = nI (j + 1 + 1) := nI_1 _
      have nh1 : nI (h (j + 1)) + 1 = nI (h (j + 1) + 1) := nI_1 _
      have nh2 : nI (h g) + 1 = nI (h g + 1) := nI_1 _
      have dd1 := dd.1
      rw [e201_4]
      have run : ∀ y, am_e X 201 83 [some (.ref (59 : Nat)), some (.int (nI g)), some (.int (nI (j + 1))), some (.long (lI (h (j + 1) * (h (j + 1) + 1)))), none, some (.long (lI (h g * (h g + 1)))), none, some (.long (lI (s.2.1.2 (j + 1) * s.2.1.2 (j + 1)))), none, some (.long (lI (s.2.1.2 g * s.2.1.2 g))), none, none] [] kS M2 = y → am_e X 201 5 [some (.ref (59 : Nat)), some (.int (nI g)), some (.int (nI (j + 1))), none, none, none, none, none, none, none, none, none] [.int (nI (j + 1))] kS M2 = y := fun y hy => by
        rw [← hy]
        simp only [e201_0, e201_1, e201_2, e201_3, e201_5, e201_6, e201_9, e201_12, e201_13, e201_16, e201_17, e201_18, e201_19, e201_20, e201_23, e201_24, e201_25, e201_26, e201_27, e201_28, e201_29, e201_30, e201_31, e201_34, e201_35, e201_36, e201_37, e201_38, e201_41, e201_42, e201_43, e201_44, e201_45, e201_46, e201_47, e201_49, e201_50, e201_53, e201_54, e201_55, e201_56, e201_57, e201_60, e201_61, e201_62, e201_63, e201_64, e201_66, e201_67, e201_70, e201_71, e201_72, e201_73, e201_74, e201_77, e201_78, e201_79, e201_80, e201_81, e201_84, e201_85, e201_86, e201_89, e201_91, e201_92, e201_93, e201_96, e201_98, e201_100, e201_101, e201_104, e201_105, e201_108, e201_109, e201_112, e201_113, e201_114, e201_115, e201_118, e201_120, e201_121, e201_122, e201_125, e201_127, e201_129, e201_130, e201_132, e201_133, e201_134, e201_135, e201_138, e201_139, e201_142, e201_143, e201_145, e201_147, e201_150, e201_151, e201_154, e201_155, e201_156, e201_159, e201_162, e201_163, s59, s59_0, s59_1, s59_2, s59_3, s59_4, s59_5, s59_6, s59_7, s59_8, s59_9, s59_10, s59_11, s59_12, s59_13, s59_14, s59_15, s59_16, s59_17, s59_18, s59_19, s59_20, s59_21, s59_22, s59_23, s59_24, s59_25, s59_26, s59_27, s59_28, s59_29, s59_30, s59_31, r59_0, r59_1, r59_2, r59_3, r59_6, r59_8, r59_9, r59_13, r59_15, r59_16, r59_17, r59_19, r59_22, r59_23, r59_26, r59_30, r59_31, s60, s61, s62, s63, s64, s65, s66, s67, s68, s69, s70, s71, s72, s73, s74, s75, s76, dd1, c1, cj, cg, m1, m2, m3, m4, nh1, nh2, l1, l2, l3, l4, l5, l6, lI_mul, ad1, ad2, a75 (show j + 1 < 6 by omega), a64 (show j + 1 < 6 by omega), am_bv_s, am_bw_s, eq_self, true_or, or_true, am_b0, am_b1, am_em, if_true, if_false, true_and, and_true, false_and, and_false, not_true_eq_false, not_false_eq_true, false_or, or_false, Bool.false_eq_true]
      apply run
      clear run
      rw [e201_83]
      have r1 : s.2.1.2 (j + 1) * s.2.1.2 (j + 1) * (h g * (h g + 1)) ≤ 99 * 99 * (99 * 100) := Nat.mul_le_mul b3 b2
      have r2 : s.2.1.2 g * s.2.1.2 g * (h (j + 1) * (h (j + 1) + 1)) ≤ 99 * 99 * (99 * 100) := Nat.mul_le_mul b4 b1
      generalize h (j + 1) * (h (j + 1) + 1) = mine at *
      generalize h g * (h g + 1) = its at *
      generalize s.2.1.2 (j + 1) * s.2.1.2 (j + 1) = xs at *
      generalize s.2.1.2 g * s.2.1.2 g = ys at *
      have k1 : (lI mine = 0) = (mine = 0) := lI_0e (by omega)
      have k2 : (lI its = 0) = (its = 0) := lI_0e (by omega)
      have k3 : (lI ys < lI xs) = (ys < xs) := lI_lt (by omega) (by omega)
      have k4 : (0 < lI its) = (0 < its) := by rw [← lI_0]; exact lI_lt (by decide) (by omega)
      have k5 : (lI (ys * mine) < lI (xs * its)) = (ys * mine < xs * its) := lI_lt (by omega) (by omega)
      have o0 : ((1 : Int32) = 0) = False := eq_false (by decide)
      have z0 : ((0 : Int32) = 0) = True := eq_true rfl
      have zz : ((0 : Nat) = 0) = True := eq_true rfl
      have zl : ((0 : Nat) < 0) = False := eq_false (by omega)
      have kl : (lI 0 = 0) = True := eq_true rfl
      have kl2 : (0 < lI 0) = False := eq_false (by decide)
      by_cases p1 : mine = 0
      · by_cases p2 : its = 0
        · by_cases p3 : ys < xs
          · rw [gt (by rw [if_pos ⟨p1, p2⟩]; exact p3)]
            simp only [e201_0, e201_1, e201_2, e201_3, e201_5, e201_6, e201_9, e201_12, e201_13, e201_16, e201_17, e201_18, e201_19, e201_20, e201_23, e201_24, e201_25, e201_26, e201_27, e201_28, e201_29, e201_30, e201_31, e201_34, e201_35, e201_36, e201_37, e201_38, e201_41, e201_42, e201_43, e201_44, e201_45, e201_46, e201_47, e201_49, e201_50, e201_53, e201_54, e201_55, e201_56, e201_57, e201_60, e201_61, e201_62, e201_63, e201_64, e201_66, e201_67, e201_70, e201_71, e201_72, e201_73, e201_74, e201_77, e201_78, e201_79, e201_80, e201_81, e201_84, e201_85, e201_86, e201_89, e201_91, e201_92, e201_93, e201_96, e201_98, e201_100, e201_101, e201_104, e201_105, e201_108, e201_109, e201_112, e201_113, e201_114, e201_115, e201_118, e201_120, e201_121, e201_122, e201_125, e201_127, e201_129, e201_130, e201_132, e201_133, e201_134, e201_135, e201_138, e201_139, e201_142, e201_143, e201_145, e201_147, e201_150, e201_151, e201_154, e201_155, e201_156, e201_159, e201_162, e201_163, lc_eq, lc_gt, k1, k2, k3, p1, p2, p3, kl, o0, n1, am_bv_s, am_bw_s, eq_self, true_or, or_true, am_b0, am_b1, am_em, if_true, if_false, true_and, and_true, false_and, and_false, not_true_eq_false, not_false_eq_true, false_or, or_false, Bool.false_eq_true]
          · rw [gf (by rw [if_pos ⟨p1, p2⟩]; exact p3)]
            simp only [e201_0, e201_1, e201_2, e201_3, e201_5, e201_6, e201_9, e201_12, e201_13, e201_16, e201_17, e201_18, e201_19, e201_20, e201_23, e201_24, e201_25, e201_26, e201_27, e201_28, e201_29, e201_30, e201_31, e201_34, e201_35, e201_36, e201_37, e201_38, e201_41, e201_42, e201_43, e201_44, e201_45, e201_46, e201_47, e201_49, e201_50, e201_53, e201_54, e201_55, e201_56, e201_57, e201_60, e201_61, e201_62, e201_63, e201_64, e201_66, e201_67, e201_70, e201_71, e201_72, e201_73, e201_74, e201_77, e201_78, e201_79, e201_80, e201_81, e201_84, e201_85, e201_86, e201_89, e201_91, e201_92, e201_93, e201_96, e201_98, e201_100, e201_101, e201_104, e201_105, e201_108, e201_109, e201_112, e201_113, e201_114, e201_115, e201_118, e201_120, e201_121, e201_122, e201_125, e201_127, e201_129, e201_130, e201_132, e201_133, e201_134, e201_135, e201_138, e201_139, e201_142, e201_143, e201_145, e201_147, e201_150, e201_151, e201_154, e201_155, e201_156, e201_159, e201_162, e201_163, lc_eq, lc_gt, k1, k2, k3, p1, p2, p3, kl, z0, n1, am_bv_s, am_bw_s, eq_self, true_or, or_true, am_b0, am_b1, am_em, if_true, if_false, true_and, and_true, false_and, and_false, not_true_eq_false, not_false_eq_true, false_or, or_false, Bool.false_eq_true]
        · rw [gt (by rw [if_neg (fun q => p2 q.2)]; exact Or.inl p1)]
          simp only [e201_0, e201_1, e201_2, e201_3, e201_5, e201_6, e201_9, e201_12, e201_13, e201_16, e201_17, e201_18, e201_19, e201_20, e201_23, e201_24, e201_25, e201_26, e201_27, e201_28, e201_29, e201_30, e201_31, e201_34, e201_35, e201_36, e201_37, e201_38, e201_41, e201_42, e201_43, e201_44, e201_45, e201_46, e201_47, e201_49, e201_50, e201_53, e201_54, e201_55, e201_56, e201_57, e201_60, e201_61, e201_62, e201_63, e201_64, e201_66, e201_67, e201_70, e201_71, e201_72, e201_73, e201_74, e201_77, e201_78, e201_79, e201_80, e201_81, e201_84, e201_85, e201_86, e201_89, e201_91, e201_92, e201_93, e201_96, e201_98, e201_100, e201_101, e201_104, e201_105, e201_108, e201_109, e201_112, e201_113, e201_114, e201_115, e201_118, e201_120, e201_121, e201_122, e201_125, e201_127, e201_129, e201_130, e201_132, e201_133, e201_134, e201_135, e201_138, e201_139, e201_142, e201_143, e201_145, e201_147, e201_150, e201_151, e201_154, e201_155, e201_156, e201_159, e201_162, e201_163, lc_eq, lc_gt, k1, k2, p1, p2, kl, o0, n1, am_bv_s, am_bw_s, eq_self, true_or, or_true, am_b0, am_b1, am_em, if_true, if_false, true_and, and_true, false_and, and_false, not_true_eq_false, not_false_eq_true, false_or, or_false, Bool.false_eq_true]
      · by_cases p2 : 0 < its
        · by_cases p3 : ys * mine < xs * its
          · rw [gt (by rw [if_neg (fun q => p1 q.1)]; exact Or.inr ⟨p2, p3⟩)]
            simp only [e201_0, e201_1, e201_2, e201_3, e201_5, e201_6, e201_9, e201_12, e201_13, e201_16, e201_17, e201_18, e201_19, e201_20, e201_23, e201_24, e201_25, e201_26, e201_27, e201_28, e201_29, e201_30, e201_31, e201_34, e201_35, e201_36, e201_37, e201_38, e201_41, e201_42, e201_43, e201_44, e201_45, e201_46, e201_47, e201_49, e201_50, e201_53, e201_54, e201_55, e201_56, e201_57, e201_60, e201_61, e201_62, e201_63, e201_64, e201_66, e201_67, e201_70, e201_71, e201_72, e201_73, e201_74, e201_77, e201_78, e201_79, e201_80, e201_81, e201_84, e201_85, e201_86, e201_89, e201_91, e201_92, e201_93, e201_96, e201_98, e201_100, e201_101, e201_104, e201_105, e201_108, e201_109, e201_112, e201_113, e201_114, e201_115, e201_118, e201_120, e201_121, e201_122, e201_125, e201_127, e201_129, e201_130, e201_132, e201_133, e201_134, e201_135, e201_138, e201_139, e201_142, e201_143, e201_145, e201_147, e201_150, e201_151, e201_154, e201_155, e201_156, e201_159, e201_162, e201_163, lc_eq, lc_gt, lI_mul, k1, k4, k5, p1, p2, p3, o0, n1, am_bv_s, am_bw_s, eq_self, true_or, or_true, am_b0, am_b1, am_em, if_true, if_false, true_and, and_true, false_and, and_false, not_true_eq_false, not_false_eq_true, false_or, or_false, Bool.false_eq_true]
          · rw [gf (by rw [if_neg (fun q => p1 q.1)]; exact fun q => q.elim p1 (fun q => p3 q.2))]
            simp only [e201_0, e201_1, e201_2, e201_3, e201_5, e201_6, e201_9, e201_12, e201_13, e201_16, e201_17, e201_18, e201_19, e201_20, e201_23, e201_24, e201_25, e201_26, e201_27, e201_28, e201_29, e201_30, e201_31, e201_34, e201_35, e201_36, e201_37, e201_38, e201_41, e201_42, e201_43, e201_44, e201_45, e201_46, e201_47, e201_49, e201_50, e201_53, e201_54, e201_55, e201_56, e201_57, e201_60, e201_61, e201_62, e201_63, e201_64, e201_66, e201_67, e201_70, e201_71, e201_72, e201_73, e201_74, e201_77, e201_78, e201_79, e201_80, e201_81, e201_84, e201_85, e201_86, e201_89, e201_91, e201_92, e201_93, e201_96, e201_98, e201_100, e201_101, e201_104, e201_105, e201_108, e201_109, e201_112, e201_113, e201_114, e201_115, e201_118, e201_120, e201_121, e201_122, e201_125, e201_127, e201_129, e201_130, e201_132, e201_133, e201_134, e201_135, e201_138, e201_139, e201_142, e201_143, e201_145, e201_147, e201_150, e201_151, e201_154, e201_155, e201_156, e201_159, e201_162, e201_163, lc_eq, lc_gt, lI_mul, k1, k4, k5, p1, p2, p3, z0, n1, am_bv_s, am_bw_s, eq_self, true_or, or_true, am_b0, am_b1, am_em, if_true, if_false, true_and, and_true, false_and, and_false, not_true_eq_false, not_false_eq_true, false_or, or_false, Bool.false_eq_true]
        · rw [gf (by rw [if_neg (fun q => p1 q.1)]; exact fun q => q.elim p1 (fun q => p2 q.1))]
          simp only [e201_0, e201_1, e201_2, e201_3, e201_5, e201_6, e201_9, e201_12, e201_13, e201_16, e201_17, e201_18, e201_19, e201_20, e201_23, e201_24, e201_25, e201_26, e201_27, e201_28, e201_29, e201_30, e201_31, e201_34, e201_35, e201_36, e201_37, e201_38, e201_41, e201_42, e201_43, e201_44, e201_45, e201_46, e201_47, e201_49, e201_50, e201_53, e201_54, e201_55, e201_56, e201_57, e201_60, e201_61, e201_62, e201_63, e201_64, e201_66, e201_67, e201_70, e201_71, e201_72, e201_73, e201_74, e201_77, e201_78, e201_79, e201_80, e201_81, e201_84, e201_85, e201_86, e201_89, e201_91, e201_92, e201_93, e201_96, e201_98, e201_100, e201_101, e201_104, e201_105, e201_108, e201_109, e201_112, e201_113, e201_114, e201_115, e201_118, e201_120, e201_121, e201_122, e201_125, e201_127, e201_129, e201_130, e201_132, e201_133, e201_134, e201_135, e201_138, e201_139, e201_142, e201_143, e201_145, e201_147, e201_150, e201_151, e201_154, e201_155, e201_156, e201_159, e201_162, e201_163, lc_eq, lc_gt, k1, k4, p1, p2, z0, n1, am_bv_s, am_bw_s, eq_self, true_or, or_true, am_b0, am_b1, am_em, if_true, if_false, true_and, and_true, false_and, and_false, not_true_eq_false, not_false_eq_true, false_or, or_false, Bool.false_eq_true])
  have cn : (nI (s.2.1.1 - 1 + 1) < nI s.2.1.1) = False := eq_false (nI_nlt (by omega) (by omega))
  have fin : am_e X 201 4 [some (.ref (59 : Nat)), some (.int (nI (goR h s.2.1.2 (s.2.1.1 - 1)))), some (.int (nI (s.2.1.1 - 1 + 1))), none, none, none, none, none, none, none, none, none] [] kS M' = some (some (.int (nI (goR h s.2.1.2 (s.2.1.1 - 1)))), kS, M') := by
    rw [e201_4]
    simp only [e201_0, e201_1, e201_2, e201_3, e201_5, e201_6, e201_9, e201_12, e201_13, e201_16, e201_17, e201_18, e201_19, e201_20, e201_23, e201_24, e201_25, e201_26, e201_27, e201_28, e201_29, e201_30, e201_31, e201_34, e201_35, e201_36, e201_37, e201_38, e201_41, e201_42, e201_43, e201_44, e201_45, e201_46, e201_47, e201_49, e201_50, e201_53, e201_54, e201_55, e201_56, e201_57, e201_60, e201_61, e201_62, e201_63, e201_64, e201_66, e201_67, e201_70, e201_71, e201_72, e201_73, e201_74, e201_77, e201_78, e201_79, e201_80, e201_81, e201_84, e201_85, e201_86, e201_89, e201_91, e201_92, e201_93, e201_96, e201_98, e201_100, e201_101, e201_104, e201_105, e201_108, e201_109, e201_112, e201_113, e201_114, e201_115, e201_118, e201_120, e201_121, e201_122, e201_125, e201_127, e201_129, e201_130, e201_132, e201_133, e201_134, e201_135, e201_138, e201_139, e201_142, e201_143, e201_145, e201_147, e201_150, e201_151, e201_154, e201_155, e201_156, e201_159, e201_162, e201_163, s59, s59_0, s59_1, s59_2, s59_3, s59_4, s59_5, s59_6, s59_7, s59_8, s59_9, s59_10, s59_11, s59_12, s59_13, s59_14, s59_15, s59_16, s59_17, s59_18, s59_19, s59_20, s59_21, s59_22, s59_23, s59_24, s59_25, s59_26, s59_27, s59_28, s59_29, s59_30, s59_31, r59_0, r59_1, r59_2, r59_3, r59_6, r59_8, r59_9, r59_13, r59_15, r59_16, r59_17, r59_19, r59_22, r59_23, r59_26, r59_30, r59_31, s60, s61, s62, s63, s64, s65, s66, s67, s68, s69, s70, s71, s72, s73, s74, s75, s76, dd.1, cn, am_bv_s, am_bw_s, eq_self, true_or, or_true, am_b0, am_b1, am_em, if_true, if_false, true_and, and_true, false_and, and_false, not_true_eq_false, not_false_eq_true, false_or, or_false, Bool.false_eq_true]
  have z1 : nI (goR h s.2.1.2 0) = 0 := rfl
  have z2 : nI (0 + 1) = 1 := rfl
  rw [fin, z1, z2] at e1
  rw [← e1]
  simp only [e201_0, e201_1, e201_2, e201_3, e201_5, e201_6, e201_9, e201_12, e201_13, e201_16, e201_17, e201_18, e201_19, e201_20, e201_23, e201_24, e201_25, e201_26, e201_27, e201_28, e201_29, e201_30, e201_31, e201_34, e201_35, e201_36, e201_37, e201_38, e201_41, e201_42, e201_43, e201_44, e201_45, e201_46, e201_47, e201_49, e201_50, e201_53, e201_54, e201_55, e201_56, e201_57, e201_60, e201_61, e201_62, e201_63, e201_64, e201_66, e201_67, e201_70, e201_71, e201_72, e201_73, e201_74, e201_77, e201_78, e201_79, e201_80, e201_81, e201_84, e201_85, e201_86, e201_89, e201_91, e201_92, e201_93, e201_96, e201_98, e201_100, e201_101, e201_104, e201_105, e201_108, e201_109, e201_112, e201_113, e201_114, e201_115, e201_118, e201_120, e201_121, e201_122, e201_125, e201_127, e201_129, e201_130, e201_132, e201_133, e201_134, e201_135, e201_138, e201_139, e201_142, e201_143, e201_145, e201_147, e201_150, e201_151, e201_154, e201_155, e201_156, e201_159, e201_162, e201_163, am_bv_s, am_bw_s, eq_self, true_or, or_true, am_b0, am_b1, am_em, if_true, if_false, true_and, and_true, false_and, and_false, not_true_eq_false, not_false_eq_true, false_or, or_false, Bool.false_eq_true]
theorem m_dealOf {n b : Nat} (hx : JM s M) (ho : okm s) (hn : n ≤ 99) (hb : b < s.2.1.1) : ∃ M', am_e X 202 0 [some (.ref (59 : Nat)), some (.int (nI n)), some (.int (nI b)), none] [] kS M = some (some (.int (nI (dlt s.2.1 n b))), kS, M') ∧ JM s M' ∧ am_of (fun a _ => a = 75) M M' := by
  have d6 := ho.2.1.1
  have pj : ∀ {Mb : am_Me}, am_of (fun a _ => a = 75) M Mb → JM s Mb := fun o => hx.of o (fun a k q => by unfold pR; omega)
  obtain ⟨M1, e1, g1, of1⟩ := am_lp (X := X) (S := kS) (mi := 202) (pc := 2) 6 (fun i => [some (.ref (59 : Nat)), some (.int (nI n)), some (.int (nI b)), some (.int (nI i))])
    (fun i M' => (∀ b, b < i → M'.1 75 b = 0) ∧ am_of (fun a _ => a = 75) M M') (M := M) ⟨fun b hb => absurd hb (Nat.not_lt_zero _), am_of.rf⟩ (by
      intro j M3 hj hI
      obtain ⟨i1, i2⟩ := hI
      have c1 : (nI j < 6) = True := eq_true (nI_lt (b := 6) hj (by decide))
      have cj : (nI j).toNatClampNeg = j := nI_clamp (by omega)
      refine ⟨am_setI M3 75 j 0, ?_, fun b hb => ?_, i2.sI rfl⟩
      · rw [e202_2]
        simp only [e202_0, e202_1, e202_3, e202_5, e202_8, e202_9, e202_12, e202_13, e202_14, e202_15, e202_18, e202_21, e202_22, e202_24, e202_25, e202_28, e202_29, e202_32, e202_33, e202_36, e202_37, e202_38, e202_39, e202_40, e202_41, e202_44, e202_47, e202_48, e202_51, e202_52, e202_53, s59, s59_0, s59_1, s59_2, s59_3, s59_4, s59_5, s59_6, s59_7, s59_8, s59_9, s59_10, s59_11, s59_12, s59_13, s59_14, s59_15, s59_16, s59_17, s59_18, s59_19, s59_20, s59_21, s59_22, s59_23, s59_24, s59_25, s59_26, s59_27, s59_28, s59_29, s59_30, s59_31, r59_0, r59_1, r59_2, r59_3, r59_6, r59_8, r59_9, r59_13, r59_15, r59_16, r59_17, r59_19, r59_22, r59_23, r59_26, r59_30, r59_31, s60, s61, s62, s63, s64, s65, s66, s67, s68, s69, s70, s71, s72, s73, s74, s75, s76, c1, cj, nI_1, a75 hj, am_bv_s, am_bw_s, eq_self, true_or, or_true, am_b0, am_b1, am_em, if_true, if_false, true_and, and_true, false_and, and_false, not_true_eq_false, not_false_eq_true, false_or, or_false, Bool.false_eq_true]
      · rw [gI]
        by_cases e : b = j
        · rw [if_pos ⟨rfl, e⟩]
        · rw [if_neg (fun q => e q.2)]; exact i1 b (by omega))
  obtain ⟨M2, e2, g2, of2⟩ := am_lp (X := X) (S := kS) (mi := 202) (pc := 23) n (fun i => [some (.ref (59 : Nat)), some (.int (nI n)), some (.int (nI b)), some (.int (nI i))])
    (fun i M' => (∀ b, b < 6 → M'.1 75 b = nI (dlt s.2.1 i b)) ∧ am_of (fun a _ => a = 75) M M') (M := M1) ⟨g1, of1⟩ (by
      intro j M3 hj hI
      obtain ⟨i1, i2⟩ := hI
      have j3 := pj i2
      have c1 : (nI j < nI n) = True := eq_true (nI_lt hj (by omega))
      have le := dlt_le (d := s.2.1) j
      have go := m_goesTo (X := X) j3 ho i1 (fun b => by have := le b; omega) (by omega)
      have hp := pick_g (h := dlt s.2.1 j) (d := s.2.1) (fun b hb => (ho.2.1.2 b hb).1) (by omega)
      have ed : dlt s.2.1 (j + 1) = dlU (dlt s.2.1 j) (pick (dlt s.2.1 j) s.2.1) := rfl
      rw [hp] at ed
      have gl := goR_le (h := dlt s.2.1 j) (sz := s.2.1.2) (s.2.1.1 - 1)
      generalize goR (dlt s.2.1 j) s.2.1.2 (s.2.1.1 - 1) = q at *
      have cq : (nI q).toNatClampNeg = q := nI_clamp (by omega)
      have hq := i1 q (by omega)
      refine ⟨am_setI M3 75 q (nI (dlt s.2.1 j q + 1)), ?_, fun b hb => ?_, i2.sI rfl⟩
      · rw [e202_23]
        simp only [e202_0, e202_1, e202_3, e202_5, e202_8, e202_9, e202_12, e202_13, e202_14, e202_15, e202_18, e202_21, e202_22, e202_24, e202_25, e202_28, e202_29, e202_32, e202_33, e202_36, e202_37, e202_38, e202_39, e202_40, e202_41, e202_44, e202_47, e202_48, e202_51, e202_52, e202_53, s59, s59_0, s59_1, s59_2, s59_3, s59_4, s59_5, s59_6, s59_7, s59_8, s59_9, s59_10, s59_11, s59_12, s59_13, s59_14, s59_15, s59_16, s59_17, s59_18, s59_19, s59_20, s59_21, s59_22, s59_23, s59_24, s59_25, s59_26, s59_27, s59_28, s59_29, s59_30, s59_31, r59_0, r59_1, r59_2, r59_3, r59_6, r59_8, r59_9, r59_13, r59_15, r59_16, r59_17, r59_19, r59_22, r59_23, r59_26, r59_30, r59_31, s60, s61, s62, s63, s64, s65, s66, s67, s68, s69, s70, s71, s72, s73, s74, s75, s76, c1, go, cq, hq, nI_1, a75 (show q < 6 by omega), am_bv_s, am_bw_s, eq_self, true_or, or_true, am_b0, am_b1, am_em, if_true, if_false, true_and, and_true, false_and, and_false, not_true_eq_false, not_false_eq_true, false_or, or_false, Bool.false_eq_true]
      · have e3 : dlt s.2.1 (j + 1) b = if b = q then dlt s.2.1 j q + 1 else dlt s.2.1 j b := by rw [ed]; rfl
        rw [gI, e3]
        by_cases e : b = q
        · rw [if_pos ⟨rfl, e⟩, if_pos e]
        · rw [if_neg (fun z => e z.2), if_neg e]; exact i1 b hb)
  refine ⟨M2, ?_, pj of2, of2⟩
  have cn : (nI n < nI n) = False := eq_false (nI_nlt (Nat.le_refl _) (by omega))
  have c6 : (nI 6 < 6) = False := eq_false (by decide)
  have cb : (nI b).toNatClampNeg = b := nI_clamp (by omega)
  have f2 : am_e X 202 23 [some (.ref (59 : Nat)), some (.int (nI n)), some (.int (nI b)), some (.int (nI n))] [] kS M2 = some (some (.int (nI (dlt s.2.1 n b))), kS, M2) := by
    rw [e202_23]
    simp only [e202_0, e202_1, e202_3, e202_5, e202_8, e202_9, e202_12, e202_13, e202_14, e202_15, e202_18, e202_21, e202_22, e202_24, e202_25, e202_28, e202_29, e202_32, e202_33, e202_36, e202_37, e202_38, e202_39, e202_40, e202_41, e202_44, e202_47, e202_48, e202_51, e202_52, e202_53, s59, s59_0, s59_1, s59_2, s59_3, s59_4, s59_5, s59_6, s59_7, s59_8, s59_9, s59_10, s59_11, s59_12, s59_13, s59_14, s59_15, s59_16, s59_17, s59_18, s59_19, s59_20, s59_21, s59_22, s59_23, s59_24, s59_25, s59_26, s59_27, s59_28, s59_29, s59_30, s59_31, r59_0, r59_1, r59_2, r59_3, r59_6, r59_8, r59_9, r59_13, r59_15, r59_16, r59_17, r59_19, r59_22, r59_23, r59_26, r59_30, r59_31, s60, s61, s62, s63, s64, s65, s66, s67, s68, s69, s70, s71, s72, s73, s74, s75, s76, cn, cb, g2 b (by omega), a75 (show b < 6 by omega), am_bv_s, am_bw_s, eq_self, true_or, or_true, am_b0, am_b1, am_em, if_true, if_false, true_and, and_true, false_and, and_false, not_true_eq_false, not_false_eq_true, false_or, or_false, Bool.false_eq_true]
  rw [f2, nI_0] at e2
  have f1 : am_e X 202 2 [some (.ref (59 : Nat)), some (.int (nI n)), some (.int (nI b)), some (.int (nI 6))] [] kS M1 = some (some (.int (nI (dlt s.2.1 n b))), kS, M2) := by
    rw [e202_2]
    simp only [e202_0, e202_1, e202_3, e202_5, e202_8, e202_9, e202_12, e202_13, e202_14, e202_15, e202_18, e202_21, e202_22, e202_24, e202_25, e202_28, e202_29, e202_32, e202_33, e202_36, e202_37, e202_38, e202_39, e202_40, e202_41, e202_44, e202_47, e202_48, e202_51, e202_52, e202_53, c6, e2, am_bv_s, am_bw_s, eq_self, true_or, or_true, am_b0, am_b1, am_em, if_true, if_false, true_and, and_true, false_and, and_false, not_true_eq_false, not_false_eq_true, false_or, or_false, Bool.false_eq_true]
  rw [f1, nI_0] at e1
  rw [← e1]
  simp only [e202_0, e202_1, e202_3, e202_5, e202_8, e202_9, e202_12, e202_13, e202_14, e202_15, e202_18, e202_21, e202_22, e202_24, e202_25, e202_28, e202_29, e202_32, e202_33, e202_36, e202_37, e202_38, e202_39, e202_40, e202_41, e202_44, e202_47, e202_48, e202_51, e202_52, e202_53, am_bv_s, am_bw_s, eq_self, true_or, or_true, am_b0, am_b1, am_em, if_true, if_false, true_and, and_true, false_and, and_false, not_true_eq_false, not_false_eq_true, false_or, or_false, Bool.false_eq_true]
theorem m_deal (hx : JM s M) (ho : okm s) (n b : Int32) : ∃ M', am_e X 203 0 [some (.ref (59 : Nat)), some (.int n), some (.int b)] [] kS M = some (some (.int (sp_deal s n b)), kS, M') ∧ JM s M' ∧ am_of pM M M' := by
  have i1 := q_in (X := X) (S := kS) (M := M) n 0 99 (by decide : (0 : Int32).toInt64 = 0) (by decide : (99 : Int32).toInt64 = 99)
  have i2 := m_isBand2 (X := X) (M := M) hx.2.1 b
  have d6 := ho.2.1.1
  unfold sp_deal
  by_cases h1 : 0 ≤ n ∧ n ≤ 99
  · rw [am_bt h1] at i1
    by_cases h2 : 0 ≤ b ∧ b ≤ nI s.2.1.1 - 1
    · rw [am_bt h2] at i2
      rw [if_pos ⟨h1, h2⟩]
      obtain ⟨nn, hnn, rfl⟩ := in_n (n := 99) h1 (by decide)
      obtain ⟨bn, hbn, rfl⟩ := (pred_le (by omega)).mp h2
      rw [nI_clamp (n := nn) (by omega), nI_clamp (n := bn) (by omega)]
      obtain ⟨M', r1, r2, r3⟩ := m_dealOf (X := X) hx ho hnn hbn
      refine ⟨M', ?_, r2, r3.mo fun a k q => by unfold pM; omega⟩
      simp only [e203_0, e203_1, e203_2, e203_3, e203_6, e203_9, e203_12, e203_13, e203_14, e203_17, e203_20, e203_21, e203_22, e203_23, e203_26, e203_29, e203_31, s59, s59_0, s59_1, s59_2, s59_3, s59_4, s59_5, s59_6, s59_7, s59_8, s59_9, s59_10, s59_11, s59_12, s59_13, s59_14, s59_15, s59_16, s59_17, s59_18, s59_19, s59_20, s59_21, s59_22, s59_23, s59_24, s59_25, s59_26, s59_27, s59_28, s59_29, s59_30, s59_31, r59_0, r59_1, r59_2, r59_3, r59_6, r59_8, r59_9, r59_13, r59_15, r59_16, r59_17, r59_19, r59_22, r59_23, r59_26, r59_30, r59_31, s60, s61, s62, s63, s64, s65, s66, s67, s68, s69, s70, s71, s72, s73, s74, s75, s76, i1, i2, z10, z01, z1m, zm1, z0m, zm0, r1, am_bv_s, am_bw_s, eq_self, true_or, or_true, am_b0, am_b1, am_em, if_true, if_false, true_and, and_true, false_and, and_false, not_true_eq_false, not_false_eq_true, false_or, or_false, Bool.false_eq_true]
    · rw [am_bf h2] at i2
      rw [if_neg (fun q => h2 q.2)]
      refine ⟨M, ?_, hx, am_of.rf⟩
      simp only [e203_0, e203_1, e203_2, e203_3, e203_6, e203_9, e203_12, e203_13, e203_14, e203_17, e203_20, e203_21, e203_22, e203_23, e203_26, e203_29, e203_31, s59, s59_0, s59_1, s59_2, s59_3, s59_4, s59_5, s59_6, s59_7, s59_8, s59_9, s59_10, s59_11, s59_12, s59_13, s59_14, s59_15, s59_16, s59_17, s59_18, s59_19, s59_20, s59_21, s59_22, s59_23, s59_24, s59_25, s59_26, s59_27, s59_28, s59_29, s59_30, s59_31, r59_0, r59_1, r59_2, r59_3, r59_6, r59_8, r59_9, r59_13, r59_15, r59_16, r59_17, r59_19, r59_22, r59_23, r59_26, r59_30, r59_31, s60, s61, s62, s63, s64, s65, s66, s67, s68, s69, s70, s71, s72, s73, s74, s75, s76, i1, i2, z10, z01, z1m, zm1, z0m, zm0, am_bv_s, am_bw_s, eq_self, true_or, or_true, am_b0, am_b1, am_em, if_true, if_false, true_and, and_true, false_and, and_false, not_true_eq_false, not_false_eq_true, false_or, or_false, Bool.false_eq_true]
  · rw [am_bf h1] at i1
    rw [if_neg (fun q => h1 q.1)]
    refine ⟨M, ?_, hx, am_of.rf⟩
    simp only [e203_0, e203_1, e203_2, e203_3, e203_6, e203_9, e203_12, e203_13, e203_14, e203_17, e203_20, e203_21, e203_22, e203_23, e203_26, e203_29, e203_31, s59, s59_0, s59_1, s59_2, s59_3, s59_4, s59_5, s59_6, s59_7, s59_8, s59_9, s59_10, s59_11, s59_12, s59_13, s59_14, s59_15, s59_16, s59_17, s59_18, s59_19, s59_20, s59_21, s59_22, s59_23, s59_24, s59_25, s59_26, s59_27, s59_28, s59_29, s59_30, s59_31, r59_0, r59_1, r59_2, r59_3, r59_6, r59_8, r59_9, r59_13, r59_15, r59_16, r59_17, r59_19, r59_22, r59_23, r59_26, r59_30, r59_31, s60, s61, s62, s63, s64, s65, s66, s67, s68, s69, s70, s71, s72, s73, s74, s75, s76, i1, z10, z01, z1m, zm1, z0m, zm0, am_bv_s, am_bw_s, eq_self, true_or, or_true, am_b0, am_b1, am_em, if_true, if_false, true_and, and_true, false_and, and_false, not_true_eq_false, not_false_eq_true, false_or, or_false, Bool.false_eq_true]
end
