/-! the class: digest -/
def stp (h v : Int64) : Int64 := 31 * h + v
/-- so many values taken in -/
def fo (f : Nat → Int64) (h : Int64) : Nat → Int64
  | 0 => h
  | n + 1 => stp (fo f h n) (f n)
theorem rg {n k : Nat} (h : n ≤ k) (hk : k < 2 ^ 31) : 0 ≤ nI n ∧ nI n ≤ nI k := by
  refine ⟨Int32.not_lt.mp (by rw [nlt0 (by omega)]; exact id), Int32.not_lt.mp (nI_nlt h hk)⟩
theorem rgb {n k : Nat} (h : n < k) (hk : k < 2 ^ 31) : 0 ≤ nI n ∧ nI n ≤ nI k - 1 := (pred_le hk).mpr ⟨n, h, rfl⟩
def vAs (s : sgm) (t b k : Nat) : Int32 := if k = 0 then nI (sAs s.2.1.1 s.2.2.2.1 s.2.2.2.2 t b) else nI (sYe s.2.1.1 s.2.2.2.1 s.2.2.2.2 t b)
def vSh (s : sgm) (t b w v : Nat) : Int64 := if sAs s.2.1.1 s.2.2.2.1 s.2.2.2.2 t b = 0 then nol (-3) else if nI w = 0 then fp (fr (sYe s.2.1.1 s.2.2.2.1 s.2.2.2.2 t b) (tH s.2.1.1 s.2.2.2.1 s.2.2.2.2 t b)) (nI v) else if gD s.2.1.1 s.2.2.2.1 s.2.2.2.2 t = 0 then nol (-3) else fp (fr (tC s.2.1.1 s.2.2.2.1 s.2.2.2.2 t b) (tH s.2.1.1 s.2.2.2.1 s.2.2.2.2 t b * gD s.2.1.1 s.2.2.2.1 s.2.2.2.2 t)) (nI v)
def vKn (s : sgm) (t w v : Nat) : Int64 := if nI w = 0 then fp (fr (sYe s.2.1.1 s.2.2.2.1 s.2.2.2.2 t 6) (gG s.2.1.1 s.2.2.2.1 s.2.2.2.2 t)) (nI v) else if hasA s.2.1.1 s.2.2.2.1 s.2.2.2.2 t 6 = true ∧ ¬ gD s.2.1.1 s.2.2.2.1 s.2.2.2.2 t = 0 then fp (fr (sKn s t s.2.1.1).1 (gD s.2.1.1 s.2.2.2.1 s.2.2.2.2 t * (sKn s t s.2.1.1).2)) (nI v) else nol (-3)
def vCo (s : sgm) (t k v : Nat) : Int64 := if rAll s k = 0 ∨ gD s.2.1.1 s.2.2.2.1 s.2.2.2.2 t = 0 then nol (-3) else fp (cvP s t nLr k) (nI v)
def vLa (s : sgm) (t : Nat) : Int32 := if gD s.2.1.1 s.2.2.2.1 s.2.2.2.2 t = 0 then -3 else nI (clm s t 50 2 s.2.2.1.1).1
/-- one band of one -/
def dBd (s : sgm) (t : Nat) (h : Int64) (b : Nat) : Int64 := fo (fun k => vSh s t b (k / 2) (k % 2)) (fo (fun k => (vAs s t b k).toInt64) h 2) 4
def dBs (s : sgm) (t : Nat) (h : Int64) : Nat → Int64
  | 0 => h
  | n + 1 => dBd s t (dBs s t h n) n
/-- what one answered -/
def dAn (s : sgm) (t : Nat) (h : Int64) : Int64 := fo (fun k => vKn s t (k / 2) (k % 2)) (dBs s t (fo (fun k => (vAs s t 6 k).toInt64) h 2) s.2.1.1) 4
def dTk (s : sgm) (t : Nat) (h : Int64) : Int64 := stp (stp (stp (fo (fun k => vCo s t (k / 2) (k % 2)) (dAn s t h) (2 * s.2.2.1.1)) (oI (bst s t nLr nLr 0 s.2.2.1.1)).toInt64) (vLa s t).toInt64) (oI (sNx s t)).toInt64
def dTs (s : sgm) (h : Int64) : Nat → Int64
  | 0 => h
  | n + 1 => dTk s n (dTs s h n)
def sp_digest (s : sgm) : Int64 := stp (fo (fun k => (nI (sPr s 0 1 k)).toInt64) (fo (fun b => (nI (dlt s.2.1 20 b)).toInt64) (dTs s (stp (fo (fun k => (sp_count s (nI k)).toInt64) 17 8) (sp_fault s).toInt64) 4) s.2.1.1) 4) (sBt (sPr s 0 1 1) (sPr s 0 1 2)).toInt64
theorem hv : ∀ k, k < 12 → nI k / 2 = nI (k / 2) ∧ nI k - nI (k / 2) * 2 = nI (k % 2) := by decide +kernel
theorem stp_e (h v : Int64) : 31 * h + v = stp h v := rfl
section
variable {X : am_X} {S : am_Sh} {M M' : am_Me} {P : Nat → Nat → Prop} {s : sgm}
theorem v_as (ho : okm s) {t b k : Nat} (ht : t < 4) (hb : b < s.2.1.1) (hk : k < 2) : sp_asked s (nI t) (nI b) (nI k) = vAs s t b k := by
  have d6 := ho.2.1.1
  unfold sp_asked vAs
  have n1 : ¬ nI b = -1 := by rw [nI_n1 (by omega)]; exact id
  rw [if_pos ⟨rg (n := t) (k := 3) (by omega) (by decide), Or.inr (rgb hb (by omega)), rg (n := k) (k := 1) (by omega) (by decide)⟩, if_neg n1, nI_clamp (show t < 2 ^ 31 by omega), nI_clamp (show b < 2 ^ 31 by omega)]
  rcases (show k = 0 ∨ k = 1 by omega) with rfl | rfl <;> rfl
theorem v_as6 {t k : Nat} (ht : t < 4) (hk : k < 2) : sp_asked s (nI t) (-1) (nI k) = vAs s t 6 k := by
  unfold sp_asked vAs
  rw [if_pos ⟨rg (n := t) (k := 3) (by omega) (by decide), Or.inl rfl, rg (n := k) (k := 1) (by omega) (by decide)⟩, if_pos rfl, nI_clamp (show t < 2 ^ 31 by omega)]
  rcases (show k = 0 ∨ k = 1 by omega) with rfl | rfl <;> rfl
theorem v_sh (ho : okm s) {t b w v : Nat} (ht : t < 4) (hb : b < s.2.1.1) (hw : w < 2) (hv : v < 2) : sp_share s (nI t) (nI b) (nI w) (nI v) = vSh s t b w v := by
  have d6 := ho.2.1.1
  unfold sp_share vSh
  rw [if_pos ⟨⟨rg (n := t) (k := 3) (by omega) (by decide), rgb hb (by omega)⟩, rg (n := w) (k := 1) (by omega) (by decide), rg (n := v) (k := 1) (by omega) (by decide)⟩, nI_clamp (show t < 2 ^ 31 by omega), nI_clamp (show b < 2 ^ 31 by omega)]
theorem v_kn {t w v : Nat} (ht : t < 4) (hw : w < 2) (hv : v < 2) : sp_knows s (nI t) (nI w) (nI v) = vKn s t w v := by
  unfold sp_knows vKn
  rw [if_pos ⟨rg (n := t) (k := 3) (by omega) (by decide), rg (n := w) (k := 1) (by omega) (by decide), rg (n := v) (k := 1) (by omega) (by decide)⟩, nI_clamp (show t < 2 ^ 31 by omega)]
theorem v_co (ho : okm s) {t k v : Nat} (ht : t < 4) (hk : k < s.2.2.1.1) (hv : v < 2) : sp_cover s (nI t) (nI k) (nI v) = vCo s t k v := by
  have b6 := ho.2.2.1.1
  unfold sp_cover vCo
  rw [if_pos ⟨rg (n := t) (k := 3) (by omega) (by decide), rgb hk (by omega), rg (n := v) (k := 1) (by omega) (by decide)⟩, nI_clamp (show t < 2 ^ 31 by omega), nI_clamp (show k < 2 ^ 31 by omega)]
theorem v_ea {t : Nat} (ht : t < 4) : sp_easiest s (nI t) = oI (bst s t nLr nLr 0 s.2.2.1.1) := by
  unfold sp_easiest
  rw [if_pos (show 0 ≤ nI t ∧ nI t ≤ 3 from rg (n := t) (k := 3) (by omega) (by decide)), nI_clamp (show t < 2 ^ 31 by omega)]
theorem v_la {t : Nat} (ht : t < 4) : sp_ladder s (nI t) 50 2 (-1) = vLa s t := by
  unfold sp_ladder vLa
  rw [if_pos ⟨rg (n := t) (k := 3) (by omega) (by decide), by decide, by decide, by decide⟩, nI_clamp (show t < 2 ^ 31 by omega), if_pos rfl]
  rfl
theorem v_nx {t : Nat} (ht : t < 4) : sp_next s (nI t) = oI (sNx s t) := by
  unfold sp_next
  rw [if_pos (show 0 ≤ nI t ∧ nI t ≤ 3 from rg (n := t) (k := 3) (by omega) (by decide)), nI_clamp (show t < 2 ^ 31 by omega)]
theorem v_de (ho : okm s) {b : Nat} (hb : b < s.2.1.1) : sp_deal s 20 (nI b) = nI (dlt s.2.1 20 b) := by
  have d6 := ho.2.1.1
  unfold sp_deal
  rw [if_pos ⟨by decide, rgb hb (by omega)⟩, nI_clamp (show b < 2 ^ 31 by omega)]
  rfl
theorem v_pr {k : Nat} (hk : k < 4) : sp_pair s 0 1 (nI k) = nI (sPr s 0 1 k) := by
  unfold sp_pair
  rw [if_pos ⟨by decide, rg (n := k) (k := 3) (by omega) (by decide)⟩, nI_clamp (show k < 2 ^ 31 by omega)]
  rfl
theorem v_be : sp_better s 0 1 = sBt (sPr s 0 1 1) (sPr s 0 1 2) := by
  unfold sp_better
  rw [if_pos (by decide)]
  rfl
theorem x_digestAn {t : Nat} {h : Int64} (hx : JX s M) (ho : okm s) (ht : t < 4) : ∃ M', am_e X 122 0 [some (.ref (0 : Nat)), some (.long h), none, some (.int (nI t)), none, none, none, none] [] kS M = some (some (.long (dAn s t h)), kS, M') ∧ JX s M' ∧ am_of pX M M' := by
  have d6 := ho.2.1.1
  have c4 : (nI 4 < 4) = False := eq_false (by decide)
  have a6 := fun k (hk : k < 2) (Mb : am_Me) (hb : JX s Mb) => (x_asked (X := X) hb ho (nI t) (-1) (nI k)).trans (by rw [v_as6 ht hk])
  have aB := fun b (hb : b < s.2.1.1) k (hk : k < 2) (Mb : am_Me) (hj : JX s Mb) => (x_asked (X := X) hj ho (nI t) (nI b) (nI k)).trans (by rw [v_as ho ht hb hk])
  obtain ⟨M1, e1, ⟨g1, of1⟩⟩ := am_lp (X := X) (S := kS) (mi := 122) (pc := 36) s.2.1.1 (fun i => [some (.ref (0 : Nat)), none, none, some (.int (nI t)), some (.long (dBs s t (fo (fun k => (vAs s t 6 k).toInt64) h 2) i)), none, some (.int (nI i)), none])
    (fun i M' => JX s M' ∧ am_of pX M M') (M := M) ⟨hx, am_of.rf⟩ (by
      intro j M2 hj hI
      obtain ⟨j2, i2⟩ := hI
      have c1 : (nI j < nI s.2.1.1) = True := eq_true (nI_lt hj (by omega))
      have q0 := aB j hj 0 (by decide) M2 j2
      have q1 := aB j hj 1 (by decide) M2 j2
      rw [nI_0] at q0
      rw [show nI 1 = 1 from rfl] at q1
      obtain ⟨M3, e3, ⟨g3, of3⟩⟩ := am_lp (X := X) (S := kS) (mi := 122) (pc := 87) 4 (fun i => [some (.ref (0 : Nat)), none, none, some (.int (nI t)), some (.long (fo (fun k => vSh s t j (k / 2) (k % 2)) (fo (fun k => (vAs s t j k).toInt64) (dBs s t (fo (fun k => (vAs s t 6 k).toInt64) h 2) j) 2) i)), none, some (.int (nI j)), some (.int (nI i))])
        (fun i M' => JX s M' ∧ am_of pX M M') (M := M2) ⟨j2, i2⟩ (by
          intro k M4 hk hI
          obtain ⟨j4, i4⟩ := hI
          have c1 : (nI k < 4) = True := eq_true (nI_lt (b := 4) hk (by decide))
          obtain ⟨d1, d2⟩ := hv k (by omega)
          obtain ⟨M5, r1, r2, r3⟩ := x_share (X := X) j4 ho (nI t) (nI j) (nI (k / 2)) (nI (k % 2))
          rw [v_sh ho ht hj (show k / 2 < 2 by omega) (show k % 2 < 2 by omega)] at r1
          refine ⟨M5, ?_, r2, i4.tr r3⟩
          rw [e122_87]
          simp only [e122_0, e122_3, e122_4, e122_5, e122_6, e122_7, e122_8, e122_9, e122_12, e122_13, e122_14, e122_16, e122_19, e122_21, e122_22, e122_23, e122_24, e122_25, e122_26, e122_29, e122_30, e122_31, e122_33, e122_34, e122_38, e122_39, e122_42, e122_45, e122_48, e122_51, e122_53, e122_54, e122_55, e122_56, e122_58, e122_59, e122_62, e122_63, e122_64, e122_66, e122_69, e122_71, e122_72, e122_73, e122_74, e122_76, e122_77, e122_80, e122_81, e122_82, e122_84, e122_85, e122_89, e122_90, e122_93, e122_96, e122_98, e122_99, e122_100, e122_101, e122_103, e122_105, e122_106, e122_107, e122_109, e122_110, e122_111, e122_114, e122_115, e122_117, e122_120, e122_123, e122_126, e122_129, e122_130, e122_134, e122_135, e122_138, e122_141, e122_143, e122_144, e122_145, e122_146, e122_148, e122_149, e122_150, e122_152, e122_153, e122_154, e122_157, e122_158, e122_160, e122_163, e122_166, e122_168, s0, s0_0, s0_1, s0_2, s0_3, s0_4, s0_5, s0_6, s0_7, r0_0, r0_1, r0_2, r0_3, r0_4, r0_5, r0_6, r0_7, c1, d1, d2, r1, nI_1, (eq_false (by decide) : ((2 : Int32) = 0) = False), stp_e, am_bv_s, am_bw_s, eq_self, true_or, or_true, am_b0, am_b1, am_em, if_true, if_false, true_and, and_true, false_and, and_false, not_true_eq_false, not_false_eq_true, false_or, or_false, Bool.false_eq_true]
          rfl)
      refine ⟨M3, ?_, g3, of3⟩
      have f3 : am_e X 122 87 [some (.ref (0 : Nat)), none, none, some (.int (nI t)), some (.long (fo (fun k => vSh s t j (k / 2) (k % 2)) (fo (fun k => (vAs s t j k).toInt64) (dBs s t (fo (fun k => (vAs s t 6 k).toInt64) h 2) j) 2) 4)), none, some (.int (nI j)), some (.int (nI 4))] [] kS M3 = am_e X 122 36 [some (.ref (0 : Nat)), none, none, some (.int (nI t)), some (.long (dBs s t (fo (fun k => (vAs s t 6 k).toInt64) h 2) (j + 1))), none, some (.int (nI (j + 1))), none] [] kS M3 := by
        rw [e122_87]
        simp only [e122_0, e122_3, e122_4, e122_5, e122_6, e122_7, e122_8, e122_9, e122_12, e122_13, e122_14, e122_16, e122_19, e122_21, e122_22, e122_23, e122_24, e122_25, e122_26, e122_29, e122_30, e122_31, e122_33, e122_34, e122_38, e122_39, e122_42, e122_45, e122_48, e122_51, e122_53, e122_54, e122_55, e122_56, e122_58, e122_59, e122_62, e122_63, e122_64, e122_66, e122_69, e122_71, e122_72, e122_73, e122_74, e122_76, e122_77, e122_80, e122_81, e122_82, e122_84, e122_85, e122_89, e122_90, e122_93, e122_96, e122_98, e122_99, e122_100, e122_101, e122_103, e122_105, e122_106, e122_107, e122_109, e122_110, e122_111, e122_114, e122_115, e122_117, e122_120, e122_123, e122_126, e122_129, e122_130, e122_134, e122_135, e122_138, e122_141, e122_143, e122_144, e122_145, e122_146, e122_148, e122_149, e122_150, e122_152, e122_153, e122_154, e122_157, e122_158, e122_160, e122_163, e122_166, e122_168, c4, nI_1, am_bv_s, am_bw_s, eq_self, true_or, or_true, am_b0, am_b1, am_em, if_true, if_false, true_and, and_true, false_and, and_false, not_true_eq_false, not_false_eq_true, false_or, or_false, Bool.false_eq_true]
        rfl
      rw [f3, nI_0] at e3
      rw [← e3, e122_36]
      simp only [e122_0, e122_3, e122_4, e122_5, e122_6, e122_7, e122_8, e122_9, e122_12, e122_13, e122_14, e122_16, e122_19, e122_21, e122_22, e122_23, e122_24, e122_25, e122_26, e122_29, e122_30, e122_31, e122_33, e122_34, e122_38, e122_39, e122_42, e122_45, e122_48, e122_51, e122_53, e122_54, e122_55, e122_56, e122_58, e122_59, e122_62, e122_63, e122_64, e122_66, e122_69, e122_71, e122_72, e122_73, e122_74, e122_76, e122_77, e122_80, e122_81, e122_82, e122_84, e122_85, e122_89, e122_90, e122_93, e122_96, e122_98, e122_99, e122_100, e122_101, e122_103, e122_105, e122_106, e122_107, e122_109, e122_110, e122_111, e122_114, e122_115, e122_117, e122_120, e122_123, e122_126, e122_129, e122_130, e122_134, e122_135, e122_138, e122_141, e122_143, e122_144, e122_145, e122_146, e122_148, e122_149, e122_150, e122_152, e122_153, e122_154, e122_157, e122_158, e122_160, e122_163, e122_166, e122_168, e22_0, e22_1, e22_4, s0, s0_0, s0_1, s0_2, s0_3, s0_4, s0_5, s0_6, s0_7, r0_0, r0_1, r0_2, r0_3, r0_4, r0_5, r0_6, r0_7, s1, s1_0, s1_1, s1_2, s1_3, s1_4, r1_0, r1_1, r1_2, r1_3, s2, s3, s4, s5, j2.1.2.1.1, c1, q0, q1, stp_e, am_bv_s, am_bw_s, eq_self, true_or, or_true, am_b0, am_b1, am_em, if_true, if_false, true_and, and_true, false_and, and_false, not_true_eq_false, not_false_eq_true, false_or, or_false, Bool.false_eq_true]
      rfl)
  obtain ⟨M2, e2, ⟨g2, of2⟩⟩ := am_lp (X := X) (S := kS) (mi := 122) (pc := 132) 4 (fun i => [some (.ref (0 : Nat)), none, none, some (.int (nI t)), some (.long (fo (fun k => vKn s t (k / 2) (k % 2)) (dBs s t (fo (fun k => (vAs s t 6 k).toInt64) h 2) s.2.1.1) i)), none, some (.int (nI i)), none])
    (fun i M' => JX s M' ∧ am_of pX M M') (M := M1) ⟨g1, of1⟩ (by
      intro k M4 hk hI
      obtain ⟨j4, i4⟩ := hI
      have c1 : (nI k < 4) = True := eq_true (nI_lt (b := 4) hk (by decide))
      obtain ⟨d1, d2⟩ := hv k (by omega)
      obtain ⟨M5, r1, r2, r3⟩ := x_knows (X := X) j4 ho (nI t) (nI (k / 2)) (nI (k % 2))
      rw [v_kn ht (show k / 2 < 2 by omega) (show k % 2 < 2 by omega)] at r1
      refine ⟨M5, ?_, r2, i4.tr r3⟩
      rw [e122_132]
      simp only [e122_0, e122_3, e122_4, e122_5, e122_6, e122_7, e122_8, e122_9, e122_12, e122_13, e122_14, e122_16, e122_19, e122_21, e122_22, e122_23, e122_24, e122_25, e122_26, e122_29, e122_30, e122_31, e122_33, e122_34, e122_38, e122_39, e122_42, e122_45, e122_48, e122_51, e122_53, e122_54, e122_55, e122_56, e122_58, e122_59, e122_62, e122_63, e122_64, e122_66, e122_69, e122_71, e122_72, e122_73, e122_74, e122_76, e122_77, e122_80, e122_81, e122_82, e122_84, e122_85, e122_89, e122_90, e122_93, e122_96, e122_98, e122_99, e122_100, e122_101, e122_103, e122_105, e122_106, e122_107, e122_109, e122_110, e122_111, e122_114, e122_115, e122_117, e122_120, e122_123, e122_126, e122_129, e122_130, e122_134, e122_135, e122_138, e122_141, e122_143, e122_144, e122_145, e122_146, e122_148, e122_149, e122_150, e122_152, e122_153, e122_154, e122_157, e122_158, e122_160, e122_163, e122_166, e122_168, s0, s0_0, s0_1, s0_2, s0_3, s0_4, s0_5, s0_6, s0_7, r0_0, r0_1, r0_2, r0_3, r0_4, r0_5, r0_6, r0_7, c1, d1, d2, r1, nI_1, (eq_false (by decide) : ((2 : Int32) = 0) = False), stp_e, am_bv_s, am_bw_s, eq_self, true_or, or_true, am_b0, am_b1, am_em, if_true, if_false, true_and, and_true, false_and, and_false, not_true_eq_false, not_false_eq_true, false_or, or_false, Bool.false_eq_true]
      rfl)
  refine ⟨M2, ?_, g2, of2⟩
  have f2 : am_e X 122 132 [some (.ref (0 : Nat)), none, none, some (.int (nI t)), some (.long (fo (fun k => vKn s t (k / 2) (k % 2)) (dBs s t (fo (fun k => (vAs s t 6 k).toInt64) h 2) s.2.1.1) 4)), none, some (.int (nI 4)), none] [] kS M2 = some (some (.long (dAn s t h)), kS, M2) := by
    rw [e122_132]
    simp only [e122_0, e122_3, e122_4, e122_5, e122_6, e122_7, e122_8, e122_9, e122_12, e122_13, e122_14, e122_16, e122_19, e122_21, e122_22, e122_23, e122_24, e122_25, e122_26, e122_29, e122_30, e122_31, e122_33, e122_34, e122_38, e122_39, e122_42, e122_45, e122_48, e122_51, e122_53, e122_54, e122_55, e122_56, e122_58, e122_59, e122_62, e122_63, e122_64, e122_66, e122_69, e122_71, e122_72, e122_73, e122_74, e122_76, e122_77, e122_80, e122_81, e122_82, e122_84, e122_85, e122_89, e122_90, e122_93, e122_96, e122_98, e122_99, e122_100, e122_101, e122_103, e122_105, e122_106, e122_107, e122_109, e122_110, e122_111, e122_114, e122_115, e122_117, e122_120, e122_123, e122_126, e122_129, e122_130, e122_134, e122_135, e122_138, e122_141, e122_143, e122_144, e122_145, e122_146, e122_148, e122_149, e122_150, e122_152, e122_153, e122_154, e122_157, e122_158, e122_160, e122_163, e122_166, e122_168, c4, am_bv_s, am_bw_s, eq_self, true_or, or_true, am_b0, am_b1, am_em, if_true, if_false, true_and, and_true, false_and, and_false, not_true_eq_false, not_false_eq_true, false_or, or_false, Bool.false_eq_true]
    rfl
  rw [f2, nI_0] at e2
  have cn : (nI s.2.1.1 < nI s.2.1.1) = False := eq_false (nI_nlt (Nat.le_refl _) (by omega))
  have f1 : am_e X 122 36 [some (.ref (0 : Nat)), none, none, some (.int (nI t)), some (.long (dBs s t (fo (fun k => (vAs s t 6 k).toInt64) h 2) s.2.1.1)), none, some (.int (nI s.2.1.1)), none] [] kS M1 = some (some (.long (dAn s t h)), kS, M2) := by
    rw [← e2, e122_36]
    simp only [e122_0, e122_3, e122_4, e122_5, e122_6, e122_7, e122_8, e122_9, e122_12, e122_13, e122_14, e122_16, e122_19, e122_21, e122_22, e122_23, e122_24, e122_25, e122_26, e122_29, e122_30, e122_31, e122_33, e122_34, e122_38, e122_39, e122_42, e122_45, e122_48, e122_51, e122_53, e122_54, e122_55, e122_56, e122_58, e122_59, e122_62, e122_63, e122_64, e122_66, e122_69, e122_71, e122_72, e122_73, e122_74, e122_76, e122_77, e122_80, e122_81, e122_82, e122_84, e122_85, e122_89, e122_90, e122_93, e122_96, e122_98, e122_99, e122_100, e122_101, e122_103, e122_105, e122_106, e122_107, e122_109, e122_110, e122_111, e122_114, e122_115, e122_117, e122_120, e122_123, e122_126, e122_129, e122_130, e122_134, e122_135, e122_138, e122_141, e122_143, e122_144, e122_145, e122_146, e122_148, e122_149, e122_150, e122_152, e122_153, e122_154, e122_157, e122_158, e122_160, e122_163, e122_166, e122_168, e22_0, e22_1, e22_4, s0, s0_0, s0_1, s0_2, s0_3, s0_4, s0_5, s0_6, s0_7, r0_0, r0_1, r0_2, r0_3, r0_4, r0_5, r0_6, r0_7, s1, s1_0, s1_1, s1_2, s1_3, s1_4, r1_0, r1_1, r1_2, r1_3, s2, s3, s4, s5, g1.1.2.1.1, cn, am_bv_s, am_bw_s, eq_self, true_or, or_true, am_b0, am_b1, am_em, if_true, if_false, true_and, and_true, false_and, and_false, not_true_eq_false, not_false_eq_true, false_or, or_false, Bool.false_eq_true]
    rfl
  rw [f1, nI_0] at e1
  have q0 := a6 0 (by decide) M hx
  have q1 := a6 1 (by decide) M hx
  rw [nI_0] at q0
  rw [show nI 1 = 1 from rfl] at q1
  rw [← e1]
  simp only [e122_0, e122_3, e122_4, e122_5, e122_6, e122_7, e122_8, e122_9, e122_12, e122_13, e122_14, e122_16, e122_19, e122_21, e122_22, e122_23, e122_24, e122_25, e122_26, e122_29, e122_30, e122_31, e122_33, e122_34, e122_38, e122_39, e122_42, e122_45, e122_48, e122_51, e122_53, e122_54, e122_55, e122_56, e122_58, e122_59, e122_62, e122_63, e122_64, e122_66, e122_69, e122_71, e122_72, e122_73, e122_74, e122_76, e122_77, e122_80, e122_81, e122_82, e122_84, e122_85, e122_89, e122_90, e122_93, e122_96, e122_98, e122_99, e122_100, e122_101, e122_103, e122_105, e122_106, e122_107, e122_109, e122_110, e122_111, e122_114, e122_115, e122_117, e122_120, e122_123, e122_126, e122_129, e122_130, e122_134, e122_135, e122_138, e122_141, e122_143, e122_144, e122_145, e122_146, e122_148, e122_149, e122_150, e122_152, e122_153, e122_154, e122_157, e122_158, e122_160, e122_163, e122_166, e122_168, s0, s0_0, s0_1, s0_2, s0_3, s0_4, s0_5, s0_6, s0_7, r0_0, r0_1, r0_2, r0_3, r0_4, r0_5, r0_6, r0_7, q0, q1, stp_e, am_bv_s, am_bw_s, eq_self, true_or, or_true, am_b0, am_b1, am_em, if_true, if_false, true_and, and_true, false_and, and_false, not_true_eq_false, not_false_eq_true, false_or, or_false, Bool.false_eq_true]
  rfl
end
