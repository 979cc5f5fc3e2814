/-! alike, better, of both -/
theorem sPr_le {s : sgm} (ho : okm s) {a b c : Nat} : sPr s a b c ≤ 40 := Nat.le_trans (cnt_le _ _) (ps_le ho.2.1.1).1
def sLk (s : sgm) (a b : Nat) : Nat := sPr s a b 0 + sPr s a b 3
def sAl (s : sgm) (a b : Nat) : Nat := sLk s a b + sPr s a b 1 + sPr s a b 2
def sp_alike (s : sgm) (a b v : Int32) : Int64 := if two a b ∧ (0 ≤ v ∧ v ≤ 1) then (if sAl s a.toNatClampNeg b.toNatClampNeg = 0 then nol (-3) else fp (fr (sLk s a.toNatClampNeg b.toNatClampNeg) (sAl s a.toNatClampNeg b.toNatClampNeg)) v) else nol (-2)
def dst (a b : Nat) : Nat := (a - b) + (b - a)
/-- ways that are at least so uneven -/
def unv (n lead k : Nat) : Nat := sm (fun i => if dst (2 * i) n < lead then 0 else ch n i) k
def sBt (o w : Nat) : Int32 := if 24 < o + w then -4 else (lI (1000000 * unv (o + w) (dst o w) (o + w + 1)) / lI (2 ^ (o + w))).toInt32
def sp_better (s : sgm) (a b : Int32) : Int32 := if two a b then sBt (sPr s a.toNatClampNeg b.toNatClampNeg 1) (sPr s a.toNatClampNeg b.toNatClampNeg 2) else -2
theorem shl_2 : ∀ n, n < 25 → (1 : Int64) <<< ((nI n).toInt64 &&& 63) = lI (2 ^ n) := by decide +kernel
theorem shr_n : ∀ n, n < 25 → ((nI n).toInt64 &&& 63).toBitVec.smod 64 = BitVec.ofNat 64 n := by decide +kernel
theorem lI_shr {a n : Nat} (ha : a < 2 ^ 63) (hn : n < 25) : lI a >>> ((nI n).toInt64 &&& 63) = lI (a / 2 ^ n) := by
  apply Int64.toInt_inj.1
  rw [lI_toInt (Nat.lt_of_le_of_lt (Nat.div_le_self _ _) ha)]
  show (lI a >>> ((nI n).toInt64 &&& 63)).toBitVec.toInt = _
  rw [Int64.toBitVec_shiftRight, shr_n n hn, BitVec.sshiftRight_eq', BitVec.toInt_sshiftRight]
  show (lI a).toInt >>> _ = _
  rw [lI_toInt ha, BitVec.toNat_ofNat, Nat.mod_eq_of_lt (by omega), Int.shiftRight_eq_div_pow]
  simp
theorem unv_le (n lead k : Nat) : unv n lead k ≤ k * 2 ^ n := sm_le _ fun i _ => by
  split
  · exact Nat.zero_le _
  · exact ch_2 n i
theorem sub_lt0 {a b : Nat} (ha : a < 2 ^ 30) (hb : b < 2 ^ 30) : (nI a - nI b < 0) = (a < b) := propext (by
  have t1 : (nI a - nI b).toInt = (a : Int) - b := by
    rw [Jvm.Kit.i32_sub (by rw [nI_toInt (by omega), nI_toInt (by omega)]; omega) (by rw [nI_toInt (by omega), nI_toInt (by omega)]; omega), nI_toInt (by omega), nI_toInt (by omega)]
  rw [Int32.lt_iff_toInt_lt, t1, show (0 : Int32).toInt = 0 from rfl]
  omega)
theorem two_n {a b : Int32} (h : two a b) : ∃ x y : Nat, x < 4 ∧ y < 4 ∧ a = nI x ∧ b = nI y := by
  obtain ⟨x, hx, rfl⟩ := in_n (n := 3) h.1 (by decide)
  obtain ⟨y, hy, rfl⟩ := in_n (n := 3) h.2.1 (by decide)
  exact ⟨x, y, by omega, by omega, rfl, rfl⟩
section
variable {X : am_X} {S : am_Sh} {M M' : am_Me} {P : Nat → Nat → Prop} {s : sgm}
theorem q_abs {a b : Nat} (ha : a < 2 ^ 30) (hb : b < 2 ^ 30) : am_e X 215 0 [some (.int (nI a - nI b))] [] S M = some (some (.int (nI (dst a b))), S, M) := by
  have c := sub_lt0 ha hb
  by_cases h : a < b
  · have e : -(nI a - nI b) = nI (dst a b) := by
      rw [Int32.neg_sub, pk_sub (by omega)]
      unfold dst
      congr 1
      omega
    simp only [e215_0, e215_1, e215_4, e215_5, e215_6, e215_9, e215_10, c, h, e, am_bv_s, am_bw_s, eq_self, true_or, or_true, am_b0, am_b1, am_em, if_true, if_false, true_and, and_true, false_and, and_false, not_true_eq_false, not_false_eq_true, false_or, or_false, Bool.false_eq_true]
  · have e : nI a - nI b = nI (dst a b) := by
      rw [pk_sub (by omega)]
      unfold dst
      congr 1
      omega
    rw [e] at c
    rw [e]
    simp only [e215_0, e215_1, e215_4, e215_5, e215_6, e215_9, e215_10, c, h, am_bv_s, am_bw_s, eq_self, true_or, or_true, am_b0, am_b1, am_em, if_true, if_false, true_and, and_true, false_and, and_false, not_true_eq_false, not_false_eq_true, false_or, or_false, Bool.false_eq_true]
theorem x_alike (hx : JX s M) (ho : okm s) (a b v : Int32) : ∃ M', am_e X 111 0 [some (.ref (0 : Nat)), some (.int a), some (.int b), some (.int v), none, none] [] kS M = some (some (.long (sp_alike s a b v)), kS, M') ∧ JX s M' ∧ am_of pX M M' := by
  have i1 := q_areTwo2 (X := X) (S := kS) (M := M) (a := a) (b := b)
  have i2 := q_isIn (X := X) (S := kS) (M := M) v 0 1
  unfold sp_alike
  by_cases h1 : two a b
  · rw [am_bt h1] at i1
    by_cases h2 : 0 ≤ v ∧ v ≤ 1
    · rw [am_bt h2] at i2
      rw [if_pos ⟨h1, h2⟩]
      obtain ⟨an, bn, ha, hb, rfl, rfl⟩ := two_n h1
      rw [nI_clamp (n := an) (by omega), nI_clamp (n := bn) (by omega)]
      have p0 := x_pairCount (X := X) hx ho ha hb (c := 0) (by decide)
      have p1 := x_pairCount (X := X) hx ho ha hb (c := 1) (by decide)
      have p2 := x_pairCount (X := X) hx ho ha hb (c := 2) (by decide)
      have p3 := x_pairCount (X := X) hx ho ha hb (c := 3) (by decide)
      rw [show nI 0 = 0 from rfl] at p0
      rw [show nI 1 = 1 from rfl] at p1
      rw [show nI 2 = 2 from rfl] at p2
      rw [show nI 3 = 3 from rfl] at p3
      have l0 := sPr_le ho (a := an) (b := bn) (c := 0)
      have l1 := sPr_le ho (a := an) (b := bn) (c := 1)
      have l2 := sPr_le ho (a := an) (b := bn) (c := 2)
      have l3 := sPr_le ho (a := an) (b := bn) (c := 3)
      have e1 : nI (sPr s an bn 0) + nI (sPr s an bn 3) = nI (sLk s an bn) := nI_add _ _
      have e2 : nI (sLk s an bn) + nI (sPr s an bn 1) + nI (sPr s an bn 2) = nI (sAl s an bn) := by rw [nI_add, nI_add]; rfl
      have k1 : sLk s an bn ≤ 80 := by unfold sLk; omega
      have k2 : sAl s an bn ≤ 160 := by unfold sAl; omega
      have c0 : (nI (sAl s an bn) = 0) = (sAl s an bn = 0) := nI_0e (by omega)
      have w1 := lI_w (n := sLk s an bn) (by omega)
      have w2 := lI_w (n := sAl s an bn) (by omega)
      by_cases h3 : sAl s an bn = 0
      · rw [if_pos h3]
        refine ⟨M, ?_, hx, am_of.rf⟩
        simp only [e111_0, e111_1, e111_2, e111_5, e111_8, e111_9, e111_10, e111_11, e111_14, e111_17, e111_19, e111_22, e111_23, e111_24, e111_25, e111_26, e111_27, e111_30, e111_31, e111_32, e111_33, e111_34, e111_37, e111_38, e111_40, e111_42, e111_43, e111_44, e111_45, e111_46, e111_49, e111_50, e111_51, e111_52, e111_53, e111_54, e111_57, e111_58, e111_60, e111_62, e111_65, e111_67, e111_70, e111_71, e111_72, e111_75, e111_77, e111_78, e111_80, e111_81, e111_84, e111_85, e111_88, e111_89, e111_92, s0, s0_0, s0_1, s0_2, s0_3, s0_4, s0_5, s0_6, s0_7, r0_0, r0_1, r0_2, r0_3, r0_4, r0_5, r0_6, r0_7, i1, i2, z10, z01, z1m, zm1, z0m, zm0, p0, p1, p2, p3, e1, e2, h3, (eq_true rfl : (nI 0 = 0) = True), q_refusal2, am_bv_s, am_bw_s, eq_self, true_or, or_true, am_b0, am_b1, am_em, if_true, if_false, true_and, and_true, false_and, and_false, not_true_eq_false, not_false_eq_true, false_or, or_false, Bool.false_eq_true]
      · rw [if_neg h3]
        obtain ⟨M', r1, r2, r3⟩ := x_put (X := X) (M := M) (f := 58) (a := sLk s an bn) (b := sAl s an bn) isF_r (by omega) (by omega) (by omega)
        have pq := q_part (X := X) (w := v) isF_r r2
        refine ⟨M', ?_, hx.of r3 (fun a k q => by unfold pS; omega), r3.mo fun a k q => by unfold pX; omega⟩
        simp only [e111_0, e111_1, e111_2, e111_5, e111_8, e111_9, e111_10, e111_11, e111_14, e111_17, e111_19, e111_22, e111_23, e111_24, e111_25, e111_26, e111_27, e111_30, e111_31, e111_32, e111_33, e111_34, e111_37, e111_38, e111_40, e111_42, e111_43, e111_44, e111_45, e111_46, e111_49, e111_50, e111_51, e111_52, e111_53, e111_54, e111_57, e111_58, e111_60, e111_62, e111_65, e111_67, e111_70, e111_71, e111_72, e111_75, e111_77, e111_78, e111_80, e111_81, e111_84, e111_85, e111_88, e111_89, e111_92, s0, s0_0, s0_1, s0_2, s0_3, s0_4, s0_5, s0_6, s0_7, r0_0, r0_1, r0_2, r0_3, r0_4, r0_5, r0_6, r0_7, s58, s58_0, s58_1, i1, i2, z10, z01, z1m, zm1, z0m, zm0, p0, p1, p2, p3, e1, e2, c0, h3, w1, w2, r1, pq, am_bv_s, am_bw_s, eq_self, true_or, or_true, am_b0, am_b1, am_em, if_true, if_false, true_and, and_true, false_and, and_false, not_true_eq_false, not_false_eq_true, false_or, or_false, Bool.false_eq_true]
    · rw [am_bf h2] at i2
      rw [if_neg (fun q => h2 q.2)]
      refine ⟨M, ?_, hx, am_of.rf⟩
      simp only [e111_0, e111_1, e111_2, e111_5, e111_8, e111_9, e111_10, e111_11, e111_14, e111_17, e111_19, e111_22, e111_23, e111_24, e111_25, e111_26, e111_27, e111_30, e111_31, e111_32, e111_33, e111_34, e111_37, e111_38, e111_40, e111_42, e111_43, e111_44, e111_45, e111_46, e111_49, e111_50, e111_51, e111_52, e111_53, e111_54, e111_57, e111_58, e111_60, e111_62, e111_65, e111_67, e111_70, e111_71, e111_72, e111_75, e111_77, e111_78, e111_80, e111_81, e111_84, e111_85, e111_88, e111_89, e111_92, s0, s0_0, s0_1, s0_2, s0_3, s0_4, s0_5, s0_6, s0_7, r0_0, r0_1, r0_2, r0_3, r0_4, r0_5, r0_6, r0_7, i1, i2, z10, z01, z1m, zm1, z0m, zm0, q_refusal2, am_bv_s, am_bw_s, eq_self, true_or, or_true, am_b0, am_b1, am_em, if_true, if_false, true_and, and_true, false_and, and_false, not_true_eq_false, not_false_eq_true, false_or, or_false, Bool.false_eq_true]
  · rw [am_bf h1] at i1
    rw [if_neg (fun q => h1 q.1)]
    refine ⟨M, ?_, hx, am_of.rf⟩
    simp only [e111_0, e111_1, e111_2, e111_5, e111_8, e111_9, e111_10, e111_11, e111_14, e111_17, e111_19, e111_22, e111_23, e111_24, e111_25, e111_26, e111_27, e111_30, e111_31, e111_32, e111_33, e111_34, e111_37, e111_38, e111_40, e111_42, e111_43, e111_44, e111_45, e111_46, e111_49, e111_50, e111_51, e111_52, e111_53, e111_54, e111_57, e111_58, e111_60, e111_62, e111_65, e111_67, e111_70, e111_71, e111_72, e111_75, e111_77, e111_78, e111_80, e111_81, e111_84, e111_85, e111_88, e111_89, e111_92, s0, s0_0, s0_1, s0_2, s0_3, s0_4, s0_5, s0_6, s0_7, r0_0, r0_1, r0_2, r0_3, r0_4, r0_5, r0_6, r0_7, i1, z10, z01, z1m, zm1, z0m, zm0, q_refusal2, am_bv_s, am_bw_s, eq_self, true_or, or_true, am_b0, am_b1, am_em, if_true, if_false, true_and, and_true, false_and, and_false, not_true_eq_false, not_false_eq_true, false_or, or_false, Bool.false_eq_true]
theorem m_alike (hx : JM s M) (ho : okm s) (a b v : Int32) : ∃ M', am_e X 208 0 [some (.ref (59 : Nat)), some (.int a), some (.int b), some (.int v), none, none] [] kS M = some (some (.long (sp_alike s a b v)), kS, M') ∧ JM s M' ∧ am_of pM M M' := by
  have i1 := m_areTwo2 (X := X) (S := kS) (M := M) (a := a) (b := b)
  have i2 := m_isTwo (X := X) (S := kS) (M := M) v
  unfold sp_alike
  by_cases h1 : two a b
  · rw [am_bt h1] at i1
    by_cases h2 : 0 ≤ v ∧ v ≤ 1
    · rw [am_bt h2] at i2
      rw [if_pos ⟨h1, h2⟩]
      obtain ⟨an, bn, ha, hb, rfl, rfl⟩ := two_n h1
      rw [nI_clamp (n := an) (by omega), nI_clamp (n := bn) (by omega)]
      obtain ⟨M0, p0, j0, of0⟩ := m_pairOf (X := X) hx ho ha hb (c := 0) (by decide)
      obtain ⟨M3, p3, j3, of3⟩ := m_pairOf (X := X) j0 ho ha hb (c := 3) (by decide)
      obtain ⟨M1, p1, j1, of1⟩ := m_pairOf (X := X) j3 ho ha hb (c := 1) (by decide)
      obtain ⟨M2, p2, j2, of2⟩ := m_pairOf (X := X) j1 ho ha hb (c := 2) (by decide)
      rw [show nI 0 = 0 from rfl] at p0
      rw [show nI 1 = 1 from rfl] at p1
      rw [show nI 2 = 2 from rfl] at p2
      rw [show nI 3 = 3 from rfl] at p3
      have l0 := sPr_le ho (a := an) (b := bn) (c := 0)
      have l1 := sPr_le ho (a := an) (b := bn) (c := 1)
      have l2 := sPr_le ho (a := an) (b := bn) (c := 2)
      have l3 := sPr_le ho (a := an) (b := bn) (c := 3)
      have e1 : nI (sPr s an bn 0) + nI (sPr s an bn 3) = nI (sLk s an bn) := nI_add _ _
      have e2 : nI (sLk s an bn) + nI (sPr s an bn 1) + nI (sPr s an bn 2) = nI (sAl s an bn) := by rw [nI_add, nI_add]; rfl
      have k1 : sLk s an bn ≤ 80 := by unfold sLk; omega
      have k2 : sAl s an bn ≤ 160 := by unfold sAl; omega
      have c0 : (nI (sAl s an bn) = 0) = (sAl s an bn = 0) := nI_0e (by omega)
      have w1 := lI_w (n := sLk s an bn) (by omega)
      have w2 := lI_w (n := sAl s an bn) (by omega)
      refine ⟨M2, ?_, j2, (((of0.tr of3).tr of1).tr of2).mo fun a k q => by unfold pmS pmW at q; unfold pM; omega⟩
      by_cases h3 : sAl s an bn = 0
      · rw [if_pos h3]
        simp only [e208_0, e208_1, e208_2, e208_5, e208_8, e208_9, e208_12, e208_15, e208_17, e208_20, e208_21, e208_22, e208_23, e208_24, e208_25, e208_28, e208_29, e208_30, e208_31, e208_32, e208_35, e208_36, e208_38, e208_40, e208_41, e208_42, e208_43, e208_44, e208_47, e208_48, e208_49, e208_50, e208_51, e208_52, e208_55, e208_56, e208_58, e208_60, e208_63, e208_65, e208_68, e208_71, e208_73, e208_74, e208_76, e208_77, e208_78, e208_81, s59, s59_0, s59_1, s59_2, s59_3, s59_4, s59_5, s59_6, s59_7, s59_8, s59_9, s59_10, s59_11, s59_12, s59_13, s59_14, s59_15, s59_16, s59_17, s59_18, s59_19, s59_20, s59_21, s59_22, s59_23, s59_24, s59_25, s59_26, s59_27, s59_28, s59_29, s59_30, s59_31, r59_0, r59_1, r59_2, r59_3, r59_6, r59_8, r59_9, r59_13, r59_15, r59_16, r59_17, r59_19, r59_22, r59_23, r59_26, r59_30, r59_31, s60, s61, s62, s63, s64, s65, s66, s67, s68, s69, s70, s71, s72, s73, s74, s75, s76, i1, i2, z10, z01, z1m, zm1, z0m, zm0, p0, p1, p2, p3, e1, e2, h3, (eq_true rfl : (nI 0 = 0) = True), m_no2, am_bv_s, am_bw_s, eq_self, true_or, or_true, am_b0, am_b1, am_em, if_true, if_false, true_and, and_true, false_and, and_false, not_true_eq_false, not_false_eq_true, false_or, or_false, Bool.false_eq_true]
      · rw [if_neg h3]
        have pp := m_part2 (X := X) (S := kS) (M := M2) (a := sLk s an bn) (b := sAl s an bn) (w := v) (by omega) (by omega) (by omega)
        simp only [e208_0, e208_1, e208_2, e208_5, e208_8, e208_9, e208_12, e208_15, e208_17, e208_20, e208_21, e208_22, e208_23, e208_24, e208_25, e208_28, e208_29, e208_30, e208_31, e208_32, e208_35, e208_36, e208_38, e208_40, e208_41, e208_42, e208_43, e208_44, e208_47, e208_48, e208_49, e208_50, e208_51, e208_52, e208_55, e208_56, e208_58, e208_60, e208_63, e208_65, e208_68, e208_71, e208_73, e208_74, e208_76, e208_77, e208_78, e208_81, s59, s59_0, s59_1, s59_2, s59_3, s59_4, s59_5, s59_6, s59_7, s59_8, s59_9, s59_10, s59_11, s59_12, s59_13, s59_14, s59_15, s59_16, s59_17, s59_18, s59_19, s59_20, s59_21, s59_22, s59_23, s59_24, s59_25, s59_26, s59_27, s59_28, s59_29, s59_30, s59_31, r59_0, r59_1, r59_2, r59_3, r59_6, r59_8, r59_9, r59_13, r59_15, r59_16, r59_17, r59_19, r59_22, r59_23, r59_26, r59_30, r59_31, s60, s61, s62, s63, s64, s65, s66, s67, s68, s69, s70, s71, s72, s73, s74, s75, s76, i1, i2, z10, z01, z1m, zm1, z0m, zm0, p0, p1, p2, p3, e1, e2, c0, h3, w1, w2, pp, am_bv_s, am_bw_s, eq_self, true_or, or_true, am_b0, am_b1, am_em, if_true, if_false, true_and, and_true, false_and, and_false, not_true_eq_false, not_false_eq_true, false_or, or_false, Bool.false_eq_true]
    · rw [am_bf h2] at i2
      rw [if_neg (fun q => h2 q.2)]
      refine ⟨M, ?_, hx, am_of.rf⟩
      simp only [e208_0, e208_1, e208_2, e208_5, e208_8, e208_9, e208_12, e208_15, e208_17, e208_20, e208_21, e208_22, e208_23, e208_24, e208_25, e208_28, e208_29, e208_30, e208_31, e208_32, e208_35, e208_36, e208_38, e208_40, e208_41, e208_42, e208_43, e208_44, e208_47, e208_48, e208_49, e208_50, e208_51, e208_52, e208_55, e208_56, e208_58, e208_60, e208_63, e208_65, e208_68, e208_71, e208_73, e208_74, e208_76, e208_77, e208_78, e208_81, s59, s59_0, s59_1, s59_2, s59_3, s59_4, s59_5, s59_6, s59_7, s59_8, s59_9, s59_10, s59_11, s59_12, s59_13, s59_14, s59_15, s59_16, s59_17, s59_18, s59_19, s59_20, s59_21, s59_22, s59_23, s59_24, s59_25, s59_26, s59_27, s59_28, s59_29, s59_30, s59_31, r59_0, r59_1, r59_2, r59_3, r59_6, r59_8, r59_9, r59_13, r59_15, r59_16, r59_17, r59_19, r59_22, r59_23, r59_26, r59_30, r59_31, s60, s61, s62, s63, s64, s65, s66, s67, s68, s69, s70, s71, s72, s73, s74, s75, s76, i1, i2, z10, z01, z1m, zm1, z0m, zm0, m_no2, am_bv_s, am_bw_s, eq_self, true_or, or_true, am_b0, am_b1, am_em, if_true, if_false, true_and, and_true, false_and, and_false, not_true_eq_false, not_false_eq_true, false_or, or_false, Bool.false_eq_true]
  · rw [am_bf h1] at i1
    rw [if_neg (fun q => h1 q.1)]
    refine ⟨M, ?_, hx, am_of.rf⟩
    simp only [e208_0, e208_1, e208_2, e208_5, e208_8, e208_9, e208_12, e208_15, e208_17, e208_20, e208_21, e208_22, e208_23, e208_24, e208_25, e208_28, e208_29, e208_30, e208_31, e208_32, e208_35, e208_36, e208_38, e208_40, e208_41, e208_42, e208_43, e208_44, e208_47, e208_48, e208_49, e208_50, e208_51, e208_52, e208_55, e208_56, e208_58, e208_60, e208_63, e208_65, e208_68, e208_71, e208_73, e208_74, e208_76, e208_77, e208_78, e208_81, s59, s59_0, s59_1, s59_2, s59_3, s59_4, s59_5, s59_6, s59_7, s59_8, s59_9, s59_10, s59_11, s59_12, s59_13, s59_14, s59_15, s59_16, s59_17, s59_18, s59_19, s59_20, s59_21, s59_22, s59_23, s59_24, s59_25, s59_26, s59_27, s59_28, s59_29, s59_30, s59_31, r59_0, r59_1, r59_2, r59_3, r59_6, r59_8, r59_9, r59_13, r59_15, r59_16, r59_17, r59_19, r59_22, r59_23, r59_26, r59_30, r59_31, s60, s61, s62, s63, s64, s65, s66, s67, s68, s69, s70, s71, s72, s73, s74, s75, s76, i1, z10, z01, z1m, zm1, z0m, zm0, m_no2, am_bv_s, am_bw_s, eq_self, true_or, or_true, am_b0, am_b1, am_em, if_true, if_false, true_and, and_true, false_and, and_false, not_true_eq_false, not_false_eq_true, false_or, or_false, Bool.false_eq_true]
theorem q_millionths {n lead : Nat} (hn : n ≤ 24) (hl : lead ≤ 24) : am_e X 20 0 [some (.ref (48 : Nat)), some (.int (nI n)), some (.int (nI lead)), none, none, none, none, none] [] kS M = some (some (.int (lI (1000000 * unv n lead (n + 1)) / lI (2 ^ n)).toInt32), kS, M) := by
  have p24 : 2 ^ n ≤ 2 ^ 24 := Nat.pow_le_pow_right (by decide) hn
  have lz : ∀ a, lI a + 0 = lI a := fun a => Int64.add_zero _
  obtain ⟨M', e1, rfl⟩ := am_lp (X := X) (S := kS) (mi := 20) (pc := 8) (n + 1) (fun i => [none, some (.int (nI n)), some (.int (nI lead)), some (.long (lI (ch n i))), none, some (.long (lI (unv n lead i))), none, some (.int (nI i))])
    (fun i M' => M' = M) (M := M) rfl (by
      intro j M2 hj hI
      subst hI
      have c1 : (nI n < nI j) = False := eq_false (nI_nlt (by omega) (by omega))
      have d2 : (2 : Int32) * nI j = nI (2 * j) := pk_mul 2 j
      have ab := q_abs (X := X) (S := kS) (M := M2) (a := 2 * j) (b := n) (by omega) (by omega)
      have c2 : (nI (dst (2 * j) n) < nI lead) = (dst (2 * j) n < lead) := ok_lt (by unfold dst; omega) (by omega)
      have d1 : nI n - nI j = nI (n - j) := pk_sub (by omega)
      have l1 := lI_w (n := n - j) (by omega)
      have l2 := lI_w (n := j + 1) (by omega)
      have c4 : (lI (j + 1) = 0) = False := by rw [lI_0e (by omega)]; exact eq_false (by omega)
      have cb : ch n j * (n - j) ≤ 2 ^ 24 * 24 := Nat.mul_le_mul (Nat.le_trans (ch_2 n j) p24) (by omega)
      have dv : lI (ch n j * (n - j)) / lI (j + 1) = lI (ch n (j + 1)) := by
        rw [lI_div (Nat.lt_of_le_of_lt cb (by decide)) (by omega), ← ch_st, Nat.mul_div_cancel _ (Nat.succ_pos j)]
      refine ⟨M2, ?_, rfl⟩
      by_cases h : dst (2 * j) n < lead
      · have es : unv n lead (j + 1) = unv n lead j := by
          unfold unv
          rw [sm, if_pos h, Nat.add_zero]
        rw [es, e20_8]
        simp only [e20_0, e20_1, e20_2, e20_3, e20_5, e20_6, e20_10, e20_11, e20_14, e20_15, e20_17, e20_18, e20_19, e20_20, e20_23, e20_24, e20_27, e20_29, e20_30, e20_31, e20_33, e20_34, e20_35, e20_37, e20_38, e20_39, e20_40, e20_42, e20_43, e20_44, e20_45, e20_46, e20_47, e20_50, e20_53, e20_55, e20_58, e20_59, e20_60, e20_61, e20_62, c1, d2, ab, c2, h, d1, l1, nI_1, l2, lI_mul, c4, dv, am_bv_s, am_bw_s, eq_self, true_or, or_true, am_b0, am_b1, am_em, if_true, if_false, true_and, and_true, false_and, and_false, not_true_eq_false, not_false_eq_true, false_or, or_false, Bool.false_eq_true]
      · have es : lI (unv n lead (j + 1)) = lI (unv n lead j) + lI (ch n j) := by
          unfold unv
          rw [sm, if_neg h, lI_add]
        rw [es, e20_8]
        simp only [e20_0, e20_1, e20_2, e20_3, e20_5, e20_6, e20_10, e20_11, e20_14, e20_15, e20_17, e20_18, e20_19, e20_20, e20_23, e20_24, e20_27, e20_29, e20_30, e20_31, e20_33, e20_34, e20_35, e20_37, e20_38, e20_39, e20_40, e20_42, e20_43, e20_44, e20_45, e20_46, e20_47, e20_50, e20_53, e20_55, e20_58, e20_59, e20_60, e20_61, e20_62, c1, d2, ab, c2, h, d1, l1, nI_1, l2, lI_mul, c4, dv, am_bv_s, am_bw_s, eq_self, true_or, or_true, am_b0, am_b1, am_em, if_true, if_false, true_and, and_true, false_and, and_false, not_true_eq_false, not_false_eq_true, false_or, or_false, Bool.false_eq_true])
  have cn : (nI n < nI (n + 1)) = True := eq_true (nI_lt (by omega) (by omega))
  have lm : (1000000 : Int64) = lI 1000000 := rfl
  have bd : unv n lead (n + 1) ≤ 25 * 2 ^ 24 := Nat.le_trans (unv_le n lead (n + 1)) (Nat.mul_le_mul (by omega) p24)
  have sh : lI (unv n lead (n + 1) * 1000000) >>> ((nI n).toInt64 &&& 63) = lI (unv n lead (n + 1) * 1000000) / lI (2 ^ n) := by
    rw [lI_shr (by omega) (by omega), lI_div (by omega) (by omega)]
  have fin : am_e X 20 8 [none, some (.int (nI n)), some (.int (nI lead)), some (.long (lI (ch n (n + 1)))), none, some (.long (lI (unv n lead (n + 1)))), none, some (.int (nI (n + 1)))] [] kS M' = some (some (.int (lI (1000000 * unv n lead (n + 1)) / lI (2 ^ n)).toInt32), kS, M') := by
    rw [Nat.mul_comm 1000000, e20_8]
    simp only [e20_0, e20_1, e20_2, e20_3, e20_5, e20_6, e20_10, e20_11, e20_14, e20_15, e20_17, e20_18, e20_19, e20_20, e20_23, e20_24, e20_27, e20_29, e20_30, e20_31, e20_33, e20_34, e20_35, e20_37, e20_38, e20_39, e20_40, e20_42, e20_43, e20_44, e20_45, e20_46, e20_47, e20_50, e20_53, e20_55, e20_58, e20_59, e20_60, e20_61, e20_62, cn, lm, lI_mul, sh, am_bv_s, am_bw_s, eq_self, true_or, or_true, am_b0, am_b1, am_em, if_true, if_false, true_and, and_true, false_and, and_false, not_true_eq_false, not_false_eq_true, false_or, or_false, Bool.false_eq_true]
  rw [fin, nI_0, ch_z, lI_1] at e1
  rw [← e1]
  simp only [e20_0, e20_1, e20_2, e20_3, e20_5, e20_6, e20_10, e20_11, e20_14, e20_15, e20_17, e20_18, e20_19, e20_20, e20_23, e20_24, e20_27, e20_29, e20_30, e20_31, e20_33, e20_34, e20_35, e20_37, e20_38, e20_39, e20_40, e20_42, e20_43, e20_44, e20_45, e20_46, e20_47, e20_50, e20_53, e20_55, e20_58, e20_59, e20_60, e20_61, e20_62, am_bv_s, am_bw_s, eq_self, true_or, or_true, am_b0, am_b1, am_em, if_true, if_false, true_and, and_true, false_and, and_false, not_true_eq_false, not_false_eq_true, false_or, or_false, Bool.false_eq_true]
  rfl
theorem x_better (hx : JX s M) (ho : okm s) (a b : Int32) : am_e X 112 0 [some (.ref (0 : Nat)), some (.int a), some (.int b), none, none] [] kS M = some (some (.int (sp_better s a b)), kS, M) := by
  have i1 := q_areTwo2 (X := X) (S := kS) (M := M) (a := a) (b := b)
  unfold sp_better
  by_cases h1 : two a b
  · rw [am_bt h1] at i1
    rw [if_pos h1]
    obtain ⟨an, bn, ha, hb, rfl, rfl⟩ := two_n h1
    rw [nI_clamp (n := an) (by omega), nI_clamp (n := bn) (by omega)]
    have p1 := x_pairCount (X := X) hx ho ha hb (c := 1) (by decide)
    have p2 := x_pairCount (X := X) hx ho ha hb (c := 2) (by decide)
    rw [show nI 1 = 1 from rfl] at p1
    rw [show nI 2 = 2 from rfl] at p2
    have l1 := sPr_le ho (a := an) (b := bn) (c := 1)
    have l2 := sPr_le ho (a := an) (b := bn) (c := 2)
    generalize sPr s an bn 1 = o at *
    generalize sPr s an bn 2 = w at *
    have sa : nI o + nI w = nI (o + w) := nI_add _ _
    have c1 : (24 < nI (o + w)) = (24 < o + w) := ok_lt (x := 24) (by decide) (by omega)
    have ab := q_abs (X := X) (S := kS) (M := M) (a := o) (b := w) (by omega) (by omega)
    unfold sBt
    by_cases h2 : 24 < o + w
    · rw [if_pos h2]
      simp only [e112_0, e112_1, e112_2, e112_5, e112_8, e112_10, e112_11, e112_12, e112_13, e112_14, e112_15, e112_18, e112_19, e112_20, e112_21, e112_22, e112_23, e112_26, e112_28, e112_29, e112_31, e112_32, e112_34, e112_37, e112_39, e112_40, e112_41, e112_44, e112_45, e112_47, e112_48, e112_49, e112_51, e112_52, e112_55, e112_58, s0, s0_0, s0_1, s0_2, s0_3, s0_4, s0_5, s0_6, s0_7, r0_0, r0_1, r0_2, r0_3, r0_4, r0_5, r0_6, r0_7, i1, z10, z01, z1m, zm1, z0m, zm0, p1, p2, sa, c1, h2, am_bv_s, am_bw_s, eq_self, true_or, or_true, am_b0, am_b1, am_em, if_true, if_false, true_and, and_true, false_and, and_false, not_true_eq_false, not_false_eq_true, false_or, or_false, Bool.false_eq_true]
    · rw [if_neg h2]
      have mu := q_millionths (X := X) (M := M) (n := o + w) (lead := dst o w) (by omega) (by unfold dst; omega)
      simp only [e112_0, e112_1, e112_2, e112_5, e112_8, e112_10, e112_11, e112_12, e112_13, e112_14, e112_15, e112_18, e112_19, e112_20, e112_21, e112_22, e112_23, e112_26, e112_28, e112_29, e112_31, e112_32, e112_34, e112_37, e112_39, e112_40, e112_41, e112_44, e112_45, e112_47, e112_48, e112_49, e112_51, e112_52, e112_55, e112_58, s0, s0_0, s0_1, s0_2, s0_3, s0_4, s0_5, s0_6, s0_7, r0_0, r0_1, r0_2, r0_3, r0_4, r0_5, r0_6, r0_7, s48, s48_0, r48_0, s49, i1, z10, z01, z1m, zm1, z0m, zm0, p1, p2, sa, c1, h2, ab, mu, am_bv_s, am_bw_s, eq_self, true_or, or_true, am_b0, am_b1, am_em, if_true, if_false, true_and, and_true, false_and, and_false, not_true_eq_false, not_false_eq_true, false_or, or_false, Bool.false_eq_true]
  · rw [am_bf h1] at i1
    rw [if_neg h1]
    simp only [e112_0, e112_1, e112_2, e112_5, e112_8, e112_10, e112_11, e112_12, e112_13, e112_14, e112_15, e112_18, e112_19, e112_20, e112_21, e112_22, e112_23, e112_26, e112_28, e112_29, e112_31, e112_32, e112_34, e112_37, e112_39, e112_40, e112_41, e112_44, e112_45, e112_47, e112_48, e112_49, e112_51, e112_52, e112_55, e112_58, s0, s0_0, s0_1, s0_2, s0_3, s0_4, s0_5, s0_6, s0_7, r0_0, r0_1, r0_2, r0_3, r0_4, r0_5, r0_6, r0_7, i1, am_bv_s, am_bw_s, eq_self, true_or, or_true, am_b0, am_b1, am_em, if_true, if_false, true_and, and_true, false_and, and_false, not_true_eq_false, not_false_eq_true, false_or, or_false, Bool.false_eq_true]
theorem m_betterOf (hx : JM s M) (ho : okm s) {a b : Nat} (ha : a < 4) (hb : b < 4) : ∃ M', am_e X 209 0 [some (.ref (59 : Nat)), some (.int (nI a)), some (.int (nI b)), none, none, none, none, none, none, none, none] [] kS M = some (some (.int (sBt (sPr s a b 1) (sPr s a b 2))), kS, M') ∧ JM s M' ∧ am_of pmS M M' := by
  obtain ⟨M1, p1, j1, of1⟩ := m_pairOf (X := X) hx ho ha hb (c := 1) (by decide)
  obtain ⟨M2, p2, j2, of2⟩ := m_pairOf (X := X) j1 ho ha hb (c := 2) (by decide)
  refine ⟨M2, ?_, j2, of1.tr of2⟩
  rw [show nI 1 = 1 from rfl] at p1
  rw [show nI 2 = 2 from rfl] at p2
  have l1 := sPr_le ho (a := a) (b := b) (c := 1)
  have l2 := sPr_le ho (a := a) (b := b) (c := 2)
  generalize sPr s a b 1 = o at *
  generalize sPr s a b 2 = w at *
  have sa : nI o + nI w = nI (o + w) := nI_add _ _
  have c1 : (24 < nI (o + w)) = (24 < o + w) := ok_lt (x := 24) (by decide) (by omega)
  unfold sBt
  by_cases h2 : 24 < o + w
  · rw [if_pos h2]
    simp only [e209_0, e209_1, e209_2, e209_3, e209_4, e209_7, e209_8, e209_9, e209_10, e209_11, e209_12, e209_15, e209_17, e209_18, e209_20, e209_21, e209_23, e209_25, e209_27, e209_30, e209_32, e209_33, e209_34, e209_36, e209_39, e209_41, e209_42, e209_43, e209_46, e209_47, e209_49, e209_50, e209_52, e209_53, e209_55, e209_56, e209_60, e209_62, e209_65, e209_66, e209_68, e209_69, e209_71, e209_74, e209_76, e209_77, e209_79, e209_80, e209_81, e209_84, e209_85, e209_87, e209_88, e209_90, e209_91, e209_93, e209_95, e209_97, e209_99, e209_102, e209_104, e209_106, e209_109, e209_112, e209_113, e209_114, e209_116, e209_119, e209_122, e209_125, e209_127, e209_128, e209_129, e209_131, e209_132, e209_133, e209_134, s59, s59_0, s59_1, s59_2, s59_3, s59_4, s59_5, s59_6, s59_7, s59_8, s59_9, s59_10, s59_11, s59_12, s59_13, s59_14, s59_15, s59_16, s59_17, s59_18, s59_19, s59_20, s59_21, s59_22, s59_23, s59_24, s59_25, s59_26, s59_27, s59_28, s59_29, s59_30, s59_31, r59_0, r59_1, r59_2, r59_3, r59_6, r59_8, r59_9, r59_13, r59_15, r59_16, r59_17, r59_19, r59_22, r59_23, r59_26, r59_30, r59_31, s60, s61, s62, s63, s64, s65, s66, s67, s68, s69, s70, s71, s72, s73, s74, s75, s76, p1, p2, sa, c1, h2, am_bv_s, am_bw_s, eq_self, true_or, or_true, am_b0, am_b1, am_em, if_true, if_false, true_and, and_true, false_and, and_false, not_true_eq_false, not_false_eq_true, false_or, or_false, Bool.false_eq_true]
  · rw [if_neg h2]
    have c2 : (nI o < nI w) = (o < w) := ok_lt (by omega) (by omega)
    have pre : ∀ z, am_e X 209 58 [none, none, none, none, none, some (.int (nI (o + w))), some (.int (nI (dst o w))), some (.long 0), none, some (.int 0), none] [] kS M2 = z → am_e X 209 0 [some (.ref (59 : Nat)), some (.int (nI a)), some (.int (nI b)), none, none, none, none, none, none, none, none] [] kS M = z := fun z hz => by
      rw [← hz]
      by_cases h3 : o < w
      · have e : nI w - nI o = nI (dst o w) := by
          rw [pk_sub (by omega)]
          unfold dst
          congr 1
          omega
        simp only [e209_0, e209_1, e209_2, e209_3, e209_4, e209_7, e209_8, e209_9, e209_10, e209_11, e209_12, e209_15, e209_17, e209_18, e209_20, e209_21, e209_23, e209_25, e209_27, e209_30, e209_32, e209_33, e209_34, e209_36, e209_39, e209_41, e209_42, e209_43, e209_46, e209_47, e209_49, e209_50, e209_52, e209_53, e209_55, e209_56, e209_60, e209_62, e209_65, e209_66, e209_68, e209_69, e209_71, e209_74, e209_76, e209_77, e209_79, e209_80, e209_81, e209_84, e209_85, e209_87, e209_88, e209_90, e209_91, e209_93, e209_95, e209_97, e209_99, e209_102, e209_104, e209_106, e209_109, e209_112, e209_113, e209_114, e209_116, e209_119, e209_122, e209_125, e209_127, e209_128, e209_129, e209_131, e209_132, e209_133, e209_134, s59, s59_0, s59_1, s59_2, s59_3, s59_4, s59_5, s59_6, s59_7, s59_8, s59_9, s59_10, s59_11, s59_12, s59_13, s59_14, s59_15, s59_16, s59_17, s59_18, s59_19, s59_20, s59_21, s59_22, s59_23, s59_24, s59_25, s59_26, s59_27, s59_28, s59_29, s59_30, s59_31, r59_0, r59_1, r59_2, r59_3, r59_6, r59_8, r59_9, r59_13, r59_15, r59_16, r59_17, r59_19, r59_22, r59_23, r59_26, r59_30, r59_31, s60, s61, s62, s63, s64, s65, s66, s67, s68, s69, s70, s71, s72, s73, s74, s75, s76, p1, p2, sa, c1, h2, c2, h3, e, am_bv_s, am_bw_s, eq_self, true_or, or_true, am_b0, am_b1, am_em, if_true, if_false, true_and, and_true, false_and, and_false, not_true_eq_false, not_false_eq_true, false_or, or_false, Bool.false_eq_true]
      · have e : nI o - nI w = nI (dst o w) := by
          rw [pk_sub (by omega)]
          unfold dst
          congr 1
          omega
        simp only [e209_0, e209_1, e209_2, e209_3, e209_4, e209_7, e209_8, e209_9, e209_10, e209_11, e209_12, e209_15, e209_17, e209_18, e209_20, e209_21, e209_23, e209_25, e209_27, e209_30, e209_32, e209_33, e209_34, e209_36, e209_39, e209_41, e209_42, e209_43, e209_46, e209_47, e209_49, e209_50, e209_52, e209_53, e209_55, e209_56, e209_60, e209_62, e209_65, e209_66, e209_68, e209_69, e209_71, e209_74, e209_76, e209_77, e209_79, e209_80, e209_81, e209_84, e209_85, e209_87, e209_88, e209_90, e209_91, e209_93, e209_95, e209_97, e209_99, e209_102, e209_104, e209_106, e209_109, e209_112, e209_113, e209_114, e209_116, e209_119, e209_122, e209_125, e209_127, e209_128, e209_129, e209_131, e209_132, e209_133, e209_134, s59, s59_0, s59_1, s59_2, s59_3, s59_4, s59_5, s59_6, s59_7, s59_8, s59_9, s59_10, s59_11, s59_12, s59_13, s59_14, s59_15, s59_16, s59_17, s59_18, s59_19, s59_20, s59_21, s59_22, s59_23, s59_24, s59_25, s59_26, s59_27, s59_28, s59_29, s59_30, s59_31, r59_0, r59_1, r59_2, r59_3, r59_6, r59_8, r59_9, r59_13, r59_15, r59_16, r59_17, r59_19, r59_22, r59_23, r59_26, r59_30, r59_31, s60, s61, s62, s63, s64, s65, s66, s67, s68, s69, s70, s71, s72, s73, s74, s75, s76, p1, p2, sa, c1, h2, c2, h3, e, am_bv_s, am_bw_s, eq_self, true_or, or_true, am_b0, am_b1, am_em, if_true, if_false, true_and, and_true, false_and, and_false, not_true_eq_false, not_false_eq_true, false_or, or_false, Bool.false_eq_true]
    apply pre
    have dl : dst o w ≤ 24 := by unfold dst; omega
    generalize hn : o + w = n at *
    generalize dst o w = lead at *
    have lz : ∀ a, lI a + 0 = lI a := fun a => Int64.add_zero _
    obtain ⟨M', e1, rfl⟩ := am_lp (X := X) (S := kS) (mi := 209) (pc := 58) (n + 1) (fun i => [none, none, none, none, none, some (.int (nI n)), some (.int (nI lead)), some (.long (lI (unv n lead i))), none, some (.int (nI i)), none])
      (fun i M' => M' = M2) (M := M2) rfl (by
        intro j M3 hj hI
        subst hI
        have c3 : (nI n < nI j) = False := eq_false (nI_nlt (by omega) (by omega))
        have d2 : (2 : Int32) * nI j = nI (2 * j) := pk_mul 2 j
        have c4 : (nI (2 * j) < nI n) = (2 * j < n) := ok_lt (by omega) (by omega)
        have c5 : (nI (dst (2 * j) n) < nI lead) = (dst (2 * j) n < lead) := ok_lt (by unfold dst; omega) (by omega)
        have ov := m_over24 (X := X) (S := kS) (M := M3) (c := n) (k := j) (by omega) (by omega)
        refine ⟨M3, ?_, rfl⟩
        have go : ∀ z, lI (unv n lead j) + (if dst (2 * j) n < lead then 0 else lI (ch n j)) = z → z = lI (unv n lead (j + 1)) := fun z hz => by
          rw [← hz]
          unfold unv
          by_cases h : dst (2 * j) n < lead
          · rw [sm, if_pos h, if_pos h, lz, Nat.add_zero]
          · rw [sm, if_neg h, if_neg h, lI_add]
        have g1 := go _ rfl
        by_cases h3 : 2 * j < n
        · have e : nI n - nI (2 * j) = nI (dst (2 * j) n) := by
            rw [pk_sub (by omega)]
            unfold dst
            congr 1
            omega
          by_cases h : dst (2 * j) n < lead
          · rw [if_pos h] at g1
            rw [← g1, e209_58]
            simp only [e209_0, e209_1, e209_2, e209_3, e209_4, e209_7, e209_8, e209_9, e209_10, e209_11, e209_12, e209_15, e209_17, e209_18, e209_20, e209_21, e209_23, e209_25, e209_27, e209_30, e209_32, e209_33, e209_34, e209_36, e209_39, e209_41, e209_42, e209_43, e209_46, e209_47, e209_49, e209_50, e209_52, e209_53, e209_55, e209_56, e209_60, e209_62, e209_65, e209_66, e209_68, e209_69, e209_71, e209_74, e209_76, e209_77, e209_79, e209_80, e209_81, e209_84, e209_85, e209_87, e209_88, e209_90, e209_91, e209_93, e209_95, e209_97, e209_99, e209_102, e209_104, e209_106, e209_109, e209_112, e209_113, e209_114, e209_116, e209_119, e209_122, e209_125, e209_127, e209_128, e209_129, e209_131, e209_132, e209_133, e209_134, c3, d2, c4, h3, e, c5, h, nI_1, am_bv_s, am_bw_s, eq_self, true_or, or_true, am_b0, am_b1, am_em, if_true, if_false, true_and, and_true, false_and, and_false, not_true_eq_false, not_false_eq_true, false_or, or_false, Bool.false_eq_true]
          · rw [if_neg h] at g1
            rw [← g1, e209_58]
            simp only [e209_0, e209_1, e209_2, e209_3, e209_4, e209_7, e209_8, e209_9, e209_10, e209_11, e209_12, e209_15, e209_17, e209_18, e209_20, e209_21, e209_23, e209_25, e209_27, e209_30, e209_32, e209_33, e209_34, e209_36, e209_39, e209_41, e209_42, e209_43, e209_46, e209_47, e209_49, e209_50, e209_52, e209_53, e209_55, e209_56, e209_60, e209_62, e209_65, e209_66, e209_68, e209_69, e209_71, e209_74, e209_76, e209_77, e209_79, e209_80, e209_81, e209_84, e209_85, e209_87, e209_88, e209_90, e209_91, e209_93, e209_95, e209_97, e209_99, e209_102, e209_104, e209_106, e209_109, e209_112, e209_113, e209_114, e209_116, e209_119, e209_122, e209_125, e209_127, e209_128, e209_129, e209_131, e209_132, e209_133, e209_134, c3, d2, c4, h3, e, c5, h, ov, nI_1, am_bv_s, am_bw_s, eq_self, true_or, or_true, am_b0, am_b1, am_em, if_true, if_false, true_and, and_true, false_and, and_false, not_true_eq_false, not_false_eq_true, false_or, or_false, Bool.false_eq_true]
        · have e : nI (2 * j) - nI n = nI (dst (2 * j) n) := by
            rw [pk_sub (by omega)]
            unfold dst
            congr 1
            omega
          by_cases h : dst (2 * j) n < lead
          · rw [if_pos h] at g1
            rw [← g1, e209_58]
            simp only [e209_0, e209_1, e209_2, e209_3, e209_4, e209_7, e209_8, e209_9, e209_10, e209_11, e209_12, e209_15, e209_17, e209_18, e209_20, e209_21, e209_23, e209_25, e209_27, e209_30, e209_32, e209_33, e209_34, e209_36, e209_39, e209_41, e209_42, e209_43, e209_46, e209_47, e209_49, e209_50, e209_52, e209_53, e209_55, e209_56, e209_60, e209_62, e209_65, e209_66, e209_68, e209_69, e209_71, e209_74, e209_76, e209_77, e209_79, e209_80, e209_81, e209_84, e209_85, e209_87, e209_88, e209_90, e209_91, e209_93, e209_95, e209_97, e209_99, e209_102, e209_104, e209_106, e209_109, e209_112, e209_113, e209_114, e209_116, e209_119, e209_122, e209_125, e209_127, e209_128, e209_129, e209_131, e209_132, e209_133, e209_134, c3, d2, c4, h3, e, c5, h, nI_1, am_bv_s, am_bw_s, eq_self, true_or, or_true, am_b0, am_b1, am_em, if_true, if_false, true_and, and_true, false_and, and_false, not_true_eq_false, not_false_eq_true, false_or, or_false, Bool.false_eq_true]
          · rw [if_neg h] at g1
            rw [← g1, e209_58]
            simp only [e209_0, e209_1, e209_2, e209_3, e209_4, e209_7, e209_8, e209_9, e209_10, e209_11, e209_12, e209_15, e209_17, e209_18, e209_20, e209_21, e209_23, e209_25, e209_27, e209_30, e209_32, e209_33, e209_34, e209_36, e209_39, e209_41, e209_42, e209_43, e209_46, e209_47, e209_49, e209_50, e209_52, e209_53, e209_55, e209_56, e209_60, e209_62, e209_65, e209_66, e209_68, e209_69, e209_71, e209_74, e209_76, e209_77, e209_79, e209_80, e209_81, e209_84, e209_85, e209_87, e209_88, e209_90, e209_91, e209_93, e209_95, e209_97, e209_99, e209_102, e209_104, e209_106, e209_109, e209_112, e209_113, e209_114, e209_116, e209_119, e209_122, e209_125, e209_127, e209_128, e209_129, e209_131, e209_132, e209_133, e209_134, c3, d2, c4, h3, e, c5, h, ov, nI_1, am_bv_s, am_bw_s, eq_self, true_or, or_true, am_b0, am_b1, am_em, if_true, if_false, true_and, and_true, false_and, and_false, not_true_eq_false, not_false_eq_true, false_or, or_false, Bool.false_eq_true])
    have cn : (nI n < nI (n + 1)) = True := eq_true (nI_lt (by omega) (by omega))
    have lm : (1000000 : Int64) = lI 1000000 := rfl
    have sh := shl_2 n (by omega)
    have p24 : 2 ^ n ≤ 2 ^ 24 := Nat.pow_le_pow_right (by decide) (by omega)
    have p0 : 0 < 2 ^ n := Nat.pow_pos (by decide)
    have c9 : (lI (2 ^ n) = 0) = False := by rw [lI_0e (by omega)]; exact eq_false (by omega)
    have fin : am_e X 209 58 [none, none, none, none, none, some (.int (nI n)), some (.int (nI lead)), some (.long (lI (unv n lead (n + 1)))), none, some (.int (nI (n + 1))), none] [] kS M' = some (some (.int (lI (1000000 * unv n lead (n + 1)) / lI (2 ^ n)).toInt32), kS, M') := by
      rw [e209_58]
      simp only [e209_0, e209_1, e209_2, e209_3, e209_4, e209_7, e209_8, e209_9, e209_10, e209_11, e209_12, e209_15, e209_17, e209_18, e209_20, e209_21, e209_23, e209_25, e209_27, e209_30, e209_32, e209_33, e209_34, e209_36, e209_39, e209_41, e209_42, e209_43, e209_46, e209_47, e209_49, e209_50, e209_52, e209_53, e209_55, e209_56, e209_60, e209_62, e209_65, e209_66, e209_68, e209_69, e209_71, e209_74, e209_76, e209_77, e209_79, e209_80, e209_81, e209_84, e209_85, e209_87, e209_88, e209_90, e209_91, e209_93, e209_95, e209_97, e209_99, e209_102, e209_104, e209_106, e209_109, e209_112, e209_113, e209_114, e209_116, e209_119, e209_122, e209_125, e209_127, e209_128, e209_129, e209_131, e209_132, e209_133, e209_134, cn, lm, lI_mul, sh, c9, am_bv_s, am_bw_s, eq_self, true_or, or_true, am_b0, am_b1, am_em, if_true, if_false, true_and, and_true, false_and, and_false, not_true_eq_false, not_false_eq_true, false_or, or_false, Bool.false_eq_true]
    rw [fin, nI_0] at e1
    exact e1
theorem m_better (hx : JM s M) (ho : okm s) (a b : Int32) : ∃ M', am_e X 210 0 [some (.ref (59 : Nat)), some (.int a), some (.int b)] [] kS M = some (some (.int (sp_better s a b)), kS, M') ∧ JM s M' ∧ am_of pM M M' := by
  have i1 := m_areTwo2 (X := X) (S := kS) (M := M) (a := a) (b := b)
  unfold sp_better
  by_cases h1 : two a b
  · rw [am_bt h1] at i1
    rw [if_pos h1]
    obtain ⟨an, bn, ha, hb, rfl, rfl⟩ := two_n h1
    rw [nI_clamp (n := an) (by omega), nI_clamp (n := bn) (by omega)]
    obtain ⟨M', r1, r2, r3⟩ := m_betterOf (X := X) hx ho ha hb
    refine ⟨M', ?_, r2, r3.mo fun a k q => by unfold pmS pmW at q; unfold pM; omega⟩
    simp only [e210_0, e210_1, e210_2, e210_5, e210_8, e210_9, e210_10, e210_11, e210_14, e210_17, e210_19, s59, s59_0, s59_1, s59_2, s59_3, s59_4, s59_5, s59_6, s59_7, s59_8, s59_9, s59_10, s59_11, s59_12, s59_13, s59_14, s59_15, s59_16, s59_17, s59_18, s59_19, s59_20, s59_21, s59_22, s59_23, s59_24, s59_25, s59_26, s59_27, s59_28, s59_29, s59_30, s59_31, r59_0, r59_1, r59_2, r59_3, r59_6, r59_8, r59_9, r59_13, r59_15, r59_16, r59_17, r59_19, r59_22, r59_23, r59_26, r59_30, r59_31, s60, s61, s62, s63, s64, s65, s66, s67, s68, s69, s70, s71, s72, s73, s74, s75, s76, i1, z10, z01, z1m, zm1, z0m, zm0, r1, am_bv_s, am_bw_s, eq_self, true_or, or_true, am_b0, am_b1, am_em, if_true, if_false, true_and, and_true, false_and, and_false, not_true_eq_false, not_false_eq_true, false_or, or_false, Bool.false_eq_true]
  · rw [am_bf h1] at i1
    rw [if_neg h1]
    refine ⟨M, ?_, hx, am_of.rf⟩
    simp only [e210_0, e210_1, e210_2, e210_5, e210_8, e210_9, e210_10, e210_11, e210_14, e210_17, e210_19, s59, s59_0, s59_1, s59_2, s59_3, s59_4, s59_5, s59_6, s59_7, s59_8, s59_9, s59_10, s59_11, s59_12, s59_13, s59_14, s59_15, s59_16, s59_17, s59_18, s59_19, s59_20, s59_21, s59_22, s59_23, s59_24, s59_25, s59_26, s59_27, s59_28, s59_29, s59_30, s59_31, r59_0, r59_1, r59_2, r59_3, r59_6, r59_8, r59_9, r59_13, r59_15, r59_16, r59_17, r59_19, r59_22, r59_23, r59_26, r59_30, r59_31, s60, s61, s62, s63, s64, s65, s66, s67, s68, s69, s70, s71, s72, s73, s74, s75, s76, i1, z10, z01, z1m, zm1, z0m, zm0, am_bv_s, am_bw_s, eq_self, true_or, or_true, am_b0, am_b1, am_em, if_true, if_false, true_and, and_true, false_and, and_false, not_true_eq_false, not_false_eq_true, false_or, or_false, Bool.false_eq_true]
end
