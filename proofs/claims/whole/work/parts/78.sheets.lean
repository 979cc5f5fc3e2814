/-! both: acts on sheets, lifted to the state; the invariant -/
section
variable {X : am_X} {S : am_Sh} {M M' : am_Me} {P : Nat → Nat → Prop} {s : sgm} {h : sgH}
theorem okH_fd (ho : okH h) {k : Nat} (hk : k ≤ 5) : okH (hFd h k) := ⟨hk, ho.2⟩
theorem cl_le {x : Int32} {n : Nat} (hn : n < 2 ^ 31) (h : ¬ nI n < x) : x.toNatClampNeg ≤ n := by
  by_cases h0 : x < 0
  · have : x.toInt < 0 := by
      rw [Int32.lt_iff_toInt_lt] at h0
      exact h0
    have e : x.toNatClampNeg = 0 := by
      unfold Int32.toNatClampNeg
      omega
    omega
  · obtain ⟨k, hk, rfl⟩ := in_nat (x := x) (n := n) (Int32.not_lt.mp h0) (Int32.not_lt.mp h) hn
    rw [nI_clamp (n := k) (by omega)]
    exact hk
theorem sp_sheet_ok (ho : okH h) (s f n : Int32) : okH (sp_sheet h s f n).2 := by
  unfold sp_sheet
  split
  · rename_i c
    split
    · exact okH_fd ho (by decide)
    · refine ⟨ho.1, fun t ht => ?_⟩
      obtain ⟨h1, h2⟩ := ho.2 t ht
      have f2 := cl_le (x := f) (n := 2) (by decide) (Int32.not_lt.mpr c.2.1.2)
      have n60 := cl_le (x := n) (n := 60) (by decide) c.2.2
      unfold hNew
      dsimp only
      constructor <;> (split <;> omega)
  · exact ho
theorem sp_lose_ok (ho : okH h) (s : Int32) : okH (sp_lose h s).2 := by
  unfold sp_lose
  split
  · split
    · exact okH_fd ho (by decide)
    · exact ho
  · exact ho
theorem sp_lay_ok (ho : okH h) (s f i v : Int32) : okH (sp_lay h s f i v).2 := by
  unfold sp_lay
  split
  · split
    · exact ho
    · exact okH_fd ho (Nat.le_trans sp_it_le (by decide))
  · exact ho
theorem sp_get_ok (ho : okH h) (s f i : Int32) : okH (sp_get h s f i).2 := by
  unfold sp_get
  split
  · split
    · exact ho
    · exact okH_fd ho (Nat.le_trans sp_it_le (by decide))
  · exact ho
theorem sp_copy_ok (ho : okH h) (s i t j n : Int32) : okH (sp_copy h s i t j n).2 := by
  unfold sp_copy
  split
  · split
    · exact ho
    · exact okH_fd ho (Nat.le_trans sp_cf_le (by decide))
  · exact ho
theorem X_sheet (hx : JX s M) (a b c : Int32) : ∃ M', am_e X 114 0 [some (.ref (0 : Nat)), some (.int a), some (.int b), some (.int c)] [] kS M = some (some (.int (sp_sheet s.1 a b c).1), kS, M') ∧ JX ((sp_sheet s.1 a b c).2, s.2) M' ∧ am_of pX M M' := by
  obtain ⟨M', r1, r2, r3⟩ := x_sheet (X := X) hx.1.1 a b c
  exact ⟨M', r1, hx.setH r2 r3, r3.mo fun a k q => pxH_X q⟩
theorem X_lose (hx : JX s M) (ho : okm s) (a : Int32) : ∃ M', am_e X 115 0 [some (.ref (0 : Nat)), some (.int a), none] [] kS M = some (some (.int (sp_lose s.1 a).1), kS, M') ∧ JX ((sp_lose s.1 a).2, s.2) M' ∧ am_of pX M M' := by
  obtain ⟨M', r1, r2, r3⟩ := x_lose (X := X) hx.1.1 ho.1 a
  exact ⟨M', r1, hx.setH r2 r3, r3.mo fun a k q => pxH_X q⟩
theorem X_lay (hx : JX s M) (ho : okm s) (a b c d : Int32) : ∃ M', am_e X 116 0 [some (.ref (0 : Nat)), some (.int a), some (.int b), some (.int c), some (.int d), none] [] kS M = some (some (.int (sp_lay s.1 a b c d).1), kS, M') ∧ JX ((sp_lay s.1 a b c d).2, s.2) M' ∧ am_of pX M M' := by
  obtain ⟨M', r1, r2, r3⟩ := x_lay (X := X) hx.1.1 ho.1 a b c d
  exact ⟨M', r1, hx.setH r2 r3, r3.mo fun a k q => pxH_X q⟩
theorem X_get (hx : JX s M) (ho : okm s) (a b c : Int32) : ∃ M', am_e X 117 0 [some (.ref (0 : Nat)), some (.int a), some (.int b), some (.int c), none] [] kS M = some (some (.int (sp_get s.1 a b c).1), kS, M') ∧ JX ((sp_get s.1 a b c).2, s.2) M' ∧ am_of pX M M' := by
  obtain ⟨M', r1, r2, r3⟩ := x_get (X := X) hx.1.1 ho.1 a b c
  exact ⟨M', r1, hx.setH r2 r3, r3.mo fun a k q => pxH_X q⟩
theorem X_copy (hx : JX s M) (ho : okm s) (a b c d e : Int32) : ∃ M', am_e X 118 0 [some (.ref (0 : Nat)), some (.int a), some (.int b), some (.int c), some (.int d), some (.int e), none] [] kS M = some (some (.int (sp_copy s.1 a b c d e).1), kS, M') ∧ JX ((sp_copy s.1 a b c d e).2, s.2) M' ∧ am_of pX M M' := by
  obtain ⟨M', r1, r2, r3⟩ := x_copy (X := X) hx.1.1 ho.1 a b c d e
  exact ⟨M', r1, hx.setH r2 r3, r3.mo fun a k q => pxH_X q⟩
theorem M_sheet (hx : JM s M) (ho : okm s) (a b c : Int32) : ∃ M', am_e X 144 0 [some (.ref (59 : Nat)), some (.int a), some (.int b), some (.int c), none] [] kS M = some (some (.int (sp_sheet s.1 a b c).1), kS, M') ∧ JM ((sp_sheet s.1 a b c).2, s.2) M' ∧ am_of pM M M' := by
  obtain ⟨M', r1, r2, r3⟩ := m_sheet (X := X) hx.1 ho.1 a b c
  exact ⟨M', r1, hx.setH r2 r3, r3.mo fun a k q => pmH_M q⟩
theorem M_lose (hx : JM s M) (ho : okm s) (a : Int32) : ∃ M', am_e X 145 0 [some (.ref (59 : Nat)), some (.int a)] [] kS M = some (some (.int (sp_lose s.1 a).1), kS, M') ∧ JM ((sp_lose s.1 a).2, s.2) M' ∧ am_of pM M M' := by
  obtain ⟨M', r1, r2, r3⟩ := m_lose (X := X) hx.1 ho.1 a
  exact ⟨M', r1, hx.setH r2 r3, r3.mo fun a k q => pmH_M q⟩
theorem M_lay (hx : JM s M) (ho : okm s) (a b c d : Int32) : ∃ M', am_e X 148 0 [some (.ref (59 : Nat)), some (.int a), some (.int b), some (.int c), some (.int d), none] [] kS M = some (some (.int (sp_lay s.1 a b c d).1), kS, M') ∧ JM ((sp_lay s.1 a b c d).2, s.2) M' ∧ am_of pM M M' := by
  obtain ⟨M', r1, r2, r3⟩ := m_lay (X := X) hx.1 ho.1 a b c d
  exact ⟨M', r1, hx.setH r2 r3, r3.mo fun a k q => pmH_M q⟩
theorem M_get (hx : JM s M) (ho : okm s) (a b c : Int32) : ∃ M', am_e X 149 0 [some (.ref (59 : Nat)), some (.int a), some (.int b), some (.int c)] [] kS M = some (some (.int (sp_get s.1 a b c).1), kS, M') ∧ JM ((sp_get s.1 a b c).2, s.2) M' ∧ am_of pM M M' := by
  obtain ⟨M', r1, r2, r3⟩ := m_get (X := X) hx.1 ho.1 a b c
  exact ⟨M', r1, hx.setH r2 r3, r3.mo fun a k q => pmH_M q⟩
theorem M_copy (hx : JM s M) (ho : okm s) (a b c d e : Int32) : ∃ M', am_e X 150 0 [some (.ref (59 : Nat)), some (.int a), some (.int b), some (.int c), some (.int d), some (.int e), none] [] kS M = some (some (.int (sp_copy s.1 a b c d e).1), kS, M') ∧ JM ((sp_copy s.1 a b c d e).2, s.2) M' ∧ am_of pM M M' := by
  obtain ⟨M', r1, r2, r3⟩ := m_copy (X := X) hx.1 ho.1 a b c d e
  exact ⟨M', r1, hx.setH r2 r3, r3.mo fun a k q => pmH_M q⟩
/-- both show the state -/
def BB (s : sgm) (M : am_Me) : Prop := JX s M ∧ JM s M ∧ okm s
theorem pX_R {a k : Nat} (q : pX a k) : pR a k := by unfold pX at q; unfold pR; omega
theorem pM_S {a k : Nat} (q : pM a k) : pS a k := by unfold pM at q; unfold pS; omega
/-- one act of each -/
theorem bb_st {s' : sgm} {M1 M2 : am_Me} (j1 : JX s' M1) (j2 : JM s' M2) (o2 : am_of pM M1 M2) (ok : okm s') : BB s' M2 := ⟨j1.of o2 (fun a k q => pM_S q), j2, ok⟩
theorem gsc {i : Nat} {n : Nat} (h : i < n) : (n ≤ i) = False := eq_false (by omega)
end
