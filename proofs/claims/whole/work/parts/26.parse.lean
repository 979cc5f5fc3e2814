/-! THE LIST read -/
abbrev sgL : Type := Nat × (Nat → Nat)
def okL (l : sgL) : Prop := l.1 ≤ 80 ∧ ∀ i, i < l.1 → l.2 i ≤ 255
def xL (l : sgL) (M : am_Me) : Prop := M.1 21 2 = nI l.1 ∧ ∀ i, i < l.1 → M.1 22 i = nI (l.2 i)
def mL (l : sgL) (M : am_Me) : Prop := M.1 59 10 = nI l.1 ∧ ∀ i, i < l.1 → M.1 66 i = nI (l.2 i)
def ps_kd (nb c : Nat) : Option Nat := if c = 102 then some 6 else if 48 ≤ c ∧ c < 48 + nb then some (c - 48) else none
/-- one part from a on, w words ahead: the fault's place, or where it ends, its kind, how many -/
def ps_part (nb : Nat) (l : sgL) (a w : Nat) : Nat ⊕ (Nat × Nat × Nat) :=
  if a < l.1 then (match ps_kd nb (l.2 a) with
    | none => .inl a
    | some k => if a + 1 < l.1 ∧ l.2 (a + 1) = 42 then (if a + 2 < l.1 ∧ 50 ≤ l.2 (a + 2) ∧ l.2 (a + 2) ≤ 57 then (if 40 < w + (l.2 (a + 2) - 48) then .inl a else .inr (a + 3, k, l.2 (a + 2) - 48)) else .inl (a + 2))
      else if 40 < w + 1 then .inl a else .inr (a + 1, k, 1))
  else .inl a
def ps_ext (kd : Nat → Nat) (w t k : Nat) : Nat → Nat := fun q => if w ≤ q ∧ q < w + t then k else kd q
def ps_go (nb : Nat) (l : sgL) : Nat → Nat → Nat → (Nat → Nat) → Option Nat × Nat × (Nat → Nat)
  | 0, _, _, kd => (some l.1, 0, kd)
  | f + 1, a, w, kd => match ps_part nb l a w with
    | .inl p => (some p, 0, kd)
    | .inr (b, k, t) => if b < l.1 then (if l.2 b = 59 then ps_go nb l f (b + 1) (w + t) (ps_ext kd w t k) else (some b, 0, kd)) else (none, w + t, ps_ext kd w t k)
def ps (nb : Nat) (l : sgL) : Option Nat × Nat × (Nat → Nat) := if l.1 = 0 then (none, 0, fun _ => 0) else ps_go nb l 81 0 0 (fun _ => 0)
def ps_v : Option Nat → Int32
  | none => -1
  | some p => nI p
theorem ps_kd_le {nb c k : Nat} (hb : nb ≤ 6) (h : ps_kd nb c = some k) : k ≤ 6 := by
  unfold ps_kd at h
  split at h
  · cases h; omega
  · split at h
    · cases h; omega
    · cases h
theorem ps_part_r {nb : Nat} {l : sgL} {a w b k t : Nat} (hb : nb ≤ 6) (h : ps_part nb l a w = .inr (b, k, t)) : a < b ∧ b ≤ l.1 ∧ k ≤ 6 ∧ w + t ≤ 40 ∧ 1 ≤ t := by
  unfold ps_part at h
  split at h
  · split at h
    · cases h
    · rename_i k' hk
      have h6 := ps_kd_le hb hk
      split at h
      · split at h
        · split at h
          · cases h
          · cases h; omega
        · cases h
      · split at h
        · cases h
        · cases h; omega
  · cases h
/-- how many words, and of which kinds -/
theorem ps_go_le {nb : Nat} {l : sgL} (hb : nb ≤ 6) : ∀ (f a w : Nat) (kd : Nat → Nat), w ≤ 40 → (∀ q, q < w → kd q ≤ 6) → (ps_go nb l f a w kd).2.1 ≤ 40 ∧ ∀ q, q < (ps_go nb l f a w kd).2.1 → (ps_go nb l f a w kd).2.2 q ≤ 6
  | 0, _, _, kd, _, _ => ⟨Nat.zero_le _, fun q hq => absurd hq (Nat.not_lt_zero _)⟩
  | f + 1, a, w, kd, hw, hk => by
    rw [ps_go]
    cases hp : ps_part nb l a w with
    | inl p => exact ⟨Nat.zero_le _, fun q hq => absurd hq (Nat.not_lt_zero _)⟩
    | inr x =>
      obtain ⟨b, k, t⟩ := x
      obtain ⟨h1, h2, h3, h4, h5⟩ := ps_part_r hb hp
      have hx : ∀ q, q < w + t → ps_ext kd w t k q ≤ 6 := by
        intro q hq
        unfold ps_ext
        by_cases e : w ≤ q ∧ q < w + t
        · rw [if_pos e]; exact h3
        · rw [if_neg e]; exact hk q (by omega)
      dsimp only
      split
      · split
        · exact ps_go_le hb f _ _ _ h4 hx
        · exact ⟨Nat.zero_le _, fun q hq => absurd hq (Nat.not_lt_zero _)⟩
      · exact ⟨h4, hx⟩
theorem ps_le {nb : Nat} {l : sgL} (hb : nb ≤ 6) : (ps nb l).2.1 ≤ 40 ∧ ∀ q, q < (ps nb l).2.1 → (ps nb l).2.2 q ≤ 6 := by
  unfold ps
  split
  · exact ⟨Nat.zero_le _, fun q hq => absurd hq (Nat.not_lt_zero _)⟩
  · exact ps_go_le hb _ _ _ _ (Nat.zero_le _) (fun q hq => absurd hq (Nat.not_lt_zero _))
theorem ps_part_l {nb : Nat} {l : sgL} {a w p : Nat} (h : ps_part nb l a w = .inl p) (ha : a ≤ l.1) : p ≤ l.1 := by
  unfold ps_part at h
  repeat' split at h
  all_goals first | (cases h; omega) | (cases h; done)
/-- with a fault there are no words -/
theorem ps_go_f {nb : Nat} {l : sgL} : ∀ (f a w : Nat) (kd : Nat → Nat) (p : Nat), (ps_go nb l f a w kd).1 = some p → (ps_go nb l f a w kd).2.1 = 0
  | 0, _, _, kd, p, _ => rfl
  | f + 1, a, w, kd, p, h => by
    rw [ps_go] at h ⊢
    cases hp : ps_part nb l a w with
    | inl p => rfl
    | inr x =>
      obtain ⟨b, k, t⟩ := x
      rw [hp] at h
      dsimp only at h ⊢
      split
      · rename_i h1
        rw [if_pos h1] at h
        split
        · rename_i h2
          rw [if_pos h2] at h
          exact ps_go_f f _ _ _ p h
        · rfl
      · rename_i h1
        rw [if_neg h1] at h
        cases h
theorem ps_f {nb : Nat} {l : sgL} {p : Nat} (h : (ps nb l).1 = some p) : (ps nb l).2.1 = 0 := by
  unfold ps at h ⊢
  split
  · rfl
  · rename_i h0
    rw [if_neg h0] at h
    exact ps_go_f _ _ _ _ p h
theorem ps_go_p {nb : Nat} {l : sgL} (hb : nb ≤ 6) : ∀ (f a w : Nat) (kd : Nat → Nat) (p : Nat), a ≤ l.1 → (ps_go nb l f a w kd).1 = some p → p ≤ l.1
  | 0, _, _, kd, p, _, h => by
    cases h
    exact Nat.le_refl _
  | f + 1, a, w, kd, p, ha, h => by
    rw [ps_go] at h
    cases hp : ps_part nb l a w with
    | inl p' =>
      rw [hp] at h
      cases h
      exact ps_part_l hp ha
    | inr x =>
      obtain ⟨b, k, t⟩ := x
      obtain ⟨h1, h2, h3, h4, h5⟩ := ps_part_r hb hp
      rw [hp] at h
      dsimp only at h
      split at h
      · rename_i hb2
        split at h
        · exact ps_go_p hb f _ _ _ p hb2 h
        · cases h; exact h2
      · cases h
theorem ps_p {nb : Nat} {l : sgL} {p : Nat} (hb : nb ≤ 6) (h : (ps nb l).1 = some p) : p ≤ l.1 := by
  unfold ps at h
  split at h
  · cases h
  · exact ps_go_p hb _ _ _ _ p (Nat.zero_le _) h
