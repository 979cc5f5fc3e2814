/-! kinds: a band that is there, or false -/
theorem ps_kd_in {nb c k : Nat} (h : ps_kd nb c = some k) : k < nb ∨ k = 6 := by
  unfold ps_kd at h
  split at h
  · cases h; exact Or.inr rfl
  · split at h
    · cases h; omega
    · cases h
theorem ps_part_in {nb : Nat} {l : sgL} {a w b k t : Nat} (h : ps_part nb l a w = .inr (b, k, t)) : k < nb ∨ k = 6 := by
  unfold ps_part at h
  split at h
  · split at h
    · cases h
    · rename_i k' hk
      have h6 := ps_kd_in hk
      split at h
      · split at h
        · split at h
          · cases h
          · cases h; exact h6
        · cases h
      · split at h
        · cases h
        · cases h; exact h6
  · cases h
theorem ps_go_in {nb : Nat} {l : sgL} : ∀ (f a w : Nat) (kd : Nat → Nat), (∀ q, q < w → kd q < nb ∨ kd q = 6) → ∀ q, q < (ps_go nb l f a w kd).2.1 → (ps_go nb l f a w kd).2.2 q < nb ∨ (ps_go nb l f a w kd).2.2 q = 6
  | 0, _, _, kd, _ => fun q hq => absurd hq (Nat.not_lt_zero _)
  | f + 1, a, w, kd, hk => by
    rw [ps_go]
    cases hp : ps_part nb l a w with
    | inl p => exact fun q hq => absurd hq (Nat.not_lt_zero _)
    | inr x =>
      obtain ⟨b, k, t⟩ := x
      have h3 := ps_part_in hp
      have hx : ∀ q, q < w + t → ps_ext kd w t k q < nb ∨ ps_ext kd w t k q = 6 := by
        intro q hq
        unfold ps_ext
        by_cases e : w ≤ q ∧ q < w + t
        · rw [if_pos e]; exact h3
        · rw [if_neg e]; exact hk q (by omega)
      dsimp only
      split
      · split
        · exact ps_go_in f _ _ _ hx
        · exact fun q hq => absurd hq (Nat.not_lt_zero _)
      · exact hx
theorem ps_in {nb : Nat} {l : sgL} : ∀ q, q < (ps nb l).2.1 → (ps nb l).2.2 q < nb ∨ (ps nb l).2.2 q = 6 := by
  unfold ps
  split
  · exact fun q hq => absurd hq (Nat.not_lt_zero _)
  · exact ps_go_in _ _ _ _ (fun q hq => absurd hq (Nat.not_lt_zero _))
theorem cnt_no {p : Nat → Prop} [∀ i, Decidable (p i)] : ∀ n, (∀ i, i < n → ¬ p i) → cnt p n = 0
  | 0, _ => rfl
  | n + 1, h => by rw [cnt_s0 (h n (by omega)), cnt_no n (fun i hi => h i (by omega))]
/-- no words of a band that is not there -/
theorem sAs_out {nb : Nat} {l : sgL} {A : sgA} {t b : Nat} (h1 : nb ≤ b) (h2 : b < 6) : sAs nb l A t b = 0 := cnt_no _ fun i hi q => by
  have := ps_in (nb := nb) (l := l) i hi
  omega
theorem sYe_out {nb : Nat} {l : sgL} {A : sgA} {t b : Nat} (h1 : nb ≤ b) (h2 : b < 6) : sYe nb l A t b = 0 := by
  have := sYe_le (nb := nb) (l := l) (A := A) (t := t) (k := b)
  rw [sAs_out h1 h2] at this
  omega
theorem tC_out {nb : Nat} {l : sgL} {A : sgA} {t b : Nat} (h : sAs nb l A t b = 0) : tC nb l A t b = 0 := by
  have := sYe_le (nb := nb) (l := l) (A := A) (t := t) (k := b)
  unfold tC
  rw [show sYe nb l A t b = 0 by omega, Nat.zero_mul, Nat.zero_sub]
