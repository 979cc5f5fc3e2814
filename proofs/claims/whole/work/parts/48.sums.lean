/-! sums of shares: their common denominators, and bounds -/
theorem cube3 : ∀ x : Nat, x * x * x ≤ 3 ^ x
  | 0 => by decide
  | 1 => by decide
  | 2 => by decide
  | 3 => by decide
  | x + 4 => by
    have ih := cube3 (x + 3)
    have e : 3 ^ (x + 4) = 3 * 3 ^ (x + 3) := by rw [show x + 4 = (x + 3) + 1 from rfl, Nat.pow_succ, Nat.mul_comm]
    rw [e]
    refine Nat.le_trans ?_ (Nat.mul_le_mul_left 3 ih)
    have h : x * x * x ≥ 0 := Nat.zero_le _
    have b1 : (x + 4) * (x + 4) = x * x + 8 * x + 16 := by rw [Nat.add_mul, Nat.mul_add, Nat.mul_add]; omega
    have b2 : (x + 3) * (x + 3) = x * x + 6 * x + 9 := by rw [Nat.add_mul, Nat.mul_add, Nat.mul_add]; omega
    have a1 : (x + 4) * (x + 4) * (x + 4) = x * x * x + 12 * (x * x) + 48 * x + 64 := by
      rw [b1, Nat.mul_add, Nat.add_mul, Nat.add_mul, Nat.mul_assoc 8 x x]; omega
    have a2 : 3 * ((x + 3) * (x + 3) * (x + 3)) = 3 * (x * x * x) + 27 * (x * x) + 81 * x + 81 := by
      rw [b2, Nat.mul_add (x * x + 6 * x + 9) x 3, Nat.add_mul (x * x + 6 * x) 9 x, Nat.add_mul (x * x) (6 * x) x, Nat.mul_assoc 6 x x]; omega
    rw [a1, a2]
    have := Nat.zero_le (x * x)
    omega
theorem cubem (x : Nat) : max 1 x * max 1 x * max 1 x ≤ 3 ^ x := by
  by_cases h : x = 0
  · subst h; decide
  · rw [Nat.max_eq_right (by omega)]; exact cube3 x
/-- numerator and denominator of a sum, one summand a band -/
def qS (t c h : Nat → Nat) : Nat → Nat × Nat
  | 0 => (0, 1)
  | k + 1 => ((qS t c h k).1 * h k + t k * c k * (qS t c h k).2, (qS t c h k).2 * h k)
theorem qS_pos {t c h : Nat → Nat} : ∀ n, (∀ k, k < n → 0 < h k) → 0 < (qS t c h n).2
  | 0, _ => Nat.one_pos
  | n + 1, hh => Nat.mul_pos (qS_pos n (fun k hk => hh k (by omega))) (hh n (by omega))
theorem qS_le {t c h : Nat → Nat} {D : Nat} : ∀ n, (∀ k, k < n → c k ≤ h k * D ∧ t k ≤ 99) → (qS t c h n).1 ≤ 99 * n * (D * (qS t c h n).2)
  | 0, _ => Nat.zero_le _
  | n + 1, hh => by
    have ih := qS_le (D := D) n (fun k hk => hh k (by omega))
    obtain ⟨h1, h2⟩ := hh n (by omega)
    rw [qS]
    dsimp only
    generalize (qS t c h n).1 = N at *
    generalize (qS t c h n).2 = H at *
    have a1 : N * h n ≤ 99 * n * (D * H) * h n := Nat.mul_le_mul_right _ ih
    have a2 : t n * c n * H ≤ 99 * (h n * D) * H := Nat.mul_le_mul_right _ (Nat.mul_le_mul h2 h1)
    have e : 99 * (n + 1) * (D * (H * h n)) = 99 * n * (D * H) * h n + 99 * (h n * D) * H := by
      rw [Nat.mul_add, Nat.mul_one, Nat.add_mul]
      congr 1 <;> ac_rfl
    rw [e]
    exact Nat.add_le_add a1 a2
theorem qS_cu {t c h e : Nat → Nat} : ∀ n, (∀ k, k < n → h k * h k * h k ≤ 3 ^ e k) → (qS t c h n).2 * (qS t c h n).2 * (qS t c h n).2 ≤ 3 ^ sm e n
  | 0, _ => Nat.le_refl _
  | n + 1, hh => by
    have ih := qS_cu (t := t) (c := c) (e := e) n (fun k hk => hh k (by omega))
    have h1 := hh n (by omega)
    rw [qS, sm, Nat.pow_add]
    dsimp only
    generalize (qS t c h n).2 = H at *
    calc H * h n * (H * h n) * (H * h n) = (H * H * H) * (h n * h n * h n) := by ac_rfl
      _ ≤ 3 ^ sm e n * 3 ^ e n := Nat.mul_le_mul ih h1
theorem sm_mo {f : Nat → Nat} : ∀ {m n : Nat}, m ≤ n → sm f m ≤ sm f n := by
  intro m n h
  induction n with
  | zero =>
    obtain rfl : m = 0 := by omega
    exact Nat.le_refl _
  | succ n ih =>
    by_cases e : m = n + 1
    · subst e; exact Nat.le_refl _
    · rw [sm]
      have := ih (by omega)
      omega
def gG (nb : Nat) (l : sgL) (A : sgA) (t : Nat) : Nat := max 1 (sAs nb l A t 6)
/-- what GUESS leaves -/
def gD (nb : Nat) (l : sgL) (A : sgA) (t : Nat) : Nat := gG nb l A t - sYe nb l A t 6
def tH (nb : Nat) (l : sgL) (A : sgA) (t b : Nat) : Nat := max 1 (sAs nb l A t b)
def tC (nb : Nat) (l : sgL) (A : sgA) (t b : Nat) : Nat := sYe nb l A t b * gG nb l A t - sYe nb l A t 6 * sAs nb l A t b
theorem gG_ge {nb : Nat} {l : sgL} {A : sgA} {t : Nat} : sYe nb l A t 6 ≤ gG nb l A t := Nat.le_trans sYe_le (Nat.le_max_right _ _)
theorem tC_le {nb : Nat} {l : sgL} {A : sgA} {t b : Nat} : tC nb l A t b ≤ tH nb l A t b * gD nb l A t := by
  unfold tC gD
  have h1 : sYe nb l A t b * gG nb l A t ≤ sAs nb l A t b * gG nb l A t := Nat.mul_le_mul_right _ sYe_le
  have h2 : sAs nb l A t b * gG nb l A t - sYe nb l A t 6 * sAs nb l A t b = sAs nb l A t b * (gG nb l A t - sYe nb l A t 6) := by
    rw [Nat.mul_sub, Nat.mul_comm (sYe nb l A t 6)]
  have h3 : sAs nb l A t b * (gG nb l A t - sYe nb l A t 6) ≤ tH nb l A t b * (gG nb l A t - sYe nb l A t 6) := Nat.mul_le_mul_right _ (Nat.le_max_right _ _)
  omega
theorem tH_pos {nb : Nat} {l : sgL} {A : sgA} {t b : Nat} : 0 < tH nb l A t b := by unfold tH; omega
/-- all answered words of one are of the list -/
theorem sAs_sm {nb : Nat} (hb : nb ≤ 6) {l : sgL} {A : sgA} {t : Nat} : sm (fun k => sAs nb l A t k) 6 + sAs nb l A t 6 ≤ 40 := by
  have h40 := ps_le (l := l) hb
  have e : sm (fun k => sAs nb l A t k) 7 = cnt (fun w => sd A A.2.2.2.2.2 t w ≠ -1) (ps nb l).2.1 := cnt_ks _ h40.2
  have h := cnt_le (fun w => sd A A.2.2.2.2.2 t w ≠ -1) (ps nb l).2.1
  rw [← e] at h
  have e2 : sm (fun k => sAs nb l A t k) 7 = sm (fun k => sAs nb l A t k) 6 + sAs nb l A t 6 := rfl
  omega
/-- the common denominator is small -/
theorem den_lt {nb : Nat} (hb : nb ≤ 6) {l : sgL} {A : sgA} {t : Nat} {c tt h : Nat → Nat} {n : Nat} (hn : n ≤ 6) (hh : ∀ k, k < n → h k ≤ tH nb l A t k) : gD nb l A t * (qS tt c h n).2 < 2300000 := by
  have s40 := sAs_sm hb (l := l) (A := A) (t := t)
  have h1 : (qS tt c h n).2 * (qS tt c h n).2 * (qS tt c h n).2 ≤ 3 ^ sm (fun k => sAs nb l A t k) n := qS_cu n (fun k hk => Nat.le_trans (Nat.mul_le_mul (Nat.mul_le_mul (hh k hk) (hh k hk)) (hh k hk)) (cubem _))
  have h2 : gD nb l A t * gD nb l A t * gD nb l A t ≤ 3 ^ sAs nb l A t 6 := by
    have q : gD nb l A t ≤ gG nb l A t := Nat.sub_le _ _
    exact Nat.le_trans (Nat.mul_le_mul (Nat.mul_le_mul q q) q) (cubem _)
  have h3 : 3 ^ (sm (fun k => sAs nb l A t k) n + sAs nb l A t 6) ≤ 3 ^ 40 := Nat.pow_le_pow_right (by decide) (by have := sm_mo (f := fun k => sAs nb l A t k) hn; omega)
  rw [Nat.pow_add] at h3
  generalize gD nb l A t = D at *
  generalize (qS tt c h n).2 = H at *
  have h4 : (D * H) * (D * H) * (D * H) ≤ 3 ^ 40 := by
    have e : (D * H) * (D * H) * (D * H) = (H * H * H) * (D * D * D) := by ac_rfl
    rw [e]
    exact Nat.le_trans (Nat.mul_le_mul h1 h2) h3
  apply Nat.lt_of_not_le
  intro q
  have h5 := Nat.mul_le_mul (Nat.mul_le_mul q q) q
  have h6 := Nat.le_trans h5 h4
  revert h6
  decide
/-- adding one more band -/
theorem qS_fr {t c h : Nat → Nat} {D n : Nat} (hD : 0 < D) (hh : ∀ k, k ≤ n → 0 < h k) : fr ((fr (qS t c h n).1 (D * (qS t c h n).2)).1 * (fr (c n) (h n * D)).2 + (fr (c n) (h n * D)).1 * t n * (fr (qS t c h n).1 (D * (qS t c h n).2)).2) ((fr (qS t c h n).1 (D * (qS t c h n).2)).2 * (fr (c n) (h n * D)).2) = fr (qS t c h (n + 1)).1 (D * (qS t c h (n + 1)).2) := by
  have p1 : 0 < (qS t c h n).2 := qS_pos n (fun k hk => hh k (by omega))
  have p2 := hh n (Nat.le_refl _)
  have f1 := fr_pos (a := (qS t c h n).1) (Nat.mul_pos hD p1)
  have f2 := fr_pos (a := c n) (Nat.mul_pos p2 hD)
  have x1 := @fr_x (qS t c h n).1 (D * (qS t c h n).2)
  have x2 := @fr_x (c n) (h n * D)
  rw [qS]
  dsimp only
  generalize (qS t c h n).1 = N at *
  generalize (qS t c h n).2 = H at *
  generalize fr N (D * H) = p at *
  generalize fr (c n) (h n * D) = q at *
  refine fr_eq (Nat.mul_pos f1 f2) (Nat.mul_pos hD (Nat.mul_pos p1 p2)) ?_
  calc (p.1 * q.2 + q.1 * t n * p.2) * (D * (H * h n)) = (p.1 * (D * H)) * (q.2 * h n) + (q.1 * (h n * D)) * (t n * p.2 * H) := by
        rw [Nat.add_mul]
        congr 1 <;> ac_rfl
    _ = (N * p.2) * (q.2 * h n) + (c n * q.2) * (t n * p.2 * H) := by rw [x1, x2]
    _ = (N * h n + t n * c n * H) * (p.2 * q.2) := by
        rw [Nat.add_mul]
        congr 1 <;> ac_rfl
