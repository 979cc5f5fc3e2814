/-! the abstract state, module by module, and how the memory shows it -/
/-- the memories differ at most at such places -/
def am_of (P : Nat → Nat → Prop) (M M' : am_Me) : Prop := ∀ a k, ¬ P a k → M'.1 a k = M.1 a k ∧ M'.2 a k = M.2 a k
theorem am_of.rf {P : Nat → Nat → Prop} {M : am_Me} : am_of P M M := fun _ _ _ => ⟨rfl, rfl⟩
theorem am_of.tr {P : Nat → Nat → Prop} {M M1 M2 : am_Me} (h1 : am_of P M M1) (h2 : am_of P M1 M2) : am_of P M M2 := fun a k h => ⟨(h2 a k h).1.trans (h1 a k h).1, (h2 a k h).2.trans (h1 a k h).2⟩
theorem am_of.mo {P P' : Nat → Nat → Prop} {M M1 : am_Me} (h1 : am_of P M M1) (h : ∀ a k, P a k → P' a k) : am_of P' M M1 := fun a k hn => h1 a k (fun q => hn (h a k q))
theorem am_of.sI {P : Nat → Nat → Prop} {M M1 : am_Me} (h1 : am_of P M M1) {a k : Nat} {v : Int32} (h : P a k) : am_of P M (am_setI M1 a k v) := by
  intro a' k' hn
  refine ⟨?_, (h1 a' k' hn).2⟩
  rw [← (h1 a' k' hn).1]
  by_cases e : a' = a
  · subst e
    rw [am_setI_eq]
    unfold upd
    rw [if_neg (fun q => hn (by rw [q]; exact h))]
  · rw [am_setI_ne e]
theorem am_of.sL {P : Nat → Nat → Prop} {M M1 : am_Me} (h1 : am_of P M M1) {a k : Nat} {v : Int64} (h : P a k) : am_of P M (am_setL M1 a k v) := by
  intro a' k' hn
  refine ⟨(h1 a' k' hn).1, ?_⟩
  rw [← (h1 a' k' hn).2]
  by_cases e : a' = a
  · subst e
    rw [am_setL_eq]
    unfold vp_updL
    rw [if_neg (fun q => hn (by rw [q]; exact h))]
  · rw [am_setL_ne e]
theorem am_of.sA {P : Nat → Nat → Prop} {M M1 : am_Me} (h1 : am_of P M M1) {a : Nat} {f : Nat → Int32} (h : ∀ k, P a k ∨ f k = M1.1 a k) : am_of P M (am_setA M1 a f) := by
  intro a' k' hn
  refine ⟨?_, (h1 a' k' hn).2⟩
  rw [← (h1 a' k' hn).1]
  unfold am_setA
  by_cases e : a' = a
  · subst e
    dsimp only
    rw [if_pos rfl]
    rcases h k' with q | q
    · exact absurd q hn
    · exact q
  · dsimp only
    rw [if_neg e]
/-- reads behind writes -/
theorem gI {M : am_Me} {a k b j : Nat} {v : Int32} : (am_setI M a k v).1 b j = if b = a ∧ j = k then v else M.1 b j := by
  by_cases e : b = a
  · subst e
    rw [am_setI_eq]
    unfold upd
    by_cases e2 : j = k
    · rw [if_pos e2, if_pos ⟨rfl, e2⟩]
    · rw [if_neg e2, if_neg (fun q => e2 q.2)]
  · rw [am_setI_ne e, if_neg (fun q => e q.1)]
theorem gIL {M : am_Me} {a k b j : Nat} {v : Int32} : (am_setI M a k v).2 b j = M.2 b j := rfl
theorem gLI {M : am_Me} {a k b j : Nat} {v : Int64} : (am_setL M a k v).1 b j = M.1 b j := rfl
theorem gL {M : am_Me} {a k b j : Nat} {v : Int64} : (am_setL M a k v).2 b j = if b = a ∧ j = k then v else M.2 b j := by
  by_cases e : b = a
  · subst e
    rw [am_setL_eq]
    unfold vp_updL
    by_cases e2 : j = k
    · rw [if_pos e2, if_pos ⟨rfl, e2⟩]
    · rw [if_neg e2, if_neg (fun q => e2 q.2)]
  · rw [am_setL_ne e, if_neg (fun q => e q.1)]
theorem gA {M : am_Me} {a b j : Nat} {f : Nat → Int32} : (am_setA M a f).1 b j = if b = a then f j else M.1 b j := by
  unfold am_setA
  dsimp only
  by_cases e : b = a
  · rw [if_pos e, if_pos e]
  · rw [if_neg e, if_neg e]
theorem gAL {M : am_Me} {a b j : Nat} {f : Nat → Int32} : (am_setA M a f).2 b j = M.2 b j := rfl
/-- sheets: lost, form, size, items, the latest finding -/
abbrev sgH : Type := (Nat → Bool) × (Nat → Nat) × (Nat → Nat) × (Nat → Nat → Int32) × Nat
def okH (h : sgH) : Prop := h.2.2.2.2 ≤ 5 ∧ ∀ t, t < 4 → h.2.1 t ≤ 2 ∧ h.2.2.1 t ≤ 60
def xH (h : sgH) (M : am_Me) : Prop := M.1 50 3 = nI h.2.2.2.2 ∧ ∀ t, t < 4 → M.1 57 t = (if h.1 t = true then -1 else nI (h.2.2.1 t)) ∧ (h.1 t = false → M.1 56 t = nI (h.2.1 t) ∧ ∀ i, i < h.2.2.1 t → M.1 (52 + t) i = h.2.2.2.1 t i)
def mH (h : sgH) (M : am_Me) : Prop := M.1 59 4 = nI h.2.2.2.2 ∧ ∀ t, t < 4 → M.1 60 t = (if h.1 t = true then -1 else nI (h.2.1 t)) ∧ (h.1 t = false → M.1 61 t = nI (h.2.2.1 t) ∧ ∀ i, i < h.2.2.1 t → M.1 62 (60 * t + i) = h.2.2.2.1 t i)
def pxH (a _ : Nat) : Prop := a = 50 ∨ (52 ≤ a ∧ a ≤ 57)
def pmH (a k : Nat) : Prop := (a = 59 ∧ k = 4) ∨ (60 ≤ a ∧ a ≤ 63)
theorem xH.of {h : sgH} {M M' : am_Me} {P : Nat → Nat → Prop} (hx : xH h M) (ho : am_of P M M') (hP : ∀ a k, P a k → ¬ pxH a k) : xH h M' := by
  have key : ∀ a k, pxH a k → M'.1 a k = M.1 a k := fun a k q => (ho a k (fun z => hP a k z q)).1
  refine ⟨(key _ _ (Or.inl rfl)).trans hx.1, fun t ht => ?_⟩
  obtain ⟨h1, h2⟩ := hx.2 t ht
  refine ⟨(key _ _ (Or.inr (by omega))).trans h1, fun hl => ⟨(key _ _ (Or.inr (by omega))).trans (h2 hl).1, fun i hi => (key _ _ (Or.inr (by omega))).trans ((h2 hl).2 i hi)⟩⟩
theorem mH.of {h : sgH} {M M' : am_Me} {P : Nat → Nat → Prop} (hx : mH h M) (ho : am_of P M M') (hP : ∀ a k, P a k → ¬ pmH a k) : mH h M' := by
  have key : ∀ a k, pmH a k → M'.1 a k = M.1 a k := fun a k q => (ho a k (fun z => hP a k z q)).1
  refine ⟨(key _ _ (Or.inl ⟨rfl, rfl⟩)).trans hx.1, fun t ht => ?_⟩
  obtain ⟨h1, h2⟩ := hx.2 t ht
  refine ⟨(key _ _ (Or.inr (by omega))).trans h1, fun hl => ⟨(key _ _ (Or.inr (by omega))).trans (h2 hl).1, fun i hi => (key _ _ (Or.inr (by omega))).trans ((h2 hl).2 i hi)⟩⟩
def hFd (h : sgH) (k : Nat) : sgH := (h.1, h.2.1, h.2.2.1, h.2.2.2.1, k)
def hNew (h : sgH) (t f n : Nat) : sgH := (fun u => if u = t then false else h.1 u, fun u => if u = t then f else h.2.1 u, fun u => if u = t then n else h.2.2.1 u, fun u i => if u = t then 0 else h.2.2.2.1 u i, h.2.2.2.2)
def hLos (h : sgH) (t : Nat) : sgH := (fun u => if u = t then true else h.1 u, h.2.1, h.2.2.1, h.2.2.2.1, h.2.2.2.2)
def hPut (h : sgH) (t i : Nat) (v : Int32) : sgH := (h.1, h.2.1, h.2.2.1, fun u j => if u = t ∧ j = i then v else h.2.2.2.1 u j, h.2.2.2.2)
def hCpy (h : sgH) (s t i j n : Nat) : sgH := (h.1, h.2.1, h.2.2.1, fun u q => if u = t ∧ j ≤ q ∧ q < j + n then h.2.2.2.1 s (i + (q - j)) else h.2.2.2.1 u q, h.2.2.2.2)
/-- a number of a range, as a natural number -/
theorem in_nat {x : Int32} {n : Nat} (h0 : 0 ≤ x) (h1 : x ≤ nI n) (hn : n < 2 ^ 31) : ∃ k : Nat, k ≤ n ∧ x = nI k := nI_of2 (nI_toInt hn) (Int32.not_lt.mpr h0) h1
def sp_sheet (h : sgH) (s f n : Int32) : Int32 × sgH := if (0 ≤ s ∧ s ≤ 3) ∧ (0 ≤ f ∧ f ≤ 2) ∧ ¬ 60 < n then (if n < 0 then (-15, hFd h 5) else (n, hNew h s.toNatClampNeg f.toNatClampNeg n.toNatClampNeg)) else (-2, h)
def sp_lose (h : sgH) (s : Int32) : Int32 × sgH := if 0 ≤ s ∧ s ≤ 3 then (if h.1 s.toNatClampNeg = true then (-11, hFd h 1) else (nI (h.2.2.1 s.toNatClampNeg), hLos h s.toNatClampNeg)) else (-2, h)
/-- 0: there is such an item; else the finding -/
def sp_it (h : sgH) (t : Nat) (f i : Int32) : Nat := if h.1 t = true then 1 else if nI (h.2.1 t) = f then (if i < 0 then 2 else if i < nI (h.2.2.1 t) then 0 else 2) else 3
def sp_lay (h : sgH) (s f i v : Int32) : Int32 × sgH := if (0 ≤ s ∧ s ≤ 3) ∧ (0 ≤ f ∧ f ≤ 2) then (if sp_it h s.toNatClampNeg f i = 0 then (1, hPut h s.toNatClampNeg i.toNatClampNeg (sp_cut f v)) else (-10 - nI (sp_it h s.toNatClampNeg f i), hFd h (sp_it h s.toNatClampNeg f i))) else (-2, h)
def sp_get (h : sgH) (s f i : Int32) : Int32 × sgH := if (0 ≤ s ∧ s ≤ 3) ∧ (0 ≤ f ∧ f ≤ 2) then (if sp_it h s.toNatClampNeg f i = 0 then (h.2.2.2.1 s.toNatClampNeg i.toNatClampNeg, h) else (-2147483648, hFd h (sp_it h s.toNatClampNeg f i))) else (-2147483648, h)
def sp_cf (h : sgH) (t u : Nat) (i j n : Int32) : Nat := if h.1 t = true ∨ h.1 u = true then 1 else if h.2.1 t = h.2.1 u then (if (0 ≤ i ∧ 0 ≤ j ∧ 0 ≤ n) ∧ i.toInt + n.toInt ≤ h.2.2.1 t ∧ j.toInt + n.toInt ≤ h.2.2.1 u then 0 else 2) else 4
def sp_copy (h : sgH) (s i t j n : Int32) : Int32 × sgH := if (0 ≤ s ∧ s ≤ 3) ∧ (0 ≤ t ∧ t ≤ 3) then (if sp_cf h s.toNatClampNeg t.toNatClampNeg i j n = 0 then (1, hCpy h s.toNatClampNeg t.toNatClampNeg i.toNatClampNeg j.toNatClampNeg n.toNatClampNeg) else (-10 - nI (sp_cf h s.toNatClampNeg t.toNatClampNeg i j n), hFd h (sp_cf h s.toNatClampNeg t.toNatClampNeg i j n))) else (-2, h)
