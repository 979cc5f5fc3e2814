/-! the shapes while both are made -/
def h0 : am_Sh := (0, 0, fun _ => 0, fun _ => 0, fun _ _ => none)
def h1 : am_Sh := am_add h0 8 8 (fun _ => none)
def h2 : am_Sh := am_add h1 2 5 (fun _ => none)
def h3 : am_Sh := am_add h2 100 6 (fun _ => none)
def h4 : am_Sh := am_setR h3 1 0 2
def h5 : am_Sh := am_add h4 100 6 (fun _ => none)
def h6 : am_Sh := am_setR h5 1 1 3
def h7 : am_Sh := am_add h6 101 6 (fun _ => none)
def h8 : am_Sh := am_setR h7 1 2 4
def h9 : am_Sh := am_add h8 101 6 (fun _ => none)
def h10 : am_Sh := am_setR h9 1 3 5
def h11 : am_Sh := am_setR h10 0 0 1
def h12 : am_Sh := am_add h11 5 9 (fun _ => none)
def h13 : am_Sh := am_adds (am_add h12 103 6 (fun q => if q < 6 then some (7 + 1 + q) else none)) 6 6
def h14 : am_Sh := am_setR h13 6 0 7
def h15 : am_Sh := am_add h14 102 6 (fun _ => none)
def h16 : am_Sh := am_setR h15 6 1 14
def h17 : am_Sh := am_add h16 102 6 (fun _ => none)
def h18 : am_Sh := am_setR h17 6 2 15
def h19 : am_Sh := am_add h18 100 6 (fun _ => none)
def h20 : am_Sh := am_setR h19 6 3 16
def h21 : am_Sh := am_add h20 100 6 (fun _ => none)
def h22 : am_Sh := am_setR h21 6 4 17
def h23 : am_Sh := am_add h22 3 2 (fun _ => none)
def h24 : am_Sh := am_setR h23 6 5 18
def h25 : am_Sh := am_add h24 3 2 (fun _ => none)
def h26 : am_Sh := am_setR h25 6 6 19
def h27 : am_Sh := am_add h26 3 2 (fun _ => none)
def h28 : am_Sh := am_setR h27 6 7 20
def h29 : am_Sh := am_setR h28 0 1 6
def h30 : am_Sh := am_add h29 7 5 (fun _ => none)
def h31 : am_Sh := am_add h30 100 80 (fun _ => none)
def h32 : am_Sh := am_setR h31 21 0 22
def h33 : am_Sh := am_add h32 100 40 (fun _ => none)
def h34 : am_Sh := am_setR h33 21 1 23
def h35 : am_Sh := am_setR h34 0 2 21
def h36 : am_Sh := am_add h35 0 9 (fun _ => none)
def h37 : am_Sh := am_add h36 100 120 (fun _ => none)
def h38 : am_Sh := am_setR h37 24 0 25
def h39 : am_Sh := am_add h38 100 120 (fun _ => none)
def h40 : am_Sh := am_setR h39 24 1 26
def h41 : am_Sh := am_add h40 100 120 (fun _ => none)
def h42 : am_Sh := am_setR h41 24 2 27
def h43 : am_Sh := am_add h42 100 120 (fun _ => none)
def h44 : am_Sh := am_setR h43 24 3 28
def h45 : am_Sh := am_adds (am_add h44 103 4 (fun q => if q < 4 then some (29 + 1 + q) else none)) 40 4
def h46 : am_Sh := am_setR h45 24 4 29
def h47 : am_Sh := am_add h46 100 40 (fun _ => none)
def h48 : am_Sh := am_setR h47 24 5 34
def h49 : am_Sh := am_add h48 100 40 (fun _ => none)
def h50 : am_Sh := am_setR h49 24 6 35
def h51 : am_Sh := am_setR h50 0 3 24
def h52 : am_Sh := am_add h51 6 3 (fun _ => none)
def h53 : am_Sh := am_adds (am_add h52 103 4 (fun q => if q < 4 then some (37 + 1 + q) else none)) 7 4
def h54 : am_Sh := am_setR h53 36 0 37
def h55 : am_Sh := am_adds (am_add h54 103 4 (fun q => if q < 4 then some (42 + 1 + q) else none)) 7 4
def h56 : am_Sh := am_setR h55 36 1 42
def h57 : am_Sh := am_add h56 3 2 (fun _ => none)
def h58 : am_Sh := am_setR h57 36 2 47
def h59 : am_Sh := am_setR h58 0 4 36
def h60 : am_Sh := am_add h59 1 1 (fun _ => none)
def h61 : am_Sh := am_add h60 101 900 (fun _ => none)
def h62 : am_Sh := am_setR h61 48 0 49
def h63 : am_Sh := am_setR h62 0 5 48
def h64 : am_Sh := am_add h63 4 4 (fun _ => none)
def h65 : am_Sh := am_adds (am_add h64 103 4 (fun q => if q < 4 then some (51 + 1 + q) else none)) 60 4
def h66 : am_Sh := am_setR h65 50 0 51
def h67 : am_Sh := am_add h66 100 4 (fun _ => none)
def h68 : am_Sh := am_setR h67 50 1 56
def h69 : am_Sh := am_add h68 100 4 (fun _ => none)
def h70 : am_Sh := am_setR h69 50 2 57
def h71 : am_Sh := am_setR h70 0 6 50
def h72 : am_Sh := am_add h71 3 2 (fun _ => none)
def h73 : am_Sh := am_setR h72 0 7 58
def h74 : am_Sh := am_add h73 9 32 (fun _ => none)
def h75 : am_Sh := am_add h74 100 4 (fun _ => none)
def h76 : am_Sh := am_setR h75 59 0 60
def h77 : am_Sh := am_add h76 100 4 (fun _ => none)
def h78 : am_Sh := am_setR h77 59 1 61
def h79 : am_Sh := am_add h78 100 240 (fun _ => none)
def h80 : am_Sh := am_setR h79 59 2 62
def h81 : am_Sh := am_add h80 100 60 (fun _ => none)
def h82 : am_Sh := am_setR h81 59 3 63
def h83 : am_Sh := am_add h82 100 6 (fun _ => none)
def h84 : am_Sh := am_setR h83 59 6 64
def h85 : am_Sh := am_add h84 100 36 (fun _ => none)
def h86 : am_Sh := am_setR h85 59 8 65
def h87 : am_Sh := am_add h86 100 80 (fun _ => none)
def h88 : am_Sh := am_setR h87 59 9 66
def h89 : am_Sh := am_add h88 100 50 (fun _ => none)
def h90 : am_Sh := am_setR h89 59 13 67
def h91 : am_Sh := am_add h90 100 120 (fun _ => none)
def h92 : am_Sh := am_setR h91 59 15 68
def h93 : am_Sh := am_add h92 100 120 (fun _ => none)
def h94 : am_Sh := am_setR h93 59 16 69
def h95 : am_Sh := am_add h94 100 120 (fun _ => none)
def h96 : am_Sh := am_setR h95 59 17 70
def h97 : am_Sh := am_add h96 100 160 (fun _ => none)
def h98 : am_Sh := am_setR h97 59 19 71
def h99 : am_Sh := am_add h98 101 6 (fun _ => none)
def h100 : am_Sh := am_setR h99 59 22 72
def h101 : am_Sh := am_add h100 101 6 (fun _ => none)
def h102 : am_Sh := am_setR h101 59 23 73
def h103 : am_Sh := am_add h102 100 6 (fun _ => none)
def h104 : am_Sh := am_setR h103 59 26 74
def h105 : am_Sh := am_add h104 100 6 (fun _ => none)
def h106 : am_Sh := am_setR h105 59 30 75
def h107 : am_Sh := am_add h106 100 160 (fun _ => none)
def h108 : am_Sh := am_setR h107 59 31 76
theorem gd_d {α : Type} (l : List α) (d : α) {n : Nat} (h : l.length ≤ n) : l.getD n d = d := by
  rw [List.getD_eq_getElem?_getD, List.getElem?_eq_none h]
  rfl
theorem hz_add {S : am_Sh} (h : ∀ b, 77 ≤ b → S.2.2.1 b = 0 ∧ S.2.2.2.1 b = 0 ∧ ∀ k, S.2.2.2.2 b k = none) (hn : S.1 < 77) (c len : Nat) {rf : Nat → Option Nat} : ∀ b, 77 ≤ b → (am_add S c len rf).2.2.1 b = 0 ∧ (am_add S c len rf).2.2.2.1 b = 0 ∧ ∀ k, (am_add S c len rf).2.2.2.2 b k = none := by
  intro b hb
  have e : ¬ b = S.1 := by omega
  unfold am_add
  dsimp only
  rw [if_neg e, if_neg e, if_neg e]
  exact h b hb
theorem hz_adds {S : am_Sh} {len : Nat} : ∀ {n : Nat}, (∀ b, 77 ≤ b → S.2.2.1 b = 0 ∧ S.2.2.2.1 b = 0 ∧ ∀ k, S.2.2.2.2 b k = none) → (S.1 + n ≤ 77) → ∀ b, 77 ≤ b → (am_adds S len n).2.2.1 b = 0 ∧ (am_adds S len n).2.2.2.1 b = 0 ∧ ∀ k, (am_adds S len n).2.2.2.2 b k = none
  | 0, h, _ => h
  | n + 1, h, hn => by
    have e : ∀ q, (am_adds S len q).1 = S.1 + q := by
      intro q
      induction q with
      | zero => rfl
      | succ q ih => show (am_adds S len q).1 + 1 = S.1 + (q + 1); omega
    exact hz_add (hz_adds h (by omega)) (by rw [e]; omega) _ _
theorem hz_set {S : am_Sh} {a k r : Nat} (h : ∀ b, 77 ≤ b → S.2.2.1 b = 0 ∧ S.2.2.2.1 b = 0 ∧ ∀ k, S.2.2.2.2 b k = none) (ha : a < 77) : ∀ b, 77 ≤ b → (am_setR S a k r).2.2.1 b = 0 ∧ (am_setR S a k r).2.2.2.1 b = 0 ∧ ∀ j, (am_setR S a k r).2.2.2.2 b j = none := by
  intro b hb
  refine ⟨(h b hb).1, (h b hb).2.1, fun j => ?_⟩
  show (if b = a ∧ j = k then some r else S.2.2.2.2 b j) = none
  rw [if_neg (fun q => by omega)]
  exact (h b hb).2.2 j
theorem hk_add {S : am_Sh} {c len : Nat} {rf : Nat → Option Nat} (h : ∀ b k, 32 ≤ k → S.2.2.2.2 b k = none) (hr : ∀ k, 32 ≤ k → rf k = none) : ∀ b k, 32 ≤ k → (am_add S c len rf).2.2.2.2 b k = none := by
  intro b k hk
  show (if b = S.1 then rf else S.2.2.2.2 b) k = none
  by_cases e : b = S.1
  · rw [if_pos e]; exact hr k hk
  · rw [if_neg e]; exact h b k hk
theorem hk_adds {S : am_Sh} {len : Nat} (h : ∀ b k, 32 ≤ k → S.2.2.2.2 b k = none) : ∀ {n : Nat}, ∀ b k, 32 ≤ k → (am_adds S len n).2.2.2.2 b k = none
  | 0 => h
  | n + 1 => hk_add (hk_adds h) (fun _ _ => rfl)
theorem hk_set {S : am_Sh} {a k r : Nat} (h : ∀ b k, 32 ≤ k → S.2.2.2.2 b k = none) (ha : k < 32) : ∀ b j, 32 ≤ j → (am_setR S a k r).2.2.2.2 b j = none := by
  intro b j hj
  show (if b = a ∧ j = k then some r else S.2.2.2.2 b j) = none
  rw [if_neg (fun q => by omega)]
  exact h b j hj
theorem hz0 : ∀ b, 77 ≤ b → h0.2.2.1 b = 0 ∧ h0.2.2.2.1 b = 0 ∧ ∀ k, h0.2.2.2.2 b k = none := fun _ _ => ⟨rfl, rfl, fun _ => rfl⟩
theorem hz1 : ∀ b, 77 ≤ b → h1.2.2.1 b = 0 ∧ h1.2.2.2.1 b = 0 ∧ ∀ k, h1.2.2.2.2 b k = none := hz_add hz0 (by decide) _ _
theorem hz2 : ∀ b, 77 ≤ b → h2.2.2.1 b = 0 ∧ h2.2.2.2.1 b = 0 ∧ ∀ k, h2.2.2.2.2 b k = none := hz_add hz1 (by decide) _ _
theorem hz3 : ∀ b, 77 ≤ b → h3.2.2.1 b = 0 ∧ h3.2.2.2.1 b = 0 ∧ ∀ k, h3.2.2.2.2 b k = none := hz_add hz2 (by decide) _ _
theorem hz4 : ∀ b, 77 ≤ b → h4.2.2.1 b = 0 ∧ h4.2.2.2.1 b = 0 ∧ ∀ k, h4.2.2.2.2 b k = none := hz_set hz3 (by decide)
theorem hz5 : ∀ b, 77 ≤ b → h5.2.2.1 b = 0 ∧ h5.2.2.2.1 b = 0 ∧ ∀ k, h5.2.2.2.2 b k = none := hz_add hz4 (by decide) _ _
theorem hz6 : ∀ b, 77 ≤ b → h6.2.2.1 b = 0 ∧ h6.2.2.2.1 b = 0 ∧ ∀ k, h6.2.2.2.2 b k = none := hz_set hz5 (by decide)
theorem hz7 : ∀ b, 77 ≤ b → h7.2.2.1 b = 0 ∧ h7.2.2.2.1 b = 0 ∧ ∀ k, h7.2.2.2.2 b k = none := hz_add hz6 (by decide) _ _
theorem hz8 : ∀ b, 77 ≤ b → h8.2.2.1 b = 0 ∧ h8.2.2.2.1 b = 0 ∧ ∀ k, h8.2.2.2.2 b k = none := hz_set hz7 (by decide)
theorem hz9 : ∀ b, 77 ≤ b → h9.2.2.1 b = 0 ∧ h9.2.2.2.1 b = 0 ∧ ∀ k, h9.2.2.2.2 b k = none := hz_add hz8 (by decide) _ _
theorem hz10 : ∀ b, 77 ≤ b → h10.2.2.1 b = 0 ∧ h10.2.2.2.1 b = 0 ∧ ∀ k, h10.2.2.2.2 b k = none := hz_set hz9 (by decide)
theorem hz11 : ∀ b, 77 ≤ b → h11.2.2.1 b = 0 ∧ h11.2.2.2.1 b = 0 ∧ ∀ k, h11.2.2.2.2 b k = none := hz_set hz10 (by decide)
theorem hz12 : ∀ b, 77 ≤ b → h12.2.2.1 b = 0 ∧ h12.2.2.2.1 b = 0 ∧ ∀ k, h12.2.2.2.2 b k = none := hz_add hz11 (by decide) _ _
theorem hz13 : ∀ b, 77 ≤ b → h13.2.2.1 b = 0 ∧ h13.2.2.2.1 b = 0 ∧ ∀ k, h13.2.2.2.2 b k = none := hz_adds (hz_add hz12 (by decide) _ _) (by decide)
theorem hz14 : ∀ b, 77 ≤ b → h14.2.2.1 b = 0 ∧ h14.2.2.2.1 b = 0 ∧ ∀ k, h14.2.2.2.2 b k = none := hz_set hz13 (by decide)
theorem hz15 : ∀ b, 77 ≤ b → h15.2.2.1 b = 0 ∧ h15.2.2.2.1 b = 0 ∧ ∀ k, h15.2.2.2.2 b k = none := hz_add hz14 (by decide) _ _
theorem hz16 : ∀ b, 77 ≤ b → h16.2.2.1 b = 0 ∧ h16.2.2.2.1 b = 0 ∧ ∀ k, h16.2.2.2.2 b k = none := hz_set hz15 (by decide)
theorem hz17 : ∀ b, 77 ≤ b → h17.2.2.1 b = 0 ∧ h17.2.2.2.1 b = 0 ∧ ∀ k, h17.2.2.2.2 b k = none := hz_add hz16 (by decide) _ _
theorem hz18 : ∀ b, 77 ≤ b → h18.2.2.1 b = 0 ∧ h18.2.2.2.1 b = 0 ∧ ∀ k, h18.2.2.2.2 b k = none := hz_set hz17 (by decide)
theorem hz19 : ∀ b, 77 ≤ b → h19.2.2.1 b = 0 ∧ h19.2.2.2.1 b = 0 ∧ ∀ k, h19.2.2.2.2 b k = none := hz_add hz18 (by decide) _ _
theorem hz20 : ∀ b, 77 ≤ b → h20.2.2.1 b = 0 ∧ h20.2.2.2.1 b = 0 ∧ ∀ k, h20.2.2.2.2 b k = none := hz_set hz19 (by decide)
theorem hz21 : ∀ b, 77 ≤ b → h21.2.2.1 b = 0 ∧ h21.2.2.2.1 b = 0 ∧ ∀ k, h21.2.2.2.2 b k = none := hz_add hz20 (by decide) _ _
theorem hz22 : ∀ b, 77 ≤ b → h22.2.2.1 b = 0 ∧ h22.2.2.2.1 b = 0 ∧ ∀ k, h22.2.2.2.2 b k = none := hz_set hz21 (by decide)
theorem hz23 : ∀ b, 77 ≤ b → h23.2.2.1 b = 0 ∧ h23.2.2.2.1 b = 0 ∧ ∀ k, h23.2.2.2.2 b k = none := hz_add hz22 (by decide) _ _
theorem hz24 : ∀ b, 77 ≤ b → h24.2.2.1 b = 0 ∧ h24.2.2.2.1 b = 0 ∧ ∀ k, h24.2.2.2.2 b k = none := hz_set hz23 (by decide)
theorem hz25 : ∀ b, 77 ≤ b → h25.2.2.1 b = 0 ∧ h25.2.2.2.1 b = 0 ∧ ∀ k, h25.2.2.2.2 b k = none := hz_add hz24 (by decide) _ _
theorem hz26 : ∀ b, 77 ≤ b → h26.2.2.1 b = 0 ∧ h26.2.2.2.1 b = 0 ∧ ∀ k, h26.2.2.2.2 b k = none := hz_set hz25 (by decide)
theorem hz27 : ∀ b, 77 ≤ b → h27.2.2.1 b = 0 ∧ h27.2.2.2.1 b = 0 ∧ ∀ k, h27.2.2.2.2 b k = none := hz_add hz26 (by decide) _ _
theorem hz28 : ∀ b, 77 ≤ b → h28.2.2.1 b = 0 ∧ h28.2.2.2.1 b = 0 ∧ ∀ k, h28.2.2.2.2 b k = none := hz_set hz27 (by decide)
theorem hz29 : ∀ b, 77 ≤ b → h29.2.2.1 b = 0 ∧ h29.2.2.2.1 b = 0 ∧ ∀ k, h29.2.2.2.2 b k = none := hz_set hz28 (by decide)
theorem hz30 : ∀ b, 77 ≤ b → h30.2.2.1 b = 0 ∧ h30.2.2.2.1 b = 0 ∧ ∀ k, h30.2.2.2.2 b k = none := hz_add hz29 (by decide) _ _
theorem hz31 : ∀ b, 77 ≤ b → h31.2.2.1 b = 0 ∧ h31.2.2.2.1 b = 0 ∧ ∀ k, h31.2.2.2.2 b k = none := hz_add hz30 (by decide) _ _
theorem hz32 : ∀ b, 77 ≤ b → h32.2.2.1 b = 0 ∧ h32.2.2.2.1 b = 0 ∧ ∀ k, h32.2.2.2.2 b k = none := hz_set hz31 (by decide)
theorem hz33 : ∀ b, 77 ≤ b → h33.2.2.1 b = 0 ∧ h33.2.2.2.1 b = 0 ∧ ∀ k, h33.2.2.2.2 b k = none := hz_add hz32 (by decide) _ _
theorem hz34 : ∀ b, 77 ≤ b → h34.2.2.1 b = 0 ∧ h34.2.2.2.1 b = 0 ∧ ∀ k, h34.2.2.2.2 b k = none := hz_set hz33 (by decide)
theorem hz35 : ∀ b, 77 ≤ b → h35.2.2.1 b = 0 ∧ h35.2.2.2.1 b = 0 ∧ ∀ k, h35.2.2.2.2 b k = none := hz_set hz34 (by decide)
theorem hz36 : ∀ b, 77 ≤ b → h36.2.2.1 b = 0 ∧ h36.2.2.2.1 b = 0 ∧ ∀ k, h36.2.2.2.2 b k = none := hz_add hz35 (by decide) _ _
theorem hz37 : ∀ b, 77 ≤ b → h37.2.2.1 b = 0 ∧ h37.2.2.2.1 b = 0 ∧ ∀ k, h37.2.2.2.2 b k = none := hz_add hz36 (by decide) _ _
theorem hz38 : ∀ b, 77 ≤ b → h38.2.2.1 b = 0 ∧ h38.2.2.2.1 b = 0 ∧ ∀ k, h38.2.2.2.2 b k = none := hz_set hz37 (by decide)
theorem hz39 : ∀ b, 77 ≤ b → h39.2.2.1 b = 0 ∧ h39.2.2.2.1 b = 0 ∧ ∀ k, h39.2.2.2.2 b k = none := hz_add hz38 (by decide) _ _
theorem hz40 : ∀ b, 77 ≤ b → h40.2.2.1 b = 0 ∧ h40.2.2.2.1 b = 0 ∧ ∀ k, h40.2.2.2.2 b k = none := hz_set hz39 (by decide)
theorem hz41 : ∀ b, 77 ≤ b → h41.2.2.1 b = 0 ∧ h41.2.2.2.1 b = 0 ∧ ∀ k, h41.2.2.2.2 b k = none := hz_add hz40 (by decide) _ _
theorem hz42 : ∀ b, 77 ≤ b → h42.2.2.1 b = 0 ∧ h42.2.2.2.1 b = 0 ∧ ∀ k, h42.2.2.2.2 b k = none := hz_set hz41 (by decide)
theorem hz43 : ∀ b, 77 ≤ b → h43.2.2.1 b = 0 ∧ h43.2.2.2.1 b = 0 ∧ ∀ k, h43.2.2.2.2 b k = none := hz_add hz42 (by decide) _ _
theorem hz44 : ∀ b, 77 ≤ b → h44.2.2.1 b = 0 ∧ h44.2.2.2.1 b = 0 ∧ ∀ k, h44.2.2.2.2 b k = none := hz_set hz43 (by decide)
theorem hz45 : ∀ b, 77 ≤ b → h45.2.2.1 b = 0 ∧ h45.2.2.2.1 b = 0 ∧ ∀ k, h45.2.2.2.2 b k = none := hz_adds (hz_add hz44 (by decide) _ _) (by decide)
theorem hz46 : ∀ b, 77 ≤ b → h46.2.2.1 b = 0 ∧ h46.2.2.2.1 b = 0 ∧ ∀ k, h46.2.2.2.2 b k = none := hz_set hz45 (by decide)
theorem hz47 : ∀ b, 77 ≤ b → h47.2.2.1 b = 0 ∧ h47.2.2.2.1 b = 0 ∧ ∀ k, h47.2.2.2.2 b k = none := hz_add hz46 (by decide) _ _
theorem hz48 : ∀ b, 77 ≤ b → h48.2.2.1 b = 0 ∧ h48.2.2.2.1 b = 0 ∧ ∀ k, h48.2.2.2.2 b k = none := hz_set hz47 (by decide)
theorem hz49 : ∀ b, 77 ≤ b → h49.2.2.1 b = 0 ∧ h49.2.2.2.1 b = 0 ∧ ∀ k, h49.2.2.2.2 b k = none := hz_add hz48 (by decide) _ _
theorem hz50 : ∀ b, 77 ≤ b → h50.2.2.1 b = 0 ∧ h50.2.2.2.1 b = 0 ∧ ∀ k, h50.2.2.2.2 b k = none := hz_set hz49 (by decide)
theorem hz51 : ∀ b, 77 ≤ b → h51.2.2.1 b = 0 ∧ h51.2.2.2.1 b = 0 ∧ ∀ k, h51.2.2.2.2 b k = none := hz_set hz50 (by decide)
theorem hz52 : ∀ b, 77 ≤ b → h52.2.2.1 b = 0 ∧ h52.2.2.2.1 b = 0 ∧ ∀ k, h52.2.2.2.2 b k = none := hz_add hz51 (by decide) _ _
theorem hz53 : ∀ b, 77 ≤ b → h53.2.2.1 b = 0 ∧ h53.2.2.2.1 b = 0 ∧ ∀ k, h53.2.2.2.2 b k = none := hz_adds (hz_add hz52 (by decide) _ _) (by decide)
theorem hz54 : ∀ b, 77 ≤ b → h54.2.2.1 b = 0 ∧ h54.2.2.2.1 b = 0 ∧ ∀ k, h54.2.2.2.2 b k = none := hz_set hz53 (by decide)
theorem hz55 : ∀ b, 77 ≤ b → h55.2.2.1 b = 0 ∧ h55.2.2.2.1 b = 0 ∧ ∀ k, h55.2.2.2.2 b k = none := hz_adds (hz_add hz54 (by decide) _ _) (by decide)
theorem hz56 : ∀ b, 77 ≤ b → h56.2.2.1 b = 0 ∧ h56.2.2.2.1 b = 0 ∧ ∀ k, h56.2.2.2.2 b k = none := hz_set hz55 (by decide)
theorem hz57 : ∀ b, 77 ≤ b → h57.2.2.1 b = 0 ∧ h57.2.2.2.1 b = 0 ∧ ∀ k, h57.2.2.2.2 b k = none := hz_add hz56 (by decide) _ _
theorem hz58 : ∀ b, 77 ≤ b → h58.2.2.1 b = 0 ∧ h58.2.2.2.1 b = 0 ∧ ∀ k, h58.2.2.2.2 b k = none := hz_set hz57 (by decide)
theorem hz59 : ∀ b, 77 ≤ b → h59.2.2.1 b = 0 ∧ h59.2.2.2.1 b = 0 ∧ ∀ k, h59.2.2.2.2 b k = none := hz_set hz58 (by decide)
theorem hz60 : ∀ b, 77 ≤ b → h60.2.2.1 b = 0 ∧ h60.2.2.2.1 b = 0 ∧ ∀ k, h60.2.2.2.2 b k = none := hz_add hz59 (by decide) _ _
theorem hz61 : ∀ b, 77 ≤ b → h61.2.2.1 b = 0 ∧ h61.2.2.2.1 b = 0 ∧ ∀ k, h61.2.2.2.2 b k = none := hz_add hz60 (by decide) _ _
theorem hz62 : ∀ b, 77 ≤ b → h62.2.2.1 b = 0 ∧ h62.2.2.2.1 b = 0 ∧ ∀ k, h62.2.2.2.2 b k = none := hz_set hz61 (by decide)
theorem hz63 : ∀ b, 77 ≤ b → h63.2.2.1 b = 0 ∧ h63.2.2.2.1 b = 0 ∧ ∀ k, h63.2.2.2.2 b k = none := hz_set hz62 (by decide)
theorem hz64 : ∀ b, 77 ≤ b → h64.2.2.1 b = 0 ∧ h64.2.2.2.1 b = 0 ∧ ∀ k, h64.2.2.2.2 b k = none := hz_add hz63 (by decide) _ _
theorem hz65 : ∀ b, 77 ≤ b → h65.2.2.1 b = 0 ∧ h65.2.2.2.1 b = 0 ∧ ∀ k, h65.2.2.2.2 b k = none := hz_adds (hz_add hz64 (by decide) _ _) (by decide)
theorem hz66 : ∀ b, 77 ≤ b → h66.2.2.1 b = 0 ∧ h66.2.2.2.1 b = 0 ∧ ∀ k, h66.2.2.2.2 b k = none := hz_set hz65 (by decide)
theorem hz67 : ∀ b, 77 ≤ b → h67.2.2.1 b = 0 ∧ h67.2.2.2.1 b = 0 ∧ ∀ k, h67.2.2.2.2 b k = none := hz_add hz66 (by decide) _ _
theorem hz68 : ∀ b, 77 ≤ b → h68.2.2.1 b = 0 ∧ h68.2.2.2.1 b = 0 ∧ ∀ k, h68.2.2.2.2 b k = none := hz_set hz67 (by decide)
theorem hz69 : ∀ b, 77 ≤ b → h69.2.2.1 b = 0 ∧ h69.2.2.2.1 b = 0 ∧ ∀ k, h69.2.2.2.2 b k = none := hz_add hz68 (by decide) _ _
theorem hz70 : ∀ b, 77 ≤ b → h70.2.2.1 b = 0 ∧ h70.2.2.2.1 b = 0 ∧ ∀ k, h70.2.2.2.2 b k = none := hz_set hz69 (by decide)
theorem hz71 : ∀ b, 77 ≤ b → h71.2.2.1 b = 0 ∧ h71.2.2.2.1 b = 0 ∧ ∀ k, h71.2.2.2.2 b k = none := hz_set hz70 (by decide)
theorem hz72 : ∀ b, 77 ≤ b → h72.2.2.1 b = 0 ∧ h72.2.2.2.1 b = 0 ∧ ∀ k, h72.2.2.2.2 b k = none := hz_add hz71 (by decide) _ _
theorem hz73 : ∀ b, 77 ≤ b → h73.2.2.1 b = 0 ∧ h73.2.2.2.1 b = 0 ∧ ∀ k, h73.2.2.2.2 b k = none := hz_set hz72 (by decide)
theorem hz74 : ∀ b, 77 ≤ b → h74.2.2.1 b = 0 ∧ h74.2.2.2.1 b = 0 ∧ ∀ k, h74.2.2.2.2 b k = none := hz_add hz73 (by decide) _ _
theorem hz75 : ∀ b, 77 ≤ b → h75.2.2.1 b = 0 ∧ h75.2.2.2.1 b = 0 ∧ ∀ k, h75.2.2.2.2 b k = none := hz_add hz74 (by decide) _ _
theorem hz76 : ∀ b, 77 ≤ b → h76.2.2.1 b = 0 ∧ h76.2.2.2.1 b = 0 ∧ ∀ k, h76.2.2.2.2 b k = none := hz_set hz75 (by decide)
theorem hz77 : ∀ b, 77 ≤ b → h77.2.2.1 b = 0 ∧ h77.2.2.2.1 b = 0 ∧ ∀ k, h77.2.2.2.2 b k = none := hz_add hz76 (by decide) _ _
theorem hz78 : ∀ b, 77 ≤ b → h78.2.2.1 b = 0 ∧ h78.2.2.2.1 b = 0 ∧ ∀ k, h78.2.2.2.2 b k = none := hz_set hz77 (by decide)
theorem hz79 : ∀ b, 77 ≤ b → h79.2.2.1 b = 0 ∧ h79.2.2.2.1 b = 0 ∧ ∀ k, h79.2.2.2.2 b k = none := hz_add hz78 (by decide) _ _
theorem hz80 : ∀ b, 77 ≤ b → h80.2.2.1 b = 0 ∧ h80.2.2.2.1 b = 0 ∧ ∀ k, h80.2.2.2.2 b k = none := hz_set hz79 (by decide)
theorem hz81 : ∀ b, 77 ≤ b → h81.2.2.1 b = 0 ∧ h81.2.2.2.1 b = 0 ∧ ∀ k, h81.2.2.2.2 b k = none := hz_add hz80 (by decide) _ _
theorem hz82 : ∀ b, 77 ≤ b → h82.2.2.1 b = 0 ∧ h82.2.2.2.1 b = 0 ∧ ∀ k, h82.2.2.2.2 b k = none := hz_set hz81 (by decide)
theorem hz83 : ∀ b, 77 ≤ b → h83.2.2.1 b = 0 ∧ h83.2.2.2.1 b = 0 ∧ ∀ k, h83.2.2.2.2 b k = none := hz_add hz82 (by decide) _ _
theorem hz84 : ∀ b, 77 ≤ b → h84.2.2.1 b = 0 ∧ h84.2.2.2.1 b = 0 ∧ ∀ k, h84.2.2.2.2 b k = none := hz_set hz83 (by decide)
theorem hz85 : ∀ b, 77 ≤ b → h85.2.2.1 b = 0 ∧ h85.2.2.2.1 b = 0 ∧ ∀ k, h85.2.2.2.2 b k = none := hz_add hz84 (by decide) _ _
theorem hz86 : ∀ b, 77 ≤ b → h86.2.2.1 b = 0 ∧ h86.2.2.2.1 b = 0 ∧ ∀ k, h86.2.2.2.2 b k = none := hz_set hz85 (by decide)
theorem hz87 : ∀ b, 77 ≤ b → h87.2.2.1 b = 0 ∧ h87.2.2.2.1 b = 0 ∧ ∀ k, h87.2.2.2.2 b k = none := hz_add hz86 (by decide) _ _
theorem hz88 : ∀ b, 77 ≤ b → h88.2.2.1 b = 0 ∧ h88.2.2.2.1 b = 0 ∧ ∀ k, h88.2.2.2.2 b k = none := hz_set hz87 (by decide)
theorem hz89 : ∀ b, 77 ≤ b → h89.2.2.1 b = 0 ∧ h89.2.2.2.1 b = 0 ∧ ∀ k, h89.2.2.2.2 b k = none := hz_add hz88 (by decide) _ _
theorem hz90 : ∀ b, 77 ≤ b → h90.2.2.1 b = 0 ∧ h90.2.2.2.1 b = 0 ∧ ∀ k, h90.2.2.2.2 b k = none := hz_set hz89 (by decide)
theorem hz91 : ∀ b, 77 ≤ b → h91.2.2.1 b = 0 ∧ h91.2.2.2.1 b = 0 ∧ ∀ k, h91.2.2.2.2 b k = none := hz_add hz90 (by decide) _ _
theorem hz92 : ∀ b, 77 ≤ b → h92.2.2.1 b = 0 ∧ h92.2.2.2.1 b = 0 ∧ ∀ k, h92.2.2.2.2 b k = none := hz_set hz91 (by decide)
theorem hz93 : ∀ b, 77 ≤ b → h93.2.2.1 b = 0 ∧ h93.2.2.2.1 b = 0 ∧ ∀ k, h93.2.2.2.2 b k = none := hz_add hz92 (by decide) _ _
theorem hz94 : ∀ b, 77 ≤ b → h94.2.2.1 b = 0 ∧ h94.2.2.2.1 b = 0 ∧ ∀ k, h94.2.2.2.2 b k = none := hz_set hz93 (by decide)
theorem hz95 : ∀ b, 77 ≤ b → h95.2.2.1 b = 0 ∧ h95.2.2.2.1 b = 0 ∧ ∀ k, h95.2.2.2.2 b k = none := hz_add hz94 (by decide) _ _
theorem hz96 : ∀ b, 77 ≤ b → h96.2.2.1 b = 0 ∧ h96.2.2.2.1 b = 0 ∧ ∀ k, h96.2.2.2.2 b k = none := hz_set hz95 (by decide)
theorem hz97 : ∀ b, 77 ≤ b → h97.2.2.1 b = 0 ∧ h97.2.2.2.1 b = 0 ∧ ∀ k, h97.2.2.2.2 b k = none := hz_add hz96 (by decide) _ _
theorem hz98 : ∀ b, 77 ≤ b → h98.2.2.1 b = 0 ∧ h98.2.2.2.1 b = 0 ∧ ∀ k, h98.2.2.2.2 b k = none := hz_set hz97 (by decide)
theorem hz99 : ∀ b, 77 ≤ b → h99.2.2.1 b = 0 ∧ h99.2.2.2.1 b = 0 ∧ ∀ k, h99.2.2.2.2 b k = none := hz_add hz98 (by decide) _ _
theorem hz100 : ∀ b, 77 ≤ b → h100.2.2.1 b = 0 ∧ h100.2.2.2.1 b = 0 ∧ ∀ k, h100.2.2.2.2 b k = none := hz_set hz99 (by decide)
theorem hz101 : ∀ b, 77 ≤ b → h101.2.2.1 b = 0 ∧ h101.2.2.2.1 b = 0 ∧ ∀ k, h101.2.2.2.2 b k = none := hz_add hz100 (by decide) _ _
theorem hz102 : ∀ b, 77 ≤ b → h102.2.2.1 b = 0 ∧ h102.2.2.2.1 b = 0 ∧ ∀ k, h102.2.2.2.2 b k = none := hz_set hz101 (by decide)
theorem hz103 : ∀ b, 77 ≤ b → h103.2.2.1 b = 0 ∧ h103.2.2.2.1 b = 0 ∧ ∀ k, h103.2.2.2.2 b k = none := hz_add hz102 (by decide) _ _
theorem hz104 : ∀ b, 77 ≤ b → h104.2.2.1 b = 0 ∧ h104.2.2.2.1 b = 0 ∧ ∀ k, h104.2.2.2.2 b k = none := hz_set hz103 (by decide)
theorem hz105 : ∀ b, 77 ≤ b → h105.2.2.1 b = 0 ∧ h105.2.2.2.1 b = 0 ∧ ∀ k, h105.2.2.2.2 b k = none := hz_add hz104 (by decide) _ _
theorem hz106 : ∀ b, 77 ≤ b → h106.2.2.1 b = 0 ∧ h106.2.2.2.1 b = 0 ∧ ∀ k, h106.2.2.2.2 b k = none := hz_set hz105 (by decide)
theorem hz107 : ∀ b, 77 ≤ b → h107.2.2.1 b = 0 ∧ h107.2.2.2.1 b = 0 ∧ ∀ k, h107.2.2.2.2 b k = none := hz_add hz106 (by decide) _ _
theorem hz108 : ∀ b, 77 ≤ b → h108.2.2.1 b = 0 ∧ h108.2.2.2.1 b = 0 ∧ ∀ k, h108.2.2.2.2 b k = none := hz_set hz107 (by decide)
theorem hk0 : ∀ b k, 32 ≤ k → h0.2.2.2.2 b k = none := fun _ _ _ => rfl
theorem hk1 : ∀ b k, 32 ≤ k → h1.2.2.2.2 b k = none := hk_add hk0 (fun _ _ => rfl)
theorem hk2 : ∀ b k, 32 ≤ k → h2.2.2.2.2 b k = none := hk_add hk1 (fun _ _ => rfl)
theorem hk3 : ∀ b k, 32 ≤ k → h3.2.2.2.2 b k = none := hk_add hk2 (fun _ _ => rfl)
theorem hk4 : ∀ b k, 32 ≤ k → h4.2.2.2.2 b k = none := hk_set hk3 (by decide)
theorem hk5 : ∀ b k, 32 ≤ k → h5.2.2.2.2 b k = none := hk_add hk4 (fun _ _ => rfl)
theorem hk6 : ∀ b k, 32 ≤ k → h6.2.2.2.2 b k = none := hk_set hk5 (by decide)
theorem hk7 : ∀ b k, 32 ≤ k → h7.2.2.2.2 b k = none := hk_add hk6 (fun _ _ => rfl)
theorem hk8 : ∀ b k, 32 ≤ k → h8.2.2.2.2 b k = none := hk_set hk7 (by decide)
theorem hk9 : ∀ b k, 32 ≤ k → h9.2.2.2.2 b k = none := hk_add hk8 (fun _ _ => rfl)
theorem hk10 : ∀ b k, 32 ≤ k → h10.2.2.2.2 b k = none := hk_set hk9 (by decide)
theorem hk11 : ∀ b k, 32 ≤ k → h11.2.2.2.2 b k = none := hk_set hk10 (by decide)
theorem hk12 : ∀ b k, 32 ≤ k → h12.2.2.2.2 b k = none := hk_add hk11 (fun _ _ => rfl)
theorem hk13 : ∀ b k, 32 ≤ k → h13.2.2.2.2 b k = none := hk_adds (hk_add hk12 (fun q hq => if_neg (by omega)))
theorem hk14 : ∀ b k, 32 ≤ k → h14.2.2.2.2 b k = none := hk_set hk13 (by decide)
theorem hk15 : ∀ b k, 32 ≤ k → h15.2.2.2.2 b k = none := hk_add hk14 (fun _ _ => rfl)
theorem hk16 : ∀ b k, 32 ≤ k → h16.2.2.2.2 b k = none := hk_set hk15 (by decide)
theorem hk17 : ∀ b k, 32 ≤ k → h17.2.2.2.2 b k = none := hk_add hk16 (fun _ _ => rfl)
theorem hk18 : ∀ b k, 32 ≤ k → h18.2.2.2.2 b k = none := hk_set hk17 (by decide)
theorem hk19 : ∀ b k, 32 ≤ k → h19.2.2.2.2 b k = none := hk_add hk18 (fun _ _ => rfl)
theorem hk20 : ∀ b k, 32 ≤ k → h20.2.2.2.2 b k = none := hk_set hk19 (by decide)
theorem hk21 : ∀ b k, 32 ≤ k → h21.2.2.2.2 b k = none := hk_add hk20 (fun _ _ => rfl)
theorem hk22 : ∀ b k, 32 ≤ k → h22.2.2.2.2 b k = none := hk_set hk21 (by decide)
theorem hk23 : ∀ b k, 32 ≤ k → h23.2.2.2.2 b k = none := hk_add hk22 (fun _ _ => rfl)
theorem hk24 : ∀ b k, 32 ≤ k → h24.2.2.2.2 b k = none := hk_set hk23 (by decide)
theorem hk25 : ∀ b k, 32 ≤ k → h25.2.2.2.2 b k = none := hk_add hk24 (fun _ _ => rfl)
theorem hk26 : ∀ b k, 32 ≤ k → h26.2.2.2.2 b k = none := hk_set hk25 (by decide)
theorem hk27 : ∀ b k, 32 ≤ k → h27.2.2.2.2 b k = none := hk_add hk26 (fun _ _ => rfl)
theorem hk28 : ∀ b k, 32 ≤ k → h28.2.2.2.2 b k = none := hk_set hk27 (by decide)
theorem hk29 : ∀ b k, 32 ≤ k → h29.2.2.2.2 b k = none := hk_set hk28 (by decide)
theorem hk30 : ∀ b k, 32 ≤ k → h30.2.2.2.2 b k = none := hk_add hk29 (fun _ _ => rfl)
theorem hk31 : ∀ b k, 32 ≤ k → h31.2.2.2.2 b k = none := hk_add hk30 (fun _ _ => rfl)
theorem hk32 : ∀ b k, 32 ≤ k → h32.2.2.2.2 b k = none := hk_set hk31 (by decide)
theorem hk33 : ∀ b k, 32 ≤ k → h33.2.2.2.2 b k = none := hk_add hk32 (fun _ _ => rfl)
theorem hk34 : ∀ b k, 32 ≤ k → h34.2.2.2.2 b k = none := hk_set hk33 (by decide)
theorem hk35 : ∀ b k, 32 ≤ k → h35.2.2.2.2 b k = none := hk_set hk34 (by decide)
theorem hk36 : ∀ b k, 32 ≤ k → h36.2.2.2.2 b k = none := hk_add hk35 (fun _ _ => rfl)
theorem hk37 : ∀ b k, 32 ≤ k → h37.2.2.2.2 b k = none := hk_add hk36 (fun _ _ => rfl)
theorem hk38 : ∀ b k, 32 ≤ k → h38.2.2.2.2 b k = none := hk_set hk37 (by decide)
theorem hk39 : ∀ b k, 32 ≤ k → h39.2.2.2.2 b k = none := hk_add hk38 (fun _ _ => rfl)
theorem hk40 : ∀ b k, 32 ≤ k → h40.2.2.2.2 b k = none := hk_set hk39 (by decide)
theorem hk41 : ∀ b k, 32 ≤ k → h41.2.2.2.2 b k = none := hk_add hk40 (fun _ _ => rfl)
theorem hk42 : ∀ b k, 32 ≤ k → h42.2.2.2.2 b k = none := hk_set hk41 (by decide)
theorem hk43 : ∀ b k, 32 ≤ k → h43.2.2.2.2 b k = none := hk_add hk42 (fun _ _ => rfl)
theorem hk44 : ∀ b k, 32 ≤ k → h44.2.2.2.2 b k = none := hk_set hk43 (by decide)
theorem hk45 : ∀ b k, 32 ≤ k → h45.2.2.2.2 b k = none := hk_adds (hk_add hk44 (fun q hq => if_neg (by omega)))
theorem hk46 : ∀ b k, 32 ≤ k → h46.2.2.2.2 b k = none := hk_set hk45 (by decide)
theorem hk47 : ∀ b k, 32 ≤ k → h47.2.2.2.2 b k = none := hk_add hk46 (fun _ _ => rfl)
theorem hk48 : ∀ b k, 32 ≤ k → h48.2.2.2.2 b k = none := hk_set hk47 (by decide)
theorem hk49 : ∀ b k, 32 ≤ k → h49.2.2.2.2 b k = none := hk_add hk48 (fun _ _ => rfl)
theorem hk50 : ∀ b k, 32 ≤ k → h50.2.2.2.2 b k = none := hk_set hk49 (by decide)
theorem hk51 : ∀ b k, 32 ≤ k → h51.2.2.2.2 b k = none := hk_set hk50 (by decide)
theorem hk52 : ∀ b k, 32 ≤ k → h52.2.2.2.2 b k = none := hk_add hk51 (fun _ _ => rfl)
theorem hk53 : ∀ b k, 32 ≤ k → h53.2.2.2.2 b k = none := hk_adds (hk_add hk52 (fun q hq => if_neg (by omega)))
theorem hk54 : ∀ b k, 32 ≤ k → h54.2.2.2.2 b k = none := hk_set hk53 (by decide)
theorem hk55 : ∀ b k, 32 ≤ k → h55.2.2.2.2 b k = none := hk_adds (hk_add hk54 (fun q hq => if_neg (by omega)))
theorem hk56 : ∀ b k, 32 ≤ k → h56.2.2.2.2 b k = none := hk_set hk55 (by decide)
theorem hk57 : ∀ b k, 32 ≤ k → h57.2.2.2.2 b k = none := hk_add hk56 (fun _ _ => rfl)
theorem hk58 : ∀ b k, 32 ≤ k → h58.2.2.2.2 b k = none := hk_set hk57 (by decide)
theorem hk59 : ∀ b k, 32 ≤ k → h59.2.2.2.2 b k = none := hk_set hk58 (by decide)
theorem hk60 : ∀ b k, 32 ≤ k → h60.2.2.2.2 b k = none := hk_add hk59 (fun _ _ => rfl)
theorem hk61 : ∀ b k, 32 ≤ k → h61.2.2.2.2 b k = none := hk_add hk60 (fun _ _ => rfl)
theorem hk62 : ∀ b k, 32 ≤ k → h62.2.2.2.2 b k = none := hk_set hk61 (by decide)
theorem hk63 : ∀ b k, 32 ≤ k → h63.2.2.2.2 b k = none := hk_set hk62 (by decide)
theorem hk64 : ∀ b k, 32 ≤ k → h64.2.2.2.2 b k = none := hk_add hk63 (fun _ _ => rfl)
theorem hk65 : ∀ b k, 32 ≤ k → h65.2.2.2.2 b k = none := hk_adds (hk_add hk64 (fun q hq => if_neg (by omega)))
theorem hk66 : ∀ b k, 32 ≤ k → h66.2.2.2.2 b k = none := hk_set hk65 (by decide)
theorem hk67 : ∀ b k, 32 ≤ k → h67.2.2.2.2 b k = none := hk_add hk66 (fun _ _ => rfl)
theorem hk68 : ∀ b k, 32 ≤ k → h68.2.2.2.2 b k = none := hk_set hk67 (by decide)
theorem hk69 : ∀ b k, 32 ≤ k → h69.2.2.2.2 b k = none := hk_add hk68 (fun _ _ => rfl)
theorem hk70 : ∀ b k, 32 ≤ k → h70.2.2.2.2 b k = none := hk_set hk69 (by decide)
theorem hk71 : ∀ b k, 32 ≤ k → h71.2.2.2.2 b k = none := hk_set hk70 (by decide)
theorem hk72 : ∀ b k, 32 ≤ k → h72.2.2.2.2 b k = none := hk_add hk71 (fun _ _ => rfl)
theorem hk73 : ∀ b k, 32 ≤ k → h73.2.2.2.2 b k = none := hk_set hk72 (by decide)
theorem hk74 : ∀ b k, 32 ≤ k → h74.2.2.2.2 b k = none := hk_add hk73 (fun _ _ => rfl)
theorem hk75 : ∀ b k, 32 ≤ k → h75.2.2.2.2 b k = none := hk_add hk74 (fun _ _ => rfl)
theorem hk76 : ∀ b k, 32 ≤ k → h76.2.2.2.2 b k = none := hk_set hk75 (by decide)
theorem hk77 : ∀ b k, 32 ≤ k → h77.2.2.2.2 b k = none := hk_add hk76 (fun _ _ => rfl)
theorem hk78 : ∀ b k, 32 ≤ k → h78.2.2.2.2 b k = none := hk_set hk77 (by decide)
theorem hk79 : ∀ b k, 32 ≤ k → h79.2.2.2.2 b k = none := hk_add hk78 (fun _ _ => rfl)
theorem hk80 : ∀ b k, 32 ≤ k → h80.2.2.2.2 b k = none := hk_set hk79 (by decide)
theorem hk81 : ∀ b k, 32 ≤ k → h81.2.2.2.2 b k = none := hk_add hk80 (fun _ _ => rfl)
theorem hk82 : ∀ b k, 32 ≤ k → h82.2.2.2.2 b k = none := hk_set hk81 (by decide)
theorem hk83 : ∀ b k, 32 ≤ k → h83.2.2.2.2 b k = none := hk_add hk82 (fun _ _ => rfl)
theorem hk84 : ∀ b k, 32 ≤ k → h84.2.2.2.2 b k = none := hk_set hk83 (by decide)
theorem hk85 : ∀ b k, 32 ≤ k → h85.2.2.2.2 b k = none := hk_add hk84 (fun _ _ => rfl)
theorem hk86 : ∀ b k, 32 ≤ k → h86.2.2.2.2 b k = none := hk_set hk85 (by decide)
theorem hk87 : ∀ b k, 32 ≤ k → h87.2.2.2.2 b k = none := hk_add hk86 (fun _ _ => rfl)
theorem hk88 : ∀ b k, 32 ≤ k → h88.2.2.2.2 b k = none := hk_set hk87 (by decide)
theorem hk89 : ∀ b k, 32 ≤ k → h89.2.2.2.2 b k = none := hk_add hk88 (fun _ _ => rfl)
theorem hk90 : ∀ b k, 32 ≤ k → h90.2.2.2.2 b k = none := hk_set hk89 (by decide)
theorem hk91 : ∀ b k, 32 ≤ k → h91.2.2.2.2 b k = none := hk_add hk90 (fun _ _ => rfl)
theorem hk92 : ∀ b k, 32 ≤ k → h92.2.2.2.2 b k = none := hk_set hk91 (by decide)
theorem hk93 : ∀ b k, 32 ≤ k → h93.2.2.2.2 b k = none := hk_add hk92 (fun _ _ => rfl)
theorem hk94 : ∀ b k, 32 ≤ k → h94.2.2.2.2 b k = none := hk_set hk93 (by decide)
theorem hk95 : ∀ b k, 32 ≤ k → h95.2.2.2.2 b k = none := hk_add hk94 (fun _ _ => rfl)
theorem hk96 : ∀ b k, 32 ≤ k → h96.2.2.2.2 b k = none := hk_set hk95 (by decide)
theorem hk97 : ∀ b k, 32 ≤ k → h97.2.2.2.2 b k = none := hk_add hk96 (fun _ _ => rfl)
theorem hk98 : ∀ b k, 32 ≤ k → h98.2.2.2.2 b k = none := hk_set hk97 (by decide)
theorem hk99 : ∀ b k, 32 ≤ k → h99.2.2.2.2 b k = none := hk_add hk98 (fun _ _ => rfl)
theorem hk100 : ∀ b k, 32 ≤ k → h100.2.2.2.2 b k = none := hk_set hk99 (by decide)
theorem hk101 : ∀ b k, 32 ≤ k → h101.2.2.2.2 b k = none := hk_add hk100 (fun _ _ => rfl)
theorem hk102 : ∀ b k, 32 ≤ k → h102.2.2.2.2 b k = none := hk_set hk101 (by decide)
theorem hk103 : ∀ b k, 32 ≤ k → h103.2.2.2.2 b k = none := hk_add hk102 (fun _ _ => rfl)
theorem hk104 : ∀ b k, 32 ≤ k → h104.2.2.2.2 b k = none := hk_set hk103 (by decide)
theorem hk105 : ∀ b k, 32 ≤ k → h105.2.2.2.2 b k = none := hk_add hk104 (fun _ _ => rfl)
theorem hk106 : ∀ b k, 32 ≤ k → h106.2.2.2.2 b k = none := hk_set hk105 (by decide)
theorem hk107 : ∀ b k, 32 ≤ k → h107.2.2.2.2 b k = none := hk_add hk106 (fun _ _ => rfl)
theorem hk108 : ∀ b k, 32 ≤ k → h108.2.2.2.2 b k = none := hk_set hk107 (by decide)
theorem hn0 : h0.1 = 0 := rfl
theorem ht0 : am_add h0 8 8 (fun _ => none) = h1 := rfl
theorem hn1 : h1.1 = 1 := rfl
theorem ht1 : am_add h1 2 5 (fun _ => none) = h2 := rfl
theorem hn2 : h2.1 = 2 := rfl
theorem ht2 : am_add h2 100 6 (fun _ => none) = h3 := rfl
theorem ho3_1_0 : am_ob h3 1 2 0 = true := by decide +kernel
theorem ht3 : am_setR h3 1 0 2 = h4 := rfl
theorem hn4 : h4.1 = 3 := rfl
theorem ht4 : am_add h4 100 6 (fun _ => none) = h5 := rfl
theorem ho5_1_1 : am_ob h5 1 2 1 = true := by decide +kernel
theorem ht5 : am_setR h5 1 1 3 = h6 := rfl
theorem hn6 : h6.1 = 4 := rfl
theorem ht6 : am_add h6 101 6 (fun _ => none) = h7 := rfl
theorem ho7_1_2 : am_ob h7 1 2 2 = true := by decide +kernel
theorem ht7 : am_setR h7 1 2 4 = h8 := rfl
theorem hn8 : h8.1 = 5 := rfl
theorem ht8 : am_add h8 101 6 (fun _ => none) = h9 := rfl
theorem ho9_1_3 : am_ob h9 1 2 3 = true := by decide +kernel
theorem ht9 : am_setR h9 1 3 5 = h10 := rfl
theorem ho10_1_4 : am_ob h10 1 2 4 = true := by decide +kernel
theorem ho10_0_0 : am_ob h10 0 8 0 = true := by decide +kernel
theorem ht10 : am_setR h10 0 0 1 = h11 := rfl
theorem hn11 : h11.1 = 6 := rfl
theorem ht11 : am_add h11 5 9 (fun _ => none) = h12 := rfl
theorem hn12 : h12.1 = 7 := rfl
theorem ht12 : am_adds (am_add h12 103 6 (fun q => if q < 6 then some (7 + 1 + q) else none)) 6 6 = h13 := rfl
theorem ho13_6_0 : am_ob h13 6 5 0 = true := by decide +kernel
theorem ht13 : am_setR h13 6 0 7 = h14 := rfl
theorem hn14 : h14.1 = 14 := rfl
theorem ht14 : am_add h14 102 6 (fun _ => none) = h15 := rfl
theorem ho15_6_1 : am_ob h15 6 5 1 = true := by decide +kernel
theorem ht15 : am_setR h15 6 1 14 = h16 := rfl
theorem hn16 : h16.1 = 15 := rfl
theorem ht16 : am_add h16 102 6 (fun _ => none) = h17 := rfl
theorem ho17_6_2 : am_ob h17 6 5 2 = true := by decide +kernel
theorem ht17 : am_setR h17 6 2 15 = h18 := rfl
theorem hn18 : h18.1 = 16 := rfl
theorem ht18 : am_add h18 100 6 (fun _ => none) = h19 := rfl
theorem ho19_6_3 : am_ob h19 6 5 3 = true := by decide +kernel
theorem ht19 : am_setR h19 6 3 16 = h20 := rfl
theorem hn20 : h20.1 = 17 := rfl
theorem ht20 : am_add h20 100 6 (fun _ => none) = h21 := rfl
theorem ho21_6_4 : am_ob h21 6 5 4 = true := by decide +kernel
theorem ht21 : am_setR h21 6 4 17 = h22 := rfl
theorem hn22 : h22.1 = 18 := rfl
theorem ht22 : am_add h22 3 2 (fun _ => none) = h23 := rfl
theorem ho23_18_0 : am_ob h23 18 3 0 = true := by decide +kernel
theorem ho23_18_1 : am_ob h23 18 3 1 = true := by decide +kernel
theorem ho23_6_5 : am_ob h23 6 5 5 = true := by decide +kernel
theorem ht23 : am_setR h23 6 5 18 = h24 := rfl
theorem hn24 : h24.1 = 19 := rfl
theorem ht24 : am_add h24 3 2 (fun _ => none) = h25 := rfl
theorem ho25_19_0 : am_ob h25 19 3 0 = true := by decide +kernel
theorem ho25_19_1 : am_ob h25 19 3 1 = true := by decide +kernel
theorem ho25_6_6 : am_ob h25 6 5 6 = true := by decide +kernel
theorem ht25 : am_setR h25 6 6 19 = h26 := rfl
theorem hn26 : h26.1 = 20 := rfl
theorem ht26 : am_add h26 3 2 (fun _ => none) = h27 := rfl
theorem ho27_20_0 : am_ob h27 20 3 0 = true := by decide +kernel
theorem ho27_20_1 : am_ob h27 20 3 1 = true := by decide +kernel
theorem ho27_6_7 : am_ob h27 6 5 7 = true := by decide +kernel
theorem ht27 : am_setR h27 6 7 20 = h28 := rfl
theorem ho28_6_8 : am_ob h28 6 5 8 = true := by decide +kernel
theorem ho28_0_1 : am_ob h28 0 8 1 = true := by decide +kernel
theorem ht28 : am_setR h28 0 1 6 = h29 := rfl
theorem hn29 : h29.1 = 21 := rfl
theorem ht29 : am_add h29 7 5 (fun _ => none) = h30 := rfl
theorem hn30 : h30.1 = 22 := rfl
theorem ht30 : am_add h30 100 80 (fun _ => none) = h31 := rfl
theorem ho31_21_0 : am_ob h31 21 7 0 = true := by decide +kernel
theorem ht31 : am_setR h31 21 0 22 = h32 := rfl
theorem hn32 : h32.1 = 23 := rfl
theorem ht32 : am_add h32 100 40 (fun _ => none) = h33 := rfl
theorem ho33_21_1 : am_ob h33 21 7 1 = true := by decide +kernel
theorem ht33 : am_setR h33 21 1 23 = h34 := rfl
theorem ho34_21_2 : am_ob h34 21 7 2 = true := by decide +kernel
theorem ho34_21_3 : am_ob h34 21 7 3 = true := by decide +kernel
theorem ho34_21_4 : am_ob h34 21 7 4 = true := by decide +kernel
theorem ho34_0_2 : am_ob h34 0 8 2 = true := by decide +kernel
theorem ht34 : am_setR h34 0 2 21 = h35 := rfl
theorem hn35 : h35.1 = 24 := rfl
theorem ht35 : am_add h35 0 9 (fun _ => none) = h36 := rfl
theorem hn36 : h36.1 = 25 := rfl
theorem ht36 : am_add h36 100 120 (fun _ => none) = h37 := rfl
theorem ho37_24_0 : am_ob h37 24 0 0 = true := by decide +kernel
theorem ht37 : am_setR h37 24 0 25 = h38 := rfl
theorem hn38 : h38.1 = 26 := rfl
theorem ht38 : am_add h38 100 120 (fun _ => none) = h39 := rfl
theorem ho39_24_1 : am_ob h39 24 0 1 = true := by decide +kernel
theorem ht39 : am_setR h39 24 1 26 = h40 := rfl
theorem hn40 : h40.1 = 27 := rfl
theorem ht40 : am_add h40 100 120 (fun _ => none) = h41 := rfl
theorem ho41_24_2 : am_ob h41 24 0 2 = true := by decide +kernel
theorem ht41 : am_setR h41 24 2 27 = h42 := rfl
theorem hn42 : h42.1 = 28 := rfl
theorem ht42 : am_add h42 100 120 (fun _ => none) = h43 := rfl
theorem ho43_24_3 : am_ob h43 24 0 3 = true := by decide +kernel
theorem ht43 : am_setR h43 24 3 28 = h44 := rfl
theorem hn44 : h44.1 = 29 := rfl
theorem ht44 : am_adds (am_add h44 103 4 (fun q => if q < 4 then some (29 + 1 + q) else none)) 40 4 = h45 := rfl
theorem ho45_24_4 : am_ob h45 24 0 4 = true := by decide +kernel
theorem ht45 : am_setR h45 24 4 29 = h46 := rfl
theorem hn46 : h46.1 = 34 := rfl
theorem ht46 : am_add h46 100 40 (fun _ => none) = h47 := rfl
theorem ho47_24_5 : am_ob h47 24 0 5 = true := by decide +kernel
theorem ht47 : am_setR h47 24 5 34 = h48 := rfl
theorem hn48 : h48.1 = 35 := rfl
theorem ht48 : am_add h48 100 40 (fun _ => none) = h49 := rfl
theorem ho49_24_6 : am_ob h49 24 0 6 = true := by decide +kernel
theorem ht49 : am_setR h49 24 6 35 = h50 := rfl
theorem ho50_24_7 : am_ob h50 24 0 7 = true := by decide +kernel
theorem ho50_24_8 : am_ob h50 24 0 8 = true := by decide +kernel
theorem ho50_0_3 : am_ob h50 0 8 3 = true := by decide +kernel
theorem ht50 : am_setR h50 0 3 24 = h51 := rfl
theorem hn51 : h51.1 = 36 := rfl
theorem ht51 : am_add h51 6 3 (fun _ => none) = h52 := rfl
theorem hn52 : h52.1 = 37 := rfl
theorem ht52 : am_adds (am_add h52 103 4 (fun q => if q < 4 then some (37 + 1 + q) else none)) 7 4 = h53 := rfl
theorem ho53_36_0 : am_ob h53 36 6 0 = true := by decide +kernel
theorem ht53 : am_setR h53 36 0 37 = h54 := rfl
theorem hn54 : h54.1 = 42 := rfl
theorem ht54 : am_adds (am_add h54 103 4 (fun q => if q < 4 then some (42 + 1 + q) else none)) 7 4 = h55 := rfl
theorem ho55_36_1 : am_ob h55 36 6 1 = true := by decide +kernel
theorem ht55 : am_setR h55 36 1 42 = h56 := rfl
theorem hn56 : h56.1 = 47 := rfl
theorem ht56 : am_add h56 3 2 (fun _ => none) = h57 := rfl
theorem ho57_47_0 : am_ob h57 47 3 0 = true := by decide +kernel
theorem ho57_47_1 : am_ob h57 47 3 1 = true := by decide +kernel
theorem ho57_36_2 : am_ob h57 36 6 2 = true := by decide +kernel
theorem ht57 : am_setR h57 36 2 47 = h58 := rfl
theorem ho58_0_4 : am_ob h58 0 8 4 = true := by decide +kernel
theorem ht58 : am_setR h58 0 4 36 = h59 := rfl
theorem hn59 : h59.1 = 48 := rfl
theorem ht59 : am_add h59 1 1 (fun _ => none) = h60 := rfl
theorem hn60 : h60.1 = 49 := rfl
theorem ht60 : am_add h60 101 900 (fun _ => none) = h61 := rfl
theorem ho61_48_0 : am_ob h61 48 1 0 = true := by decide +kernel
theorem ht61 : am_setR h61 48 0 49 = h62 := rfl
theorem ho62_0_5 : am_ob h62 0 8 5 = true := by decide +kernel
theorem ht62 : am_setR h62 0 5 48 = h63 := rfl
theorem hn63 : h63.1 = 50 := rfl
theorem ht63 : am_add h63 4 4 (fun _ => none) = h64 := rfl
theorem hn64 : h64.1 = 51 := rfl
theorem ht64 : am_adds (am_add h64 103 4 (fun q => if q < 4 then some (51 + 1 + q) else none)) 60 4 = h65 := rfl
theorem ho65_50_0 : am_ob h65 50 4 0 = true := by decide +kernel
theorem ht65 : am_setR h65 50 0 51 = h66 := rfl
theorem hn66 : h66.1 = 56 := rfl
theorem ht66 : am_add h66 100 4 (fun _ => none) = h67 := rfl
theorem ho67_50_1 : am_ob h67 50 4 1 = true := by decide +kernel
theorem ht67 : am_setR h67 50 1 56 = h68 := rfl
theorem hn68 : h68.1 = 57 := rfl
theorem ht68 : am_add h68 100 4 (fun _ => none) = h69 := rfl
theorem ho69_50_2 : am_ob h69 50 4 2 = true := by decide +kernel
theorem ht69 : am_setR h69 50 2 57 = h70 := rfl
theorem ho70_50_3 : am_ob h70 50 4 3 = true := by decide +kernel
theorem ho70_0_6 : am_ob h70 0 8 6 = true := by decide +kernel
theorem ht70 : am_setR h70 0 6 50 = h71 := rfl
theorem hn71 : h71.1 = 58 := rfl
theorem ht71 : am_add h71 3 2 (fun _ => none) = h72 := rfl
theorem ho72_58_0 : am_ob h72 58 3 0 = true := by decide +kernel
theorem ho72_58_1 : am_ob h72 58 3 1 = true := by decide +kernel
theorem ho72_0_7 : am_ob h72 0 8 7 = true := by decide +kernel
theorem ht72 : am_setR h72 0 7 58 = h73 := rfl
theorem hn73 : h73.1 = 59 := rfl
theorem ht73 : am_add h73 9 32 (fun _ => none) = h74 := rfl
theorem hn74 : h74.1 = 60 := rfl
theorem ht74 : am_add h74 100 4 (fun _ => none) = h75 := rfl
theorem ho75_59_0 : am_ob h75 59 9 0 = true := by decide +kernel
theorem ht75 : am_setR h75 59 0 60 = h76 := rfl
theorem hn76 : h76.1 = 61 := rfl
theorem ht76 : am_add h76 100 4 (fun _ => none) = h77 := rfl
theorem ho77_59_1 : am_ob h77 59 9 1 = true := by decide +kernel
theorem ht77 : am_setR h77 59 1 61 = h78 := rfl
theorem hn78 : h78.1 = 62 := rfl
theorem ht78 : am_add h78 100 240 (fun _ => none) = h79 := rfl
theorem ho79_59_2 : am_ob h79 59 9 2 = true := by decide +kernel
theorem ht79 : am_setR h79 59 2 62 = h80 := rfl
theorem hn80 : h80.1 = 63 := rfl
theorem ht80 : am_add h80 100 60 (fun _ => none) = h81 := rfl
theorem ho81_59_3 : am_ob h81 59 9 3 = true := by decide +kernel
theorem ht81 : am_setR h81 59 3 63 = h82 := rfl
theorem hn82 : h82.1 = 64 := rfl
theorem ht82 : am_add h82 100 6 (fun _ => none) = h83 := rfl
theorem ho83_59_6 : am_ob h83 59 9 6 = true := by decide +kernel
theorem ht83 : am_setR h83 59 6 64 = h84 := rfl
theorem hn84 : h84.1 = 65 := rfl
theorem ht84 : am_add h84 100 36 (fun _ => none) = h85 := rfl
theorem ho85_59_8 : am_ob h85 59 9 8 = true := by decide +kernel
theorem ht85 : am_setR h85 59 8 65 = h86 := rfl
theorem hn86 : h86.1 = 66 := rfl
theorem ht86 : am_add h86 100 80 (fun _ => none) = h87 := rfl
theorem ho87_59_9 : am_ob h87 59 9 9 = true := by decide +kernel
theorem ht87 : am_setR h87 59 9 66 = h88 := rfl
theorem hn88 : h88.1 = 67 := rfl
theorem ht88 : am_add h88 100 50 (fun _ => none) = h89 := rfl
theorem ho89_59_13 : am_ob h89 59 9 13 = true := by decide +kernel
theorem ht89 : am_setR h89 59 13 67 = h90 := rfl
theorem hn90 : h90.1 = 68 := rfl
theorem ht90 : am_add h90 100 120 (fun _ => none) = h91 := rfl
theorem ho91_59_15 : am_ob h91 59 9 15 = true := by decide +kernel
theorem ht91 : am_setR h91 59 15 68 = h92 := rfl
theorem hn92 : h92.1 = 69 := rfl
theorem ht92 : am_add h92 100 120 (fun _ => none) = h93 := rfl
theorem ho93_59_16 : am_ob h93 59 9 16 = true := by decide +kernel
theorem ht93 : am_setR h93 59 16 69 = h94 := rfl
theorem hn94 : h94.1 = 70 := rfl
theorem ht94 : am_add h94 100 120 (fun _ => none) = h95 := rfl
theorem ho95_59_17 : am_ob h95 59 9 17 = true := by decide +kernel
theorem ht95 : am_setR h95 59 17 70 = h96 := rfl
theorem ho96_59_18 : am_ob h96 59 9 18 = true := by decide +kernel
theorem hn96 : h96.1 = 71 := rfl
theorem ht96 : am_add h96 100 160 (fun _ => none) = h97 := rfl
theorem ho97_59_19 : am_ob h97 59 9 19 = true := by decide +kernel
theorem ht97 : am_setR h97 59 19 71 = h98 := rfl
theorem hn98 : h98.1 = 72 := rfl
theorem ht98 : am_add h98 101 6 (fun _ => none) = h99 := rfl
theorem ho99_59_22 : am_ob h99 59 9 22 = true := by decide +kernel
theorem ht99 : am_setR h99 59 22 72 = h100 := rfl
theorem hn100 : h100.1 = 73 := rfl
theorem ht100 : am_add h100 101 6 (fun _ => none) = h101 := rfl
theorem ho101_59_23 : am_ob h101 59 9 23 = true := by decide +kernel
theorem ht101 : am_setR h101 59 23 73 = h102 := rfl
theorem hn102 : h102.1 = 74 := rfl
theorem ht102 : am_add h102 100 6 (fun _ => none) = h103 := rfl
theorem ho103_59_26 : am_ob h103 59 9 26 = true := by decide +kernel
theorem ht103 : am_setR h103 59 26 74 = h104 := rfl
theorem hn104 : h104.1 = 75 := rfl
theorem ht104 : am_add h104 100 6 (fun _ => none) = h105 := rfl
theorem ho105_59_30 : am_ob h105 59 9 30 = true := by decide +kernel
theorem ht105 : am_setR h105 59 30 75 = h106 := rfl
theorem hn106 : h106.1 = 76 := rfl
theorem ht106 : am_add h106 100 160 (fun _ => none) = h107 := rfl
theorem ho107_59_31 : am_ob h107 59 9 31 = true := by decide +kernel
theorem ht107 : am_setR h107 59 31 76 = h108 := rfl
theorem il4 : ((4 : Int32) < 0) = False := eq_false (by decide)
theorem ic4 : (4 : Int32).toNatClampNeg = 4 := by decide
theorem ib4 : ((4 : Nat) ≤ 60000000) = True := eq_true (by decide)
theorem il6 : ((6 : Int32) < 0) = False := eq_false (by decide)
theorem ic6 : (6 : Int32).toNatClampNeg = 6 := by decide
theorem ib6 : ((6 : Nat) ≤ 60000000) = True := eq_true (by decide)
theorem il7 : ((7 : Int32) < 0) = False := eq_false (by decide)
theorem ic7 : (7 : Int32).toNatClampNeg = 7 := by decide
theorem ib7 : ((7 : Nat) ≤ 60000000) = True := eq_true (by decide)
theorem il36 : ((36 : Int32) < 0) = False := eq_false (by decide)
theorem ic36 : (36 : Int32).toNatClampNeg = 36 := by decide
theorem ib36 : ((36 : Nat) ≤ 60000000) = True := eq_true (by decide)
theorem il40 : ((40 : Int32) < 0) = False := eq_false (by decide)
theorem ic40 : (40 : Int32).toNatClampNeg = 40 := by decide
theorem ib40 : ((40 : Nat) ≤ 60000000) = True := eq_true (by decide)
theorem il50 : ((50 : Int32) < 0) = False := eq_false (by decide)
theorem ic50 : (50 : Int32).toNatClampNeg = 50 := by decide
theorem ib50 : ((50 : Nat) ≤ 60000000) = True := eq_true (by decide)
theorem il60 : ((60 : Int32) < 0) = False := eq_false (by decide)
theorem ic60 : (60 : Int32).toNatClampNeg = 60 := by decide
theorem ib60 : ((60 : Nat) ≤ 60000000) = True := eq_true (by decide)
theorem il80 : ((80 : Int32) < 0) = False := eq_false (by decide)
theorem ic80 : (80 : Int32).toNatClampNeg = 80 := by decide
theorem ib80 : ((80 : Nat) ≤ 60000000) = True := eq_true (by decide)
theorem il120 : ((120 : Int32) < 0) = False := eq_false (by decide)
theorem ic120 : (120 : Int32).toNatClampNeg = 120 := by decide
theorem ib120 : ((120 : Nat) ≤ 60000000) = True := eq_true (by decide)
theorem il160 : ((160 : Int32) < 0) = False := eq_false (by decide)
theorem ic160 : (160 : Int32).toNatClampNeg = 160 := by decide
theorem ib160 : ((160 : Nat) ≤ 60000000) = True := eq_true (by decide)
theorem il240 : ((240 : Int32) < 0) = False := eq_false (by decide)
theorem ic240 : (240 : Int32).toNatClampNeg = 240 := by decide
theorem ib240 : ((240 : Nat) ≤ 60000000) = True := eq_true (by decide)
theorem il900 : ((900 : Int32) < 0) = False := eq_false (by decide)
theorem ic900 : (900 : Int32).toNatClampNeg = 900 := by decide
theorem ib900 : ((900 : Nat) ≤ 60000000) = True := eq_true (by decide)
theorem h_last : h108 = kS := by
  refine Prod.ext (by decide +kernel) (Prod.ext (by decide +kernel) (Prod.ext (funext fun b => ?_) (Prod.ext (funext fun b => ?_) (funext fun b => funext fun k => ?_))))
  · by_cases h : b < 77
    · exact (show ∀ b, b < 77 → h108.2.2.1 b = kS.2.2.1 b by decide +kernel) b h
    · rw [(hz108 b (by omega)).1]
      exact (gd_d _ _ (by show 77 ≤ b; omega)).symm
  · by_cases h : b < 77
    · exact (show ∀ b, b < 77 → h108.2.2.2.1 b = kS.2.2.2.1 b by decide +kernel) b h
    · rw [(hz108 b (by omega)).2.1]
      exact (gd_d _ _ (by show 77 ≤ b; omega)).symm
  · have d32 : ∀ b, (kRefL.getD b []).length ≤ 32 := fun b => by
      by_cases h : b < 77
      · exact (show ∀ b, b < 77 → (kRefL.getD b []).length ≤ 32 by decide +kernel) b h
      · rw [gd_d _ _ (by show 77 ≤ b; omega)]
        decide
    by_cases hk : k < 32
    · by_cases h : b < 77
      · exact (show ∀ b, b < 77 → ∀ k, k < 32 → h108.2.2.2.2 b k = kS.2.2.2.2 b k by decide +kernel) b h k hk
      · rw [(hz108 b (by omega)).2.2 k]
        show none = kRef b k
        unfold kRef
        rw [gd_d kRefL [] (by show 77 ≤ b; omega)]
        rfl
    · rw [hk108 b k (by omega)]
      show none = kRef b k
      unfold kRef
      rw [gd_d (kRefL.getD b []) 0 (by have := d32 b; omega)]
