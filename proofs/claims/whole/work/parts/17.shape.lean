/-! the cells as they lie once both objects are made; what is known of each -/
def kCls : List Nat := [8, 2, 100, 100, 101, 101, 5, 103, 100, 100, 100, 100, 100, 100, 102, 102, 100, 100, 3, 3, 3, 7, 100, 100, 0, 100, 100, 100, 100, 103, 100, 100, 100, 100, 100, 100, 6, 103, 100, 100, 100, 100, 103, 100, 100, 100, 100, 3, 1, 101, 4, 103, 100, 100, 100, 100, 100, 100, 3, 9, 100, 100, 100, 100, 100, 100, 100, 100, 100, 100, 100, 100, 101, 101, 100, 100, 100]
def kLenL : List Nat := [8, 5, 6, 6, 6, 6, 9, 6, 6, 6, 6, 6, 6, 6, 6, 6, 6, 6, 2, 2, 2, 5, 80, 40, 9, 120, 120, 120, 120, 4, 40, 40, 40, 40, 40, 40, 3, 4, 7, 7, 7, 7, 4, 7, 7, 7, 7, 2, 1, 900, 4, 4, 60, 60, 60, 60, 4, 4, 2, 32, 4, 4, 240, 60, 6, 36, 80, 50, 120, 120, 120, 160, 6, 6, 6, 6, 160]
def kRefL : List (List Nat) := [[2, 7, 22, 25, 37, 49, 51, 59], [3, 4, 5, 6], [], [], [], [], [8, 15, 16, 17, 18, 19, 20, 21], [9, 10, 11, 12, 13, 14], [], [], [], [], [], [], [], [], [], [], [], [], [], [23, 24], [], [], [26, 27, 28, 29, 30, 35, 36], [], [], [], [], [31, 32, 33, 34], [], [], [], [], [], [], [38, 43, 48], [39, 40, 41, 42], [], [], [], [], [44, 45, 46, 47], [], [], [], [], [], [50], [], [52, 57, 58], [53, 54, 55, 56], [], [], [], [], [], [], [], [61, 62, 63, 64, 0, 0, 65, 0, 66, 67, 0, 0, 0, 68, 0, 69, 70, 71, 0, 72, 0, 0, 73, 74, 0, 0, 75, 0, 0, 0, 76, 77], [], [], [], [], [], [], [], [], [], [], [], [], [], [], [], [], []]
def kRef (a k : Nat) : Option Nat := match (kRefL.getD a []).getD k 0 with
  | 0 => none
  | n + 1 => some n
def kS : am_Sh := (77, 3420, fun a => kCls.getD a 0, fun a => kLenL.getD a 0, kRef)
theorem s0 : am_is kS 0 8 = true := by decide
theorem s0_0 : am_ob kS 0 8 0 = true := by decide
theorem s0_1 : am_ob kS 0 8 1 = true := by decide
theorem s0_2 : am_ob kS 0 8 2 = true := by decide
theorem s0_3 : am_ob kS 0 8 3 = true := by decide
theorem s0_4 : am_ob kS 0 8 4 = true := by decide
theorem s0_5 : am_ob kS 0 8 5 = true := by decide
theorem s0_6 : am_ob kS 0 8 6 = true := by decide
theorem s0_7 : am_ob kS 0 8 7 = true := by decide
theorem r0_0 : am_rf kS 0 0 = 1 ∧ am_hs kS 0 0 = true := ⟨by decide, by decide⟩
theorem r0_1 : am_rf kS 0 1 = 6 ∧ am_hs kS 0 1 = true := ⟨by decide, by decide⟩
theorem r0_2 : am_rf kS 0 2 = 21 ∧ am_hs kS 0 2 = true := ⟨by decide, by decide⟩
theorem r0_3 : am_rf kS 0 3 = 24 ∧ am_hs kS 0 3 = true := ⟨by decide, by decide⟩
theorem r0_4 : am_rf kS 0 4 = 36 ∧ am_hs kS 0 4 = true := ⟨by decide, by decide⟩
theorem r0_5 : am_rf kS 0 5 = 48 ∧ am_hs kS 0 5 = true := ⟨by decide, by decide⟩
theorem r0_6 : am_rf kS 0 6 = 50 ∧ am_hs kS 0 6 = true := ⟨by decide, by decide⟩
theorem r0_7 : am_rf kS 0 7 = 58 ∧ am_hs kS 0 7 = true := ⟨by decide, by decide⟩
theorem s1 : am_is kS 1 2 = true := by decide
theorem s1_0 : am_ob kS 1 2 0 = true := by decide
theorem s1_1 : am_ob kS 1 2 1 = true := by decide
theorem s1_2 : am_ob kS 1 2 2 = true := by decide
theorem s1_3 : am_ob kS 1 2 3 = true := by decide
theorem s1_4 : am_ob kS 1 2 4 = true := by decide
theorem r1_0 : am_rf kS 1 0 = 2 ∧ am_hs kS 1 0 = true := ⟨by decide, by decide⟩
theorem r1_1 : am_rf kS 1 1 = 3 ∧ am_hs kS 1 1 = true := ⟨by decide, by decide⟩
theorem r1_2 : am_rf kS 1 2 = 4 ∧ am_hs kS 1 2 = true := ⟨by decide, by decide⟩
theorem r1_3 : am_rf kS 1 3 = 5 ∧ am_hs kS 1 3 = true := ⟨by decide, by decide⟩
theorem s2 : am_is kS 2 100 = true := by decide
theorem s3 : am_is kS 3 100 = true := by decide
theorem s4 : am_is kS 4 101 = true := by decide
theorem s5 : am_is kS 5 101 = true := by decide
theorem s6 : am_is kS 6 5 = true := by decide
theorem s6_0 : am_ob kS 6 5 0 = true := by decide
theorem s6_1 : am_ob kS 6 5 1 = true := by decide
theorem s6_2 : am_ob kS 6 5 2 = true := by decide
theorem s6_3 : am_ob kS 6 5 3 = true := by decide
theorem s6_4 : am_ob kS 6 5 4 = true := by decide
theorem s6_5 : am_ob kS 6 5 5 = true := by decide
theorem s6_6 : am_ob kS 6 5 6 = true := by decide
theorem s6_7 : am_ob kS 6 5 7 = true := by decide
theorem s6_8 : am_ob kS 6 5 8 = true := by decide
theorem r6_0 : am_rf kS 6 0 = 7 ∧ am_hs kS 6 0 = true := ⟨by decide, by decide⟩
theorem r6_1 : am_rf kS 6 1 = 14 ∧ am_hs kS 6 1 = true := ⟨by decide, by decide⟩
theorem r6_2 : am_rf kS 6 2 = 15 ∧ am_hs kS 6 2 = true := ⟨by decide, by decide⟩
theorem r6_3 : am_rf kS 6 3 = 16 ∧ am_hs kS 6 3 = true := ⟨by decide, by decide⟩
theorem r6_4 : am_rf kS 6 4 = 17 ∧ am_hs kS 6 4 = true := ⟨by decide, by decide⟩
theorem r6_5 : am_rf kS 6 5 = 18 ∧ am_hs kS 6 5 = true := ⟨by decide, by decide⟩
theorem r6_6 : am_rf kS 6 6 = 19 ∧ am_hs kS 6 6 = true := ⟨by decide, by decide⟩
theorem r6_7 : am_rf kS 6 7 = 20 ∧ am_hs kS 6 7 = true := ⟨by decide, by decide⟩
theorem s7 : am_is kS 7 103 = true := by decide
theorem r7 (k : Nat) (h : k < 6) : am_rf kS 7 k = 8 + k := by
  rcases (show k = 0 ∨ k = 1 ∨ k = 2 ∨ k = 3 ∨ k = 4 ∨ k = 5 by omega) with rfl | rfl | rfl | rfl | rfl | rfl <;> rfl
theorem t7 (k : Nat) (h : k < 6) : am_hs kS 7 k = true := by
  rcases (show k = 0 ∨ k = 1 ∨ k = 2 ∨ k = 3 ∨ k = 4 ∨ k = 5 by omega) with rfl | rfl | rfl | rfl | rfl | rfl <;> rfl
theorem s8 : am_is kS 8 100 = true := by decide
theorem s9 : am_is kS 9 100 = true := by decide
theorem s10 : am_is kS 10 100 = true := by decide
theorem s11 : am_is kS 11 100 = true := by decide
theorem s12 : am_is kS 12 100 = true := by decide
theorem s13 : am_is kS 13 100 = true := by decide
theorem s14 : am_is kS 14 102 = true := by decide
theorem s15 : am_is kS 15 102 = true := by decide
theorem s16 : am_is kS 16 100 = true := by decide
theorem s17 : am_is kS 17 100 = true := by decide
theorem s18 : am_is kS 18 3 = true := by decide
theorem s18_0 : am_ob kS 18 3 0 = true := by decide
theorem s18_1 : am_ob kS 18 3 1 = true := by decide
theorem s19 : am_is kS 19 3 = true := by decide
theorem s19_0 : am_ob kS 19 3 0 = true := by decide
theorem s19_1 : am_ob kS 19 3 1 = true := by decide
theorem s20 : am_is kS 20 3 = true := by decide
theorem s20_0 : am_ob kS 20 3 0 = true := by decide
theorem s20_1 : am_ob kS 20 3 1 = true := by decide
theorem s21 : am_is kS 21 7 = true := by decide
theorem s21_0 : am_ob kS 21 7 0 = true := by decide
theorem s21_1 : am_ob kS 21 7 1 = true := by decide
theorem s21_2 : am_ob kS 21 7 2 = true := by decide
theorem s21_3 : am_ob kS 21 7 3 = true := by decide
theorem s21_4 : am_ob kS 21 7 4 = true := by decide
theorem r21_0 : am_rf kS 21 0 = 22 ∧ am_hs kS 21 0 = true := ⟨by decide, by decide⟩
theorem r21_1 : am_rf kS 21 1 = 23 ∧ am_hs kS 21 1 = true := ⟨by decide, by decide⟩
theorem s22 : am_is kS 22 100 = true := by decide
theorem s23 : am_is kS 23 100 = true := by decide
theorem s24 : am_is kS 24 0 = true := by decide
theorem s24_0 : am_ob kS 24 0 0 = true := by decide
theorem s24_1 : am_ob kS 24 0 1 = true := by decide
theorem s24_2 : am_ob kS 24 0 2 = true := by decide
theorem s24_3 : am_ob kS 24 0 3 = true := by decide
theorem s24_4 : am_ob kS 24 0 4 = true := by decide
theorem s24_5 : am_ob kS 24 0 5 = true := by decide
theorem s24_6 : am_ob kS 24 0 6 = true := by decide
theorem s24_7 : am_ob kS 24 0 7 = true := by decide
theorem s24_8 : am_ob kS 24 0 8 = true := by decide
theorem r24_0 : am_rf kS 24 0 = 25 ∧ am_hs kS 24 0 = true := ⟨by decide, by decide⟩
theorem r24_1 : am_rf kS 24 1 = 26 ∧ am_hs kS 24 1 = true := ⟨by decide, by decide⟩
theorem r24_2 : am_rf kS 24 2 = 27 ∧ am_hs kS 24 2 = true := ⟨by decide, by decide⟩
theorem r24_3 : am_rf kS 24 3 = 28 ∧ am_hs kS 24 3 = true := ⟨by decide, by decide⟩
theorem r24_4 : am_rf kS 24 4 = 29 ∧ am_hs kS 24 4 = true := ⟨by decide, by decide⟩
theorem r24_5 : am_rf kS 24 5 = 34 ∧ am_hs kS 24 5 = true := ⟨by decide, by decide⟩
theorem r24_6 : am_rf kS 24 6 = 35 ∧ am_hs kS 24 6 = true := ⟨by decide, by decide⟩
theorem s25 : am_is kS 25 100 = true := by decide
theorem s26 : am_is kS 26 100 = true := by decide
theorem s27 : am_is kS 27 100 = true := by decide
theorem s28 : am_is kS 28 100 = true := by decide
theorem s29 : am_is kS 29 103 = true := by decide
theorem r29 (k : Nat) (h : k < 4) : am_rf kS 29 k = 30 + k := by
  rcases (show k = 0 ∨ k = 1 ∨ k = 2 ∨ k = 3 by omega) with rfl | rfl | rfl | rfl <;> rfl
theorem t29 (k : Nat) (h : k < 4) : am_hs kS 29 k = true := by
  rcases (show k = 0 ∨ k = 1 ∨ k = 2 ∨ k = 3 by omega) with rfl | rfl | rfl | rfl <;> rfl
theorem s30 : am_is kS 30 100 = true := by decide
theorem s31 : am_is kS 31 100 = true := by decide
theorem s32 : am_is kS 32 100 = true := by decide
theorem s33 : am_is kS 33 100 = true := by decide
theorem s34 : am_is kS 34 100 = true := by decide
theorem s35 : am_is kS 35 100 = true := by decide
theorem s36 : am_is kS 36 6 = true := by decide
theorem s36_0 : am_ob kS 36 6 0 = true := by decide
theorem s36_1 : am_ob kS 36 6 1 = true := by decide
theorem s36_2 : am_ob kS 36 6 2 = true := by decide
theorem r36_0 : am_rf kS 36 0 = 37 ∧ am_hs kS 36 0 = true := ⟨by decide, by decide⟩
theorem r36_1 : am_rf kS 36 1 = 42 ∧ am_hs kS 36 1 = true := ⟨by decide, by decide⟩
theorem r36_2 : am_rf kS 36 2 = 47 ∧ am_hs kS 36 2 = true := ⟨by decide, by decide⟩
theorem s37 : am_is kS 37 103 = true := by decide
theorem r37 (k : Nat) (h : k < 4) : am_rf kS 37 k = 38 + k := by
  rcases (show k = 0 ∨ k = 1 ∨ k = 2 ∨ k = 3 by omega) with rfl | rfl | rfl | rfl <;> rfl
theorem t37 (k : Nat) (h : k < 4) : am_hs kS 37 k = true := by
  rcases (show k = 0 ∨ k = 1 ∨ k = 2 ∨ k = 3 by omega) with rfl | rfl | rfl | rfl <;> rfl
theorem s38 : am_is kS 38 100 = true := by decide
theorem s39 : am_is kS 39 100 = true := by decide
theorem s40 : am_is kS 40 100 = true := by decide
theorem s41 : am_is kS 41 100 = true := by decide
theorem s42 : am_is kS 42 103 = true := by decide
theorem r42 (k : Nat) (h : k < 4) : am_rf kS 42 k = 43 + k := by
  rcases (show k = 0 ∨ k = 1 ∨ k = 2 ∨ k = 3 by omega) with rfl | rfl | rfl | rfl <;> rfl
theorem t42 (k : Nat) (h : k < 4) : am_hs kS 42 k = true := by
  rcases (show k = 0 ∨ k = 1 ∨ k = 2 ∨ k = 3 by omega) with rfl | rfl | rfl | rfl <;> rfl
theorem s43 : am_is kS 43 100 = true := by decide
theorem s44 : am_is kS 44 100 = true := by decide
theorem s45 : am_is kS 45 100 = true := by decide
theorem s46 : am_is kS 46 100 = true := by decide
theorem s47 : am_is kS 47 3 = true := by decide
theorem s47_0 : am_ob kS 47 3 0 = true := by decide
theorem s47_1 : am_ob kS 47 3 1 = true := by decide
theorem s48 : am_is kS 48 1 = true := by decide
theorem s48_0 : am_ob kS 48 1 0 = true := by decide
theorem r48_0 : am_rf kS 48 0 = 49 ∧ am_hs kS 48 0 = true := ⟨by decide, by decide⟩
theorem s49 : am_is kS 49 101 = true := by decide
theorem s50 : am_is kS 50 4 = true := by decide
theorem s50_0 : am_ob kS 50 4 0 = true := by decide
theorem s50_1 : am_ob kS 50 4 1 = true := by decide
theorem s50_2 : am_ob kS 50 4 2 = true := by decide
theorem s50_3 : am_ob kS 50 4 3 = true := by decide
theorem r50_0 : am_rf kS 50 0 = 51 ∧ am_hs kS 50 0 = true := ⟨by decide, by decide⟩
theorem r50_1 : am_rf kS 50 1 = 56 ∧ am_hs kS 50 1 = true := ⟨by decide, by decide⟩
theorem r50_2 : am_rf kS 50 2 = 57 ∧ am_hs kS 50 2 = true := ⟨by decide, by decide⟩
theorem s51 : am_is kS 51 103 = true := by decide
theorem r51 (k : Nat) (h : k < 4) : am_rf kS 51 k = 52 + k := by
  rcases (show k = 0 ∨ k = 1 ∨ k = 2 ∨ k = 3 by omega) with rfl | rfl | rfl | rfl <;> rfl
theorem t51 (k : Nat) (h : k < 4) : am_hs kS 51 k = true := by
  rcases (show k = 0 ∨ k = 1 ∨ k = 2 ∨ k = 3 by omega) with rfl | rfl | rfl | rfl <;> rfl
theorem s52 : am_is kS 52 100 = true := by decide
theorem s53 : am_is kS 53 100 = true := by decide
theorem s54 : am_is kS 54 100 = true := by decide
theorem s55 : am_is kS 55 100 = true := by decide
theorem s56 : am_is kS 56 100 = true := by decide
theorem s57 : am_is kS 57 100 = true := by decide
theorem s58 : am_is kS 58 3 = true := by decide
theorem s58_0 : am_ob kS 58 3 0 = true := by decide
theorem s58_1 : am_ob kS 58 3 1 = true := by decide
theorem s59 : am_is kS 59 9 = true := by decide
theorem s59_0 : am_ob kS 59 9 0 = true := by decide
theorem s59_1 : am_ob kS 59 9 1 = true := by decide
theorem s59_2 : am_ob kS 59 9 2 = true := by decide
theorem s59_3 : am_ob kS 59 9 3 = true := by decide
theorem s59_4 : am_ob kS 59 9 4 = true := by decide
theorem s59_5 : am_ob kS 59 9 5 = true := by decide
theorem s59_6 : am_ob kS 59 9 6 = true := by decide
theorem s59_7 : am_ob kS 59 9 7 = true := by decide
theorem s59_8 : am_ob kS 59 9 8 = true := by decide
theorem s59_9 : am_ob kS 59 9 9 = true := by decide
theorem s59_10 : am_ob kS 59 9 10 = true := by decide
theorem s59_11 : am_ob kS 59 9 11 = true := by decide
theorem s59_12 : am_ob kS 59 9 12 = true := by decide
theorem s59_13 : am_ob kS 59 9 13 = true := by decide
theorem s59_14 : am_ob kS 59 9 14 = true := by decide
theorem s59_15 : am_ob kS 59 9 15 = true := by decide
theorem s59_16 : am_ob kS 59 9 16 = true := by decide
theorem s59_17 : am_ob kS 59 9 17 = true := by decide
theorem s59_18 : am_ob kS 59 9 18 = true := by decide
theorem s59_19 : am_ob kS 59 9 19 = true := by decide
theorem s59_20 : am_ob kS 59 9 20 = true := by decide
theorem s59_21 : am_ob kS 59 9 21 = true := by decide
theorem s59_22 : am_ob kS 59 9 22 = true := by decide
theorem s59_23 : am_ob kS 59 9 23 = true := by decide
theorem s59_24 : am_ob kS 59 9 24 = true := by decide
theorem s59_25 : am_ob kS 59 9 25 = true := by decide
theorem s59_26 : am_ob kS 59 9 26 = true := by decide
theorem s59_27 : am_ob kS 59 9 27 = true := by decide
theorem s59_28 : am_ob kS 59 9 28 = true := by decide
theorem s59_29 : am_ob kS 59 9 29 = true := by decide
theorem s59_30 : am_ob kS 59 9 30 = true := by decide
theorem s59_31 : am_ob kS 59 9 31 = true := by decide
theorem r59_0 : am_rf kS 59 0 = 60 ∧ am_hs kS 59 0 = true := ⟨by decide, by decide⟩
theorem r59_1 : am_rf kS 59 1 = 61 ∧ am_hs kS 59 1 = true := ⟨by decide, by decide⟩
theorem r59_2 : am_rf kS 59 2 = 62 ∧ am_hs kS 59 2 = true := ⟨by decide, by decide⟩
theorem r59_3 : am_rf kS 59 3 = 63 ∧ am_hs kS 59 3 = true := ⟨by decide, by decide⟩
theorem r59_6 : am_rf kS 59 6 = 64 ∧ am_hs kS 59 6 = true := ⟨by decide, by decide⟩
theorem r59_8 : am_rf kS 59 8 = 65 ∧ am_hs kS 59 8 = true := ⟨by decide, by decide⟩
theorem r59_9 : am_rf kS 59 9 = 66 ∧ am_hs kS 59 9 = true := ⟨by decide, by decide⟩
theorem r59_13 : am_rf kS 59 13 = 67 ∧ am_hs kS 59 13 = true := ⟨by decide, by decide⟩
theorem r59_15 : am_rf kS 59 15 = 68 ∧ am_hs kS 59 15 = true := ⟨by decide, by decide⟩
theorem r59_16 : am_rf kS 59 16 = 69 ∧ am_hs kS 59 16 = true := ⟨by decide, by decide⟩
theorem r59_17 : am_rf kS 59 17 = 70 ∧ am_hs kS 59 17 = true := ⟨by decide, by decide⟩
theorem r59_19 : am_rf kS 59 19 = 71 ∧ am_hs kS 59 19 = true := ⟨by decide, by decide⟩
theorem r59_22 : am_rf kS 59 22 = 72 ∧ am_hs kS 59 22 = true := ⟨by decide, by decide⟩
theorem r59_23 : am_rf kS 59 23 = 73 ∧ am_hs kS 59 23 = true := ⟨by decide, by decide⟩
theorem r59_26 : am_rf kS 59 26 = 74 ∧ am_hs kS 59 26 = true := ⟨by decide, by decide⟩
theorem r59_30 : am_rf kS 59 30 = 75 ∧ am_hs kS 59 30 = true := ⟨by decide, by decide⟩
theorem r59_31 : am_rf kS 59 31 = 76 ∧ am_hs kS 59 31 = true := ⟨by decide, by decide⟩
theorem s60 : am_is kS 60 100 = true := by decide
theorem s61 : am_is kS 61 100 = true := by decide
theorem s62 : am_is kS 62 100 = true := by decide
theorem s63 : am_is kS 63 100 = true := by decide
theorem s64 : am_is kS 64 100 = true := by decide
theorem s65 : am_is kS 65 100 = true := by decide
theorem s66 : am_is kS 66 100 = true := by decide
theorem s67 : am_is kS 67 100 = true := by decide
theorem s68 : am_is kS 68 100 = true := by decide
theorem s69 : am_is kS 69 100 = true := by decide
theorem s70 : am_is kS 70 100 = true := by decide
theorem s71 : am_is kS 71 100 = true := by decide
theorem s72 : am_is kS 72 101 = true := by decide
theorem s73 : am_is kS 73 101 = true := by decide
theorem s74 : am_is kS 74 100 = true := by decide
theorem s75 : am_is kS 75 100 = true := by decide
theorem s76 : am_is kS 76 100 = true := by decide
theorem ar_nI {a c n k : Nat} (h : am_is kS a c = true) (hn : kS.2.2.2.1 a = n) (hk : k < n) (hb : n < 2 ^ 31) : am_ar kS a c (nI k) = true := by
  simp only [am_is, Bool.and_eq_true, decide_eq_true_eq, beq_iff_eq] at h
  unfold am_ar
  rw [nI_clamp (by omega)]
  simp only [Bool.and_eq_true, decide_eq_true_eq, beq_iff_eq, Bool.not_eq_true', decide_eq_false_iff_not]
  exact ⟨⟨⟨h.1, h.2⟩, nI_pos (by omega)⟩, by rw [hn]; exact hk⟩
theorem a2 {k : Nat} (h : k < 6) : am_ar kS 2 100 (nI k) = true := ar_nI (n := 6) s2 rfl h (by decide)
theorem a3 {k : Nat} (h : k < 6) : am_ar kS 3 100 (nI k) = true := ar_nI (n := 6) s3 rfl h (by decide)
theorem a4 {k : Nat} (h : k < 6) : am_ar kS 4 101 (nI k) = true := ar_nI (n := 6) s4 rfl h (by decide)
theorem a5 {k : Nat} (h : k < 6) : am_ar kS 5 101 (nI k) = true := ar_nI (n := 6) s5 rfl h (by decide)
theorem a7 {k : Nat} (h : k < 6) : am_ar kS 7 103 (nI k) = true := ar_nI (n := 6) s7 rfl h (by decide)
theorem a8 {k : Nat} (h : k < 6) : am_ar kS 8 100 (nI k) = true := ar_nI (n := 6) s8 rfl h (by decide)
theorem a9 {k : Nat} (h : k < 6) : am_ar kS 9 100 (nI k) = true := ar_nI (n := 6) s9 rfl h (by decide)
theorem a10 {k : Nat} (h : k < 6) : am_ar kS 10 100 (nI k) = true := ar_nI (n := 6) s10 rfl h (by decide)
theorem a11 {k : Nat} (h : k < 6) : am_ar kS 11 100 (nI k) = true := ar_nI (n := 6) s11 rfl h (by decide)
theorem a12 {k : Nat} (h : k < 6) : am_ar kS 12 100 (nI k) = true := ar_nI (n := 6) s12 rfl h (by decide)
theorem a13 {k : Nat} (h : k < 6) : am_ar kS 13 100 (nI k) = true := ar_nI (n := 6) s13 rfl h (by decide)
theorem a14 {k : Nat} (h : k < 6) : am_ar kS 14 102 (nI k) = true := ar_nI (n := 6) s14 rfl h (by decide)
theorem a15 {k : Nat} (h : k < 6) : am_ar kS 15 102 (nI k) = true := ar_nI (n := 6) s15 rfl h (by decide)
theorem a16 {k : Nat} (h : k < 6) : am_ar kS 16 100 (nI k) = true := ar_nI (n := 6) s16 rfl h (by decide)
theorem a17 {k : Nat} (h : k < 6) : am_ar kS 17 100 (nI k) = true := ar_nI (n := 6) s17 rfl h (by decide)
theorem a22 {k : Nat} (h : k < 80) : am_ar kS 22 100 (nI k) = true := ar_nI (n := 80) s22 rfl h (by decide)
theorem a23 {k : Nat} (h : k < 40) : am_ar kS 23 100 (nI k) = true := ar_nI (n := 40) s23 rfl h (by decide)
theorem a25 {k : Nat} (h : k < 120) : am_ar kS 25 100 (nI k) = true := ar_nI (n := 120) s25 rfl h (by decide)
theorem a26 {k : Nat} (h : k < 120) : am_ar kS 26 100 (nI k) = true := ar_nI (n := 120) s26 rfl h (by decide)
theorem a27 {k : Nat} (h : k < 120) : am_ar kS 27 100 (nI k) = true := ar_nI (n := 120) s27 rfl h (by decide)
theorem a28 {k : Nat} (h : k < 120) : am_ar kS 28 100 (nI k) = true := ar_nI (n := 120) s28 rfl h (by decide)
theorem a29 {k : Nat} (h : k < 4) : am_ar kS 29 103 (nI k) = true := ar_nI (n := 4) s29 rfl h (by decide)
theorem a30 {k : Nat} (h : k < 40) : am_ar kS 30 100 (nI k) = true := ar_nI (n := 40) s30 rfl h (by decide)
theorem a31 {k : Nat} (h : k < 40) : am_ar kS 31 100 (nI k) = true := ar_nI (n := 40) s31 rfl h (by decide)
theorem a32 {k : Nat} (h : k < 40) : am_ar kS 32 100 (nI k) = true := ar_nI (n := 40) s32 rfl h (by decide)
theorem a33 {k : Nat} (h : k < 40) : am_ar kS 33 100 (nI k) = true := ar_nI (n := 40) s33 rfl h (by decide)
theorem a34 {k : Nat} (h : k < 40) : am_ar kS 34 100 (nI k) = true := ar_nI (n := 40) s34 rfl h (by decide)
theorem a35 {k : Nat} (h : k < 40) : am_ar kS 35 100 (nI k) = true := ar_nI (n := 40) s35 rfl h (by decide)
theorem a37 {k : Nat} (h : k < 4) : am_ar kS 37 103 (nI k) = true := ar_nI (n := 4) s37 rfl h (by decide)
theorem a38 {k : Nat} (h : k < 7) : am_ar kS 38 100 (nI k) = true := ar_nI (n := 7) s38 rfl h (by decide)
theorem a39 {k : Nat} (h : k < 7) : am_ar kS 39 100 (nI k) = true := ar_nI (n := 7) s39 rfl h (by decide)
theorem a40 {k : Nat} (h : k < 7) : am_ar kS 40 100 (nI k) = true := ar_nI (n := 7) s40 rfl h (by decide)
theorem a41 {k : Nat} (h : k < 7) : am_ar kS 41 100 (nI k) = true := ar_nI (n := 7) s41 rfl h (by decide)
theorem a42 {k : Nat} (h : k < 4) : am_ar kS 42 103 (nI k) = true := ar_nI (n := 4) s42 rfl h (by decide)
theorem a43 {k : Nat} (h : k < 7) : am_ar kS 43 100 (nI k) = true := ar_nI (n := 7) s43 rfl h (by decide)
theorem a44 {k : Nat} (h : k < 7) : am_ar kS 44 100 (nI k) = true := ar_nI (n := 7) s44 rfl h (by decide)
theorem a45 {k : Nat} (h : k < 7) : am_ar kS 45 100 (nI k) = true := ar_nI (n := 7) s45 rfl h (by decide)
theorem a46 {k : Nat} (h : k < 7) : am_ar kS 46 100 (nI k) = true := ar_nI (n := 7) s46 rfl h (by decide)
theorem a49 {k : Nat} (h : k < 900) : am_ar kS 49 101 (nI k) = true := ar_nI (n := 900) s49 rfl h (by decide)
theorem a51 {k : Nat} (h : k < 4) : am_ar kS 51 103 (nI k) = true := ar_nI (n := 4) s51 rfl h (by decide)
theorem a52 {k : Nat} (h : k < 60) : am_ar kS 52 100 (nI k) = true := ar_nI (n := 60) s52 rfl h (by decide)
theorem a53 {k : Nat} (h : k < 60) : am_ar kS 53 100 (nI k) = true := ar_nI (n := 60) s53 rfl h (by decide)
theorem a54 {k : Nat} (h : k < 60) : am_ar kS 54 100 (nI k) = true := ar_nI (n := 60) s54 rfl h (by decide)
theorem a55 {k : Nat} (h : k < 60) : am_ar kS 55 100 (nI k) = true := ar_nI (n := 60) s55 rfl h (by decide)
theorem a56 {k : Nat} (h : k < 4) : am_ar kS 56 100 (nI k) = true := ar_nI (n := 4) s56 rfl h (by decide)
theorem a57 {k : Nat} (h : k < 4) : am_ar kS 57 100 (nI k) = true := ar_nI (n := 4) s57 rfl h (by decide)
theorem a60 {k : Nat} (h : k < 4) : am_ar kS 60 100 (nI k) = true := ar_nI (n := 4) s60 rfl h (by decide)
theorem a61 {k : Nat} (h : k < 4) : am_ar kS 61 100 (nI k) = true := ar_nI (n := 4) s61 rfl h (by decide)
theorem a62 {k : Nat} (h : k < 240) : am_ar kS 62 100 (nI k) = true := ar_nI (n := 240) s62 rfl h (by decide)
theorem a63 {k : Nat} (h : k < 60) : am_ar kS 63 100 (nI k) = true := ar_nI (n := 60) s63 rfl h (by decide)
theorem a64 {k : Nat} (h : k < 6) : am_ar kS 64 100 (nI k) = true := ar_nI (n := 6) s64 rfl h (by decide)
theorem a65 {k : Nat} (h : k < 36) : am_ar kS 65 100 (nI k) = true := ar_nI (n := 36) s65 rfl h (by decide)
theorem a66 {k : Nat} (h : k < 80) : am_ar kS 66 100 (nI k) = true := ar_nI (n := 80) s66 rfl h (by decide)
theorem a67 {k : Nat} (h : k < 50) : am_ar kS 67 100 (nI k) = true := ar_nI (n := 50) s67 rfl h (by decide)
theorem a68 {k : Nat} (h : k < 120) : am_ar kS 68 100 (nI k) = true := ar_nI (n := 120) s68 rfl h (by decide)
theorem a69 {k : Nat} (h : k < 120) : am_ar kS 69 100 (nI k) = true := ar_nI (n := 120) s69 rfl h (by decide)
theorem a70 {k : Nat} (h : k < 120) : am_ar kS 70 100 (nI k) = true := ar_nI (n := 120) s70 rfl h (by decide)
theorem a71 {k : Nat} (h : k < 160) : am_ar kS 71 100 (nI k) = true := ar_nI (n := 160) s71 rfl h (by decide)
theorem a72 {k : Nat} (h : k < 6) : am_ar kS 72 101 (nI k) = true := ar_nI (n := 6) s72 rfl h (by decide)
theorem a73 {k : Nat} (h : k < 6) : am_ar kS 73 101 (nI k) = true := ar_nI (n := 6) s73 rfl h (by decide)
theorem a74 {k : Nat} (h : k < 6) : am_ar kS 74 100 (nI k) = true := ar_nI (n := 6) s74 rfl h (by decide)
theorem a75 {k : Nat} (h : k < 6) : am_ar kS 75 100 (nI k) = true := ar_nI (n := 6) s75 rfl h (by decide)
theorem a76 {k : Nat} (h : k < 160) : am_ar kS 76 100 (nI k) = true := ar_nI (n := 160) s76 rfl h (by decide)
theorem g7 {t k : Nat} (ht : t < 6) (hk : k < 6) : am_ar kS (8 + t) 100 (nI k) = true := by
  rcases (show t = 0 ∨ t = 1 ∨ t = 2 ∨ t = 3 ∨ t = 4 ∨ t = 5 by omega) with rfl | rfl | rfl | rfl | rfl | rfl <;> exact ar_nI (n := 6) rfl rfl hk (by decide)
theorem gl7 {t : Nat} (ht : t < 6) : kS.2.2.2.1 (8 + t) = 6 := by
  rcases (show t = 0 ∨ t = 1 ∨ t = 2 ∨ t = 3 ∨ t = 4 ∨ t = 5 by omega) with rfl | rfl | rfl | rfl | rfl | rfl <;> rfl
theorem gi7 {t : Nat} (ht : t < 6) : am_is kS (8 + t) 100 = true := by
  rcases (show t = 0 ∨ t = 1 ∨ t = 2 ∨ t = 3 ∨ t = 4 ∨ t = 5 by omega) with rfl | rfl | rfl | rfl | rfl | rfl <;> rfl
theorem g29 {t k : Nat} (ht : t < 4) (hk : k < 40) : am_ar kS (30 + t) 100 (nI k) = true := by
  rcases (show t = 0 ∨ t = 1 ∨ t = 2 ∨ t = 3 by omega) with rfl | rfl | rfl | rfl <;> exact ar_nI (n := 40) rfl rfl hk (by decide)
theorem gl29 {t : Nat} (ht : t < 4) : kS.2.2.2.1 (30 + t) = 40 := by
  rcases (show t = 0 ∨ t = 1 ∨ t = 2 ∨ t = 3 by omega) with rfl | rfl | rfl | rfl <;> rfl
theorem gi29 {t : Nat} (ht : t < 4) : am_is kS (30 + t) 100 = true := by
  rcases (show t = 0 ∨ t = 1 ∨ t = 2 ∨ t = 3 by omega) with rfl | rfl | rfl | rfl <;> rfl
theorem g37 {t k : Nat} (ht : t < 4) (hk : k < 7) : am_ar kS (38 + t) 100 (nI k) = true := by
  rcases (show t = 0 ∨ t = 1 ∨ t = 2 ∨ t = 3 by omega) with rfl | rfl | rfl | rfl <;> exact ar_nI (n := 7) rfl rfl hk (by decide)
theorem gl37 {t : Nat} (ht : t < 4) : kS.2.2.2.1 (38 + t) = 7 := by
  rcases (show t = 0 ∨ t = 1 ∨ t = 2 ∨ t = 3 by omega) with rfl | rfl | rfl | rfl <;> rfl
theorem gi37 {t : Nat} (ht : t < 4) : am_is kS (38 + t) 100 = true := by
  rcases (show t = 0 ∨ t = 1 ∨ t = 2 ∨ t = 3 by omega) with rfl | rfl | rfl | rfl <;> rfl
theorem g42 {t k : Nat} (ht : t < 4) (hk : k < 7) : am_ar kS (43 + t) 100 (nI k) = true := by
  rcases (show t = 0 ∨ t = 1 ∨ t = 2 ∨ t = 3 by omega) with rfl | rfl | rfl | rfl <;> exact ar_nI (n := 7) rfl rfl hk (by decide)
theorem gl42 {t : Nat} (ht : t < 4) : kS.2.2.2.1 (43 + t) = 7 := by
  rcases (show t = 0 ∨ t = 1 ∨ t = 2 ∨ t = 3 by omega) with rfl | rfl | rfl | rfl <;> rfl
theorem gi42 {t : Nat} (ht : t < 4) : am_is kS (43 + t) 100 = true := by
  rcases (show t = 0 ∨ t = 1 ∨ t = 2 ∨ t = 3 by omega) with rfl | rfl | rfl | rfl <;> rfl
theorem g51 {t k : Nat} (ht : t < 4) (hk : k < 60) : am_ar kS (52 + t) 100 (nI k) = true := by
  rcases (show t = 0 ∨ t = 1 ∨ t = 2 ∨ t = 3 by omega) with rfl | rfl | rfl | rfl <;> exact ar_nI (n := 60) rfl rfl hk (by decide)
theorem gl51 {t : Nat} (ht : t < 4) : kS.2.2.2.1 (52 + t) = 60 := by
  rcases (show t = 0 ∨ t = 1 ∨ t = 2 ∨ t = 3 by omega) with rfl | rfl | rfl | rfl <;> rfl
theorem gi51 {t : Nat} (ht : t < 4) : am_is kS (52 + t) 100 = true := by
  rcases (show t = 0 ∨ t = 1 ∨ t = 2 ∨ t = 3 by omega) with rfl | rfl | rfl | rfl <;> rfl
