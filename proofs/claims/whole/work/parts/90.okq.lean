/-! every method is as the runs ask -/
def kP (mi : Nat) (mt : am_Mt) : Prop := (plainName mt.1.cls = true ∨ ((mi = 215 ∧ mt = kM215) ∨ (mi = 216 ∧ mt = kM216) ∨ (mi = 217 ∧ mt = kM217) ∨ (mi = 218 ∧ mt = kM218))) ∧ (∀ (pc : Nat) (i : am_I), mt.2.2.2.2.2 pc = some i → am_ok lw_tbl kCl kTy kG mt.1 mt.2.1 mt.2.2.2.1 mt.2.2.2.2.1 pc i = true) ∧ ∀ (pc : Nat) (i : am_I), mt.2.2.2.2.2 pc = some i → i.2.2.getD 0 0 = 215 → 21 ≤ mt.2.2.2.2.1.2
def kF (P : Nat → am_Mt → Prop) : Nat → List am_Mt → Prop
  | _, [] => True
  | k, a :: l => P k a ∧ kF P (k + 1) l
theorem kF_c {P : Nat → am_Mt → Prop} {k : Nat} {a : am_Mt} {l : List am_Mt} (h : P k a) (t : kF P (k + 1) l) : kF P k (a :: l) := ⟨h, t⟩
theorem kF_get {P : Nat → am_Mt → Prop} : ∀ {l : List am_Mt} {k i : Nat} {x : am_Mt}, kF P k l → l[i]? = some x → P (k + i) x
  | [], _, i, _, _, h => by simp at h
  | a :: l, k, 0, x, h, e => by
    have e2 : a = x := by simpa using e
    subst e2
    exact h.1
  | a :: l, k, i + 1, x, h, e => by
    have e2 : l[i]? = some x := by simpa using e
    have z := kF_get h.2 e2
    rw [show k + (i + 1) = k + 1 + i from by omega]
    exact z
theorem kv_of {l : List (Nat × List (Nat × am_I))} {n : Nat} (h : (l.all fun c => c.2.all fun q => !(q.2.2.2.getD 0 0 == 215)) = true) (pc : Nat) (i : am_I) (g : kLks l pc = some i) (e : i.2.2.getD 0 0 = 215) : 21 ≤ n := by
  obtain ⟨c, h1, h2⟩ := kLks_mem g
  have z1 := List.all_eq_true.mp h c h1
  have z2 := List.all_eq_true.mp z1 (pc, i) h2
  have z3 : (!(i.2.2.getD 0 0 == 215)) = true := z2
  rw [e] at z3
  cases z3
theorem kp0 : kP 0 kM0 := ⟨Or.inl kq0.1, kq0.2, fun _ _ _ _ => (by decide : 21 ≤ 192)⟩
theorem kp1 : kP 1 kM1 := ⟨Or.inl kq1.1, kq1.2, fun _ _ _ _ => (by decide : 21 ≤ 23)⟩
theorem kp2 : kP 2 kM2 := ⟨Or.inl kq2.1, kq2.2, kv_of (l := km2) (by decide +kernel)⟩
theorem kp3 : kP 3 kM3 := ⟨Or.inl kq3.1, kq3.2, kv_of (l := km3) (by decide +kernel)⟩
theorem kp4 : kP 4 kM4 := ⟨Or.inl kq4.1, kq4.2, kv_of (l := km4) (by decide +kernel)⟩
theorem kp5 : kP 5 kM5 := ⟨Or.inl kq5.1, kq5.2, kv_of (l := km5) (by decide +kernel)⟩
theorem kp6 : kP 6 kM6 := ⟨Or.inl kq6.1, kq6.2, fun _ _ _ _ => (by decide : 21 ≤ 47)⟩
theorem kp7 : kP 7 kM7 := ⟨Or.inl kq7.1, kq7.2, fun _ _ _ _ => (by decide : 21 ≤ 47)⟩
theorem kp8 : kP 8 kM8 := ⟨Or.inl kq8.1, kq8.2, kv_of (l := km8) (by decide +kernel)⟩
theorem kp9 : kP 9 kM9 := ⟨Or.inl kq9.1, kq9.2, fun _ _ _ _ => (by decide : 21 ≤ 47)⟩
theorem kp10 : kP 10 kM10 := ⟨Or.inl kq10.1, kq10.2, fun _ _ _ _ => (by decide : 21 ≤ 23)⟩
theorem kp11 : kP 11 kM11 := ⟨Or.inl kq11.1, kq11.2, kv_of (l := km11) (by decide +kernel)⟩
theorem kp12 : kP 12 kM12 := ⟨Or.inl kq12.1, kq12.2, kv_of (l := km12) (by decide +kernel)⟩
theorem kp13 : kP 13 kM13 := ⟨Or.inl kq13.1, kq13.2, fun _ _ _ _ => (by decide : 21 ≤ 22)⟩
theorem kp14 : kP 14 kM14 := ⟨Or.inl kq14.1, kq14.2, fun _ _ _ _ => (by decide : 21 ≤ 46)⟩
theorem kp15 : kP 15 kM15 := ⟨Or.inl kq15.1, kq15.2, fun _ _ _ _ => (by decide : 21 ≤ 74)⟩
theorem kp16 : kP 16 kM16 := ⟨Or.inl kq16.1, kq16.2, fun _ _ _ _ => (by decide : 21 ≤ 74)⟩
theorem kp17 : kP 17 kM17 := ⟨Or.inl kq17.1, kq17.2, fun _ _ _ _ => (by decide : 21 ≤ 76)⟩
theorem kp18 : kP 18 kM18 := ⟨Or.inl kq18.1, kq18.2, fun _ _ _ _ => (by decide : 21 ≤ 46)⟩
theorem kp19 : kP 19 kM19 := ⟨Or.inl kq19.1, kq19.2, kv_of (l := km19) (by decide +kernel)⟩
theorem kp20 : kP 20 kM20 := ⟨Or.inl kq20.1, kq20.2, fun _ _ _ _ => (by decide : 21 ≤ 21)⟩
theorem kp21 : kP 21 kM21 := ⟨Or.inl kq21.1, kq21.2, kv_of (l := km21) (by decide +kernel)⟩
theorem kp22 : kP 22 kM22 := ⟨Or.inl kq22.1, kq22.2, kv_of (l := km22) (by decide +kernel)⟩
theorem kp23 : kP 23 kM23 := ⟨Or.inl kq23.1, kq23.2, kv_of (l := km23) (by decide +kernel)⟩
theorem kp24 : kP 24 kM24 := ⟨Or.inl kq24.1, kq24.2, kv_of (l := km24) (by decide +kernel)⟩
theorem kp25 : kP 25 kM25 := ⟨Or.inl kq25.1, kq25.2, kv_of (l := km25) (by decide +kernel)⟩
theorem kp26 : kP 26 kM26 := ⟨Or.inl kq26.1, kq26.2, fun _ _ _ _ => (by decide : 21 ≤ 23)⟩
theorem kp27 : kP 27 kM27 := ⟨Or.inl kq27.1, kq27.2, fun _ _ _ _ => (by decide : 21 ≤ 45)⟩
theorem kp28 : kP 28 kM28 := ⟨Or.inl kq28.1, kq28.2, fun _ _ _ _ => (by decide : 21 ≤ 23)⟩
theorem kp29 : kP 29 kM29 := ⟨Or.inl kq29.1, kq29.2, kv_of (l := km29) (by decide +kernel)⟩
theorem kp30 : kP 30 kM30 := ⟨Or.inl kq30.1, kq30.2, kv_of (l := km30) (by decide +kernel)⟩
theorem kp31 : kP 31 kM31 := ⟨Or.inl kq31.1, kq31.2, kv_of (l := km31) (by decide +kernel)⟩
theorem kp32 : kP 32 kM32 := ⟨Or.inl kq32.1, kq32.2, kv_of (l := km32) (by decide +kernel)⟩
theorem kp33 : kP 33 kM33 := ⟨Or.inl kq33.1, kq33.2, kv_of (l := km33) (by decide +kernel)⟩
theorem kp34 : kP 34 kM34 := ⟨Or.inl kq34.1, kq34.2, fun _ _ _ _ => (by decide : 21 ≤ 31)⟩
theorem kp35 : kP 35 kM35 := ⟨Or.inl kq35.1, kq35.2, fun _ _ _ _ => (by decide : 21 ≤ 31)⟩
theorem kp36 : kP 36 kM36 := ⟨Or.inl kq36.1, kq36.2, kv_of (l := km36) (by decide +kernel)⟩
theorem kp37 : kP 37 kM37 := ⟨Or.inl kq37.1, kq37.2, kv_of (l := km37) (by decide +kernel)⟩
theorem kp38 : kP 38 kM38 := ⟨Or.inl kq38.1, kq38.2, kv_of (l := km38) (by decide +kernel)⟩
theorem kp39 : kP 39 kM39 := ⟨Or.inl kq39.1, kq39.2, fun _ _ _ _ => (by decide : 21 ≤ 23)⟩
theorem kp40 : kP 40 kM40 := ⟨Or.inl kq40.1, kq40.2, kv_of (l := km40) (by decide +kernel)⟩
theorem kp41 : kP 41 kM41 := ⟨Or.inl kq41.1, kq41.2, kv_of (l := km41) (by decide +kernel)⟩
theorem kp42 : kP 42 kM42 := ⟨Or.inl kq42.1, kq42.2, kv_of (l := km42) (by decide +kernel)⟩
theorem kp43 : kP 43 kM43 := ⟨Or.inl kq43.1, kq43.2, kv_of (l := km43) (by decide +kernel)⟩
theorem kp44 : kP 44 kM44 := ⟨Or.inl kq44.1, kq44.2, kv_of (l := km44) (by decide +kernel)⟩
theorem kp45 : kP 45 kM45 := ⟨Or.inl kq45.1, kq45.2, fun _ _ _ _ => (by decide : 21 ≤ 23)⟩
theorem kp46 : kP 46 kM46 := ⟨Or.inl kq46.1, kq46.2, kv_of (l := km46) (by decide +kernel)⟩
theorem kp47 : kP 47 kM47 := ⟨Or.inl kq47.1, kq47.2, fun _ _ _ _ => (by decide : 21 ≤ 21)⟩
theorem kp48 : kP 48 kM48 := ⟨Or.inl kq48.1, kq48.2, kv_of (l := km48) (by decide +kernel)⟩
theorem kp49 : kP 49 kM49 := ⟨Or.inl kq49.1, kq49.2, fun _ _ _ _ => (by decide : 21 ≤ 21)⟩
theorem kp50 : kP 50 kM50 := ⟨Or.inl kq50.1, kq50.2, fun _ _ _ _ => (by decide : 21 ≤ 21)⟩
theorem kp51 : kP 51 kM51 := ⟨Or.inl kq51.1, kq51.2, fun _ _ _ _ => (by decide : 21 ≤ 26)⟩
theorem kp52 : kP 52 kM52 := ⟨Or.inl kq52.1, kq52.2, fun _ _ _ _ => (by decide : 21 ≤ 40)⟩
theorem kp53 : kP 53 kM53 := ⟨Or.inl kq53.1, kq53.2, kv_of (l := km53) (by decide +kernel)⟩
theorem kp54 : kP 54 kM54 := ⟨Or.inl kq54.1, kq54.2, kv_of (l := km54) (by decide +kernel)⟩
theorem kp55 : kP 55 kM55 := ⟨Or.inl kq55.1, kq55.2, kv_of (l := km55) (by decide +kernel)⟩
theorem kp56 : kP 56 kM56 := ⟨Or.inl kq56.1, kq56.2, kv_of (l := km56) (by decide +kernel)⟩
theorem kp57 : kP 57 kM57 := ⟨Or.inl kq57.1, kq57.2, fun _ _ _ _ => (by decide : 21 ≤ 88)⟩
theorem kp58 : kP 58 kM58 := ⟨Or.inl kq58.1, kq58.2, fun _ _ _ _ => (by decide : 21 ≤ 113)⟩
theorem kp59 : kP 59 kM59 := ⟨Or.inl kq59.1, kq59.2, fun _ _ _ _ => (by decide : 21 ≤ 113)⟩
theorem kp60 : kP 60 kM60 := ⟨Or.inl kq60.1, kq60.2, fun _ _ _ _ => (by decide : 21 ≤ 23)⟩
theorem kp61 : kP 61 kM61 := ⟨Or.inl kq61.1, kq61.2, fun _ _ _ _ => (by decide : 21 ≤ 21)⟩
theorem kp62 : kP 62 kM62 := ⟨Or.inl kq62.1, kq62.2, fun _ _ _ _ => (by decide : 21 ≤ 88)⟩
theorem kp63 : kP 63 kM63 := ⟨Or.inl kq63.1, kq63.2, fun _ _ _ _ => (by decide : 21 ≤ 62)⟩
theorem kp64 : kP 64 kM64 := ⟨Or.inl kq64.1, kq64.2, fun _ _ _ _ => (by decide : 21 ≤ 40)⟩
theorem kp65 : kP 65 kM65 := ⟨Or.inl kq65.1, kq65.2, fun _ _ _ _ => (by decide : 21 ≤ 23)⟩
theorem kp66 : kP 66 kM66 := ⟨Or.inl kq66.1, kq66.2, kv_of (l := km66) (by decide +kernel)⟩
theorem kp67 : kP 67 kM67 := ⟨Or.inl kq67.1, kq67.2, kv_of (l := km67) (by decide +kernel)⟩
theorem kp68 : kP 68 kM68 := ⟨Or.inl kq68.1, kq68.2, kv_of (l := km68) (by decide +kernel)⟩
theorem kp69 : kP 69 kM69 := ⟨Or.inl kq69.1, kq69.2, kv_of (l := km69) (by decide +kernel)⟩
theorem kp70 : kP 70 kM70 := ⟨Or.inl kq70.1, kq70.2, kv_of (l := km70) (by decide +kernel)⟩
theorem kp71 : kP 71 kM71 := ⟨Or.inl kq71.1, kq71.2, kv_of (l := km71) (by decide +kernel)⟩
theorem kp72 : kP 72 kM72 := ⟨Or.inl kq72.1, kq72.2, fun _ _ _ _ => (by decide : 21 ≤ 31)⟩
theorem kp73 : kP 73 kM73 := ⟨Or.inl kq73.1, kq73.2, fun _ _ _ _ => (by decide : 21 ≤ 31)⟩
theorem kp74 : kP 74 kM74 := ⟨Or.inl kq74.1, kq74.2, fun _ _ _ _ => (by decide : 21 ≤ 31)⟩
theorem kp75 : kP 75 kM75 := ⟨Or.inl kq75.1, kq75.2, fun _ _ _ _ => (by decide : 21 ≤ 62)⟩
theorem kp76 : kP 76 kM76 := ⟨Or.inl kq76.1, kq76.2, kv_of (l := km76) (by decide +kernel)⟩
theorem kp77 : kP 77 kM77 := ⟨Or.inl kq77.1, kq77.2, kv_of (l := km77) (by decide +kernel)⟩
theorem kp78 : kP 78 kM78 := ⟨Or.inl kq78.1, kq78.2, kv_of (l := km78) (by decide +kernel)⟩
theorem kp79 : kP 79 kM79 := ⟨Or.inl kq79.1, kq79.2, kv_of (l := km79) (by decide +kernel)⟩
theorem kp80 : kP 80 kM80 := ⟨Or.inl kq80.1, kq80.2, kv_of (l := km80) (by decide +kernel)⟩
theorem kp81 : kP 81 kM81 := ⟨Or.inl kq81.1, kq81.2, kv_of (l := km81) (by decide +kernel)⟩
theorem kp82 : kP 82 kM82 := ⟨Or.inl kq82.1, kq82.2, kv_of (l := km82) (by decide +kernel)⟩
theorem kp83 : kP 83 kM83 := ⟨Or.inl kq83.1, kq83.2, fun _ _ _ _ => (by decide : 21 ≤ 50)⟩
theorem kp84 : kP 84 kM84 := ⟨Or.inl kq84.1, kq84.2, fun _ _ _ _ => (by decide : 21 ≤ 23)⟩
theorem kp85 : kP 85 kM85 := ⟨Or.inl kq85.1, kq85.2, kv_of (l := km85) (by decide +kernel)⟩
theorem kp86 : kP 86 kM86 := ⟨Or.inl kq86.1, kq86.2, kv_of (l := km86) (by decide +kernel)⟩
theorem kp87 : kP 87 kM87 := ⟨Or.inl kq87.1, kq87.2, fun _ _ _ _ => (by decide : 21 ≤ 21)⟩
theorem kp88 : kP 88 kM88 := ⟨Or.inl kq88.1, kq88.2, kv_of (l := km88) (by decide +kernel)⟩
theorem kp89 : kP 89 kM89 := ⟨Or.inl kq89.1, kq89.2, fun _ _ _ _ => (by decide : 21 ≤ 60)⟩
theorem kp90 : kP 90 kM90 := ⟨Or.inl kq90.1, kq90.2, fun _ _ _ _ => (by decide : 21 ≤ 91)⟩
theorem kp91 : kP 91 kM91 := ⟨Or.inl kq91.1, kq91.2, kv_of (l := km91) (by decide +kernel)⟩
theorem kp92 : kP 92 kM92 := ⟨Or.inl kq92.1, kq92.2, fun _ _ _ _ => (by decide : 21 ≤ 43)⟩
theorem kp93 : kP 93 kM93 := ⟨Or.inl kq93.1, kq93.2, fun _ _ _ _ => (by decide : 21 ≤ 91)⟩
theorem kp94 : kP 94 kM94 := ⟨Or.inl kq94.1, kq94.2, fun _ _ _ _ => (by decide : 21 ≤ 91)⟩
theorem kp95 : kP 95 kM95 := ⟨Or.inl kq95.1, kq95.2, kv_of (l := km95) (by decide +kernel)⟩
theorem kp96 : kP 96 kM96 := ⟨Or.inl kq96.1, kq96.2, fun _ _ _ _ => (by decide : 21 ≤ 22)⟩
theorem kp97 : kP 97 kM97 := ⟨Or.inl kq97.1, kq97.2, fun _ _ _ _ => (by decide : 21 ≤ 68)⟩
theorem kp98 : kP 98 kM98 := ⟨Or.inl kq98.1, kq98.2, fun _ _ _ _ => (by decide : 21 ≤ 68)⟩
theorem kp99 : kP 99 kM99 := ⟨Or.inl kq99.1, kq99.2, fun _ _ _ _ => (by decide : 21 ≤ 69)⟩
theorem kp100 : kP 100 kM100 := ⟨Or.inl kq100.1, kq100.2, fun _ _ _ _ => (by decide : 21 ≤ 43)⟩
theorem kp101 : kP 101 kM101 := ⟨Or.inl kq101.1, kq101.2, fun _ _ _ _ => (by decide : 21 ≤ 62)⟩
theorem kp102 : kP 102 kM102 := ⟨Or.inl kq102.1, kq102.2, fun _ _ _ _ => (by decide : 21 ≤ 86)⟩
theorem kp103 : kP 103 kM103 := ⟨Or.inl kq103.1, kq103.2, fun _ _ _ _ => (by decide : 21 ≤ 101)⟩
theorem kp104 : kP 104 kM104 := ⟨Or.inl kq104.1, kq104.2, fun _ _ _ _ => (by decide : 21 ≤ 106)⟩
theorem kp105 : kP 105 kM105 := ⟨Or.inl kq105.1, kq105.2, fun _ _ _ _ => (by decide : 21 ≤ 112)⟩
theorem kp106 : kP 106 kM106 := ⟨Or.inl kq106.1, kq106.2, fun _ _ _ _ => (by decide : 21 ≤ 135)⟩
theorem kp107 : kP 107 kM107 := ⟨Or.inl kq107.1, kq107.2, fun _ _ _ _ => (by decide : 21 ≤ 141)⟩
theorem kp108 : kP 108 kM108 := ⟨Or.inl kq108.1, kq108.2, fun _ _ _ _ => (by decide : 21 ≤ 51)⟩
theorem kp109 : kP 109 kM109 := ⟨Or.inl kq109.1, kq109.2, fun _ _ _ _ => (by decide : 21 ≤ 69)⟩
theorem kp110 : kP 110 kM110 := ⟨Or.inl kq110.1, kq110.2, fun _ _ _ _ => (by decide : 21 ≤ 69)⟩
theorem kp111 : kP 111 kM111 := ⟨Or.inl kq111.1, kq111.2, fun _ _ _ _ => (by decide : 21 ≤ 69)⟩
theorem kp112 : kP 112 kM112 := ⟨Or.inl kq112.1, kq112.2, fun _ _ _ _ => (by decide : 21 ≤ 69)⟩
theorem kp113 : kP 113 kM113 := ⟨Or.inl kq113.1, kq113.2, fun _ _ _ _ => (by decide : 21 ≤ 69)⟩
theorem kp114 : kP 114 kM114 := ⟨Or.inl kq114.1, kq114.2, fun _ _ _ _ => (by decide : 21 ≤ 46)⟩
theorem kp115 : kP 115 kM115 := ⟨Or.inl kq115.1, kq115.2, fun _ _ _ _ => (by decide : 21 ≤ 42)⟩
theorem kp116 : kP 116 kM116 := ⟨Or.inl kq116.1, kq116.2, fun _ _ _ _ => (by decide : 21 ≤ 44)⟩
theorem kp117 : kP 117 kM117 := ⟨Or.inl kq117.1, kq117.2, fun _ _ _ _ => (by decide : 21 ≤ 44)⟩
theorem kp118 : kP 118 kM118 := ⟨Or.inl kq118.1, kq118.2, fun _ _ _ _ => (by decide : 21 ≤ 51)⟩
theorem kp119 : kP 119 kM119 := ⟨Or.inl kq119.1, kq119.2, fun _ _ _ _ => (by decide : 21 ≤ 44)⟩
theorem kp120 : kP 120 kM120 := ⟨Or.inl kq120.1, kq120.2, fun _ _ _ _ => (by decide : 21 ≤ 23)⟩
theorem kp121 : kP 121 kM121 := ⟨Or.inl kq121.1, kq121.2, fun _ _ _ _ => (by decide : 21 ≤ 166)⟩
theorem kp122 : kP 122 kM122 := ⟨Or.inl kq122.1, kq122.2, fun _ _ _ _ => (by decide : 21 ≤ 109)⟩
theorem kp123 : kP 123 kM123 := ⟨Or.inl kq123.1, kq123.2, kv_of (l := km123) (by decide +kernel)⟩
theorem kp124 : kP 124 kM124 := ⟨Or.inl kq124.1, kq124.2, fun _ _ _ _ => (by decide : 21 ≤ 22)⟩
theorem kp125 : kP 125 kM125 := ⟨Or.inl kq125.1, kq125.2, fun _ _ _ _ => (by decide : 21 ≤ 42)⟩
theorem kp126 : kP 126 kM126 := ⟨Or.inl kq126.1, kq126.2, fun _ _ _ _ => (by decide : 21 ≤ 22)⟩
theorem kp127 : kP 127 kM127 := ⟨Or.inl kq127.1, kq127.2, fun _ _ _ _ => (by decide : 21 ≤ 22)⟩
theorem kp128 : kP 128 kM128 := ⟨Or.inl kq128.1, kq128.2, fun _ _ _ _ => (by decide : 21 ≤ 22)⟩
theorem kp129 : kP 129 kM129 := ⟨Or.inl kq129.1, kq129.2, fun _ _ _ _ => (by decide : 21 ≤ 22)⟩
theorem kp130 : kP 130 kM130 := ⟨Or.inl kq130.1, kq130.2, fun _ _ _ _ => (by decide : 21 ≤ 22)⟩
theorem kp131 : kP 131 kM131 := ⟨Or.inl kq131.1, kq131.2, fun _ _ _ _ => (by decide : 21 ≤ 22)⟩
theorem kp132 : kP 132 kM132 := ⟨Or.inl kq132.1, kq132.2, fun _ _ _ _ => (by decide : 21 ≤ 42)⟩
theorem kp133 : kP 133 kM133 := ⟨Or.inl kq133.1, kq133.2, kv_of (l := km133) (by decide +kernel)⟩
theorem kp134 : kP 134 kM134 := ⟨Or.inl kq134.1, kq134.2, kv_of (l := km134) (by decide +kernel)⟩
theorem kp135 : kP 135 kM135 := ⟨Or.inl kq135.1, kq135.2, fun _ _ _ _ => (by decide : 21 ≤ 46)⟩
theorem kp136 : kP 136 kM136 := ⟨Or.inl kq136.1, kq136.2, fun _ _ _ _ => (by decide : 21 ≤ 71)⟩
theorem kp137 : kP 137 kM137 := ⟨Or.inl kq137.1, kq137.2, fun _ _ _ _ => (by decide : 21 ≤ 48)⟩
theorem kp138 : kP 138 kM138 := ⟨Or.inl kq138.1, kq138.2, kv_of (l := km138) (by decide +kernel)⟩
theorem kp139 : kP 139 kM139 := ⟨Or.inl kq139.1, kq139.2, kv_of (l := km139) (by decide +kernel)⟩
theorem kp140 : kP 140 kM140 := ⟨Or.inl kq140.1, kq140.2, kv_of (l := km140) (by decide +kernel)⟩
theorem kp141 : kP 141 kM141 := ⟨Or.inl kq141.1, kq141.2, fun _ _ _ _ => (by decide : 21 ≤ 25)⟩
theorem kp142 : kP 142 kM142 := ⟨Or.inl kq142.1, kq142.2, kv_of (l := km142) (by decide +kernel)⟩
theorem kp143 : kP 143 kM143 := ⟨Or.inl kq143.1, kq143.2, fun _ _ _ _ => (by decide : 21 ≤ 25)⟩
theorem kp144 : kP 144 kM144 := ⟨Or.inl kq144.1, kq144.2, fun _ _ _ _ => (by decide : 21 ≤ 45)⟩
theorem kp145 : kP 145 kM145 := ⟨Or.inl kq145.1, kq145.2, fun _ _ _ _ => (by decide : 21 ≤ 45)⟩
theorem kp146 : kP 146 kM146 := ⟨Or.inl kq146.1, kq146.2, fun _ _ _ _ => (by decide : 21 ≤ 25)⟩
theorem kp147 : kP 147 kM147 := ⟨Or.inl kq147.1, kq147.2, kv_of (l := km147) (by decide +kernel)⟩
theorem kp148 : kP 148 kM148 := ⟨Or.inl kq148.1, kq148.2, fun _ _ _ _ => (by decide : 21 ≤ 48)⟩
theorem kp149 : kP 149 kM149 := ⟨Or.inl kq149.1, kq149.2, fun _ _ _ _ => (by decide : 21 ≤ 48)⟩
theorem kp150 : kP 150 kM150 := ⟨Or.inl kq150.1, kq150.2, fun _ _ _ _ => (by decide : 21 ≤ 45)⟩
theorem kp151 : kP 151 kM151 := ⟨Or.inl kq151.1, kq151.2, kv_of (l := km151) (by decide +kernel)⟩
theorem kp152 : kP 152 kM152 := ⟨Or.inl kq152.1, kq152.2, fun _ _ _ _ => (by decide : 21 ≤ 29)⟩
theorem kp153 : kP 153 kM153 := ⟨Or.inl kq153.1, kq153.2, kv_of (l := km153) (by decide +kernel)⟩
theorem kp154 : kP 154 kM154 := ⟨Or.inl kq154.1, kq154.2, kv_of (l := km154) (by decide +kernel)⟩
theorem kp155 : kP 155 kM155 := ⟨Or.inl kq155.1, kq155.2, fun _ _ _ _ => (by decide : 21 ≤ 25)⟩
theorem kp156 : kP 156 kM156 := ⟨Or.inl kq156.1, kq156.2, fun _ _ _ _ => (by decide : 21 ≤ 25)⟩
theorem kp157 : kP 157 kM157 := ⟨Or.inl kq157.1, kq157.2, fun _ _ _ _ => (by decide : 21 ≤ 25)⟩
theorem kp158 : kP 158 kM158 := ⟨Or.inl kq158.1, kq158.2, fun _ _ _ _ => (by decide : 21 ≤ 25)⟩
theorem kp159 : kP 159 kM159 := ⟨Or.inl kq159.1, kq159.2, kv_of (l := km159) (by decide +kernel)⟩
theorem kp160 : kP 160 kM160 := ⟨Or.inl kq160.1, kq160.2, fun _ _ _ _ => (by decide : 21 ≤ 46)⟩
theorem kp161 : kP 161 kM161 := ⟨Or.inl kq161.1, kq161.2, fun _ _ _ _ => (by decide : 21 ≤ 25)⟩
theorem kp162 : kP 162 kM162 := ⟨Or.inl kq162.1, kq162.2, kv_of (l := km162) (by decide +kernel)⟩
theorem kp163 : kP 163 kM163 := ⟨Or.inl kq163.1, kq163.2, kv_of (l := km163) (by decide +kernel)⟩
theorem kp164 : kP 164 kM164 := ⟨Or.inl kq164.1, kq164.2, fun _ _ _ _ => (by decide : 21 ≤ 46)⟩
theorem kp165 : kP 165 kM165 := ⟨Or.inl kq165.1, kq165.2, kv_of (l := km165) (by decide +kernel)⟩
theorem kp166 : kP 166 kM166 := ⟨Or.inl kq166.1, kq166.2, fun _ _ _ _ => (by decide : 21 ≤ 71)⟩
theorem kp167 : kP 167 kM167 := ⟨Or.inl kq167.1, kq167.2, fun _ _ _ _ => (by decide : 21 ≤ 92)⟩
theorem kp168 : kP 168 kM168 := ⟨Or.inl kq168.1, kq168.2, fun _ _ _ _ => (by decide : 21 ≤ 25)⟩
theorem kp169 : kP 169 kM169 := ⟨Or.inl kq169.1, kq169.2, fun _ _ _ _ => (by decide : 21 ≤ 92)⟩
theorem kp170 : kP 170 kM170 := ⟨Or.inl kq170.1, kq170.2, fun _ _ _ _ => (by decide : 21 ≤ 25)⟩
theorem kp171 : kP 171 kM171 := ⟨Or.inl kq171.1, kq171.2, kv_of (l := km171) (by decide +kernel)⟩
theorem kp172 : kP 172 kM172 := ⟨Or.inl kq172.1, kq172.2, fun _ _ _ _ => (by decide : 21 ≤ 45)⟩
theorem kp173 : kP 173 kM173 := ⟨Or.inl kq173.1, kq173.2, fun _ _ _ _ => (by decide : 21 ≤ 69)⟩
theorem kp174 : kP 174 kM174 := ⟨Or.inl kq174.1, kq174.2, fun _ _ _ _ => (by decide : 21 ≤ 45)⟩
theorem kp175 : kP 175 kM175 := ⟨Or.inl kq175.1, kq175.2, fun _ _ _ _ => (by decide : 21 ≤ 92)⟩
theorem kp176 : kP 176 kM176 := ⟨Or.inl kq176.1, kq176.2, kv_of (l := km176) (by decide +kernel)⟩
theorem kp177 : kP 177 kM177 := ⟨Or.inl kq177.1, kq177.2, fun _ _ _ _ => (by decide : 21 ≤ 114)⟩
theorem kp178 : kP 178 kM178 := ⟨Or.inl kq178.1, kq178.2, fun _ _ _ _ => (by decide : 21 ≤ 137)⟩
theorem kp179 : kP 179 kM179 := ⟨Or.inl kq179.1, kq179.2, fun _ _ _ _ => (by decide : 21 ≤ 114)⟩
theorem kp180 : kP 180 kM180 := ⟨Or.inl kq180.1, kq180.2, fun _ _ _ _ => (by decide : 21 ≤ 140)⟩
theorem kp181 : kP 181 kM181 := ⟨Or.inl kq181.1, kq181.2, fun _ _ _ _ => (by decide : 21 ≤ 166)⟩
theorem kp182 : kP 182 kM182 := ⟨Or.inl kq182.1, kq182.2, fun _ _ _ _ => (by decide : 21 ≤ 29)⟩
theorem kp183 : kP 183 kM183 := ⟨Or.inl kq183.1, kq183.2, fun _ _ _ _ => (by decide : 21 ≤ 140)⟩
theorem kp184 : kP 184 kM184 := ⟨Or.inl kq184.1, kq184.2, fun _ _ _ _ => (by decide : 21 ≤ 166)⟩
theorem kp185 : kP 185 kM185 := ⟨Or.inl kq185.1, kq185.2, fun _ _ _ _ => (by decide : 21 ≤ 114)⟩
theorem kp186 : kP 186 kM186 := ⟨Or.inl kq186.1, kq186.2, fun _ _ _ _ => (by decide : 21 ≤ 24)⟩
theorem kp187 : kP 187 kM187 := ⟨Or.inl kq187.1, kq187.2, fun _ _ _ _ => (by decide : 21 ≤ 114)⟩
theorem kp188 : kP 188 kM188 := ⟨Or.inl kq188.1, kq188.2, kv_of (l := km188) (by decide +kernel)⟩
theorem kp189 : kP 189 kM189 := ⟨Or.inl kq189.1, kq189.2, kv_of (l := km189) (by decide +kernel)⟩
theorem kp190 : kP 190 kM190 := ⟨Or.inl kq190.1, kq190.2, fun _ _ _ _ => (by decide : 21 ≤ 55)⟩
theorem kp191 : kP 191 kM191 := ⟨Or.inl kq191.1, kq191.2, fun _ _ _ _ => (by decide : 21 ≤ 140)⟩
theorem kp192 : kP 192 kM192 := ⟨Or.inl kq192.1, kq192.2, fun _ _ _ _ => (by decide : 21 ≤ 163)⟩
theorem kp193 : kP 193 kM193 := ⟨Or.inl kq193.1, kq193.2, fun _ _ _ _ => (by decide : 21 ≤ 78)⟩
theorem kp194 : kP 194 kM194 := ⟨Or.inl kq194.1, kq194.2, kv_of (l := km194) (by decide +kernel)⟩
theorem kp195 : kP 195 kM195 := ⟨Or.inl kq195.1, kq195.2, fun _ _ _ _ => (by decide : 21 ≤ 140)⟩
theorem kp196 : kP 196 kM196 := ⟨Or.inl kq196.1, kq196.2, fun _ _ _ _ => (by decide : 21 ≤ 161)⟩
theorem kp197 : kP 197 kM197 := ⟨Or.inl kq197.1, kq197.2, fun _ _ _ _ => (by decide : 21 ≤ 140)⟩
theorem kp198 : kP 198 kM198 := ⟨Or.inl kq198.1, kq198.2, fun _ _ _ _ => (by decide : 21 ≤ 167)⟩
theorem kp199 : kP 199 kM199 := ⟨Or.inl kq199.1, kq199.2, fun _ _ _ _ => (by decide : 21 ≤ 114)⟩
theorem kp200 : kP 200 kM200 := ⟨Or.inl kq200.1, kq200.2, fun _ _ _ _ => (by decide : 21 ≤ 148)⟩
theorem kp201 : kP 201 kM201 := ⟨Or.inl kq201.1, kq201.2, kv_of (l := km201) (by decide +kernel)⟩
theorem kp202 : kP 202 kM202 := ⟨Or.inl kq202.1, kq202.2, fun _ _ _ _ => (by decide : 21 ≤ 31)⟩
theorem kp203 : kP 203 kM203 := ⟨Or.inl kq203.1, kq203.2, fun _ _ _ _ => (by decide : 21 ≤ 54)⟩
theorem kp204 : kP 204 kM204 := ⟨Or.inl kq204.1, kq204.2, fun _ _ _ _ => (by decide : 21 ≤ 45)⟩
theorem kp205 : kP 205 kM205 := ⟨Or.inl kq205.1, kq205.2, kv_of (l := km205) (by decide +kernel)⟩
theorem kp206 : kP 206 kM206 := ⟨Or.inl kq206.1, kq206.2, fun _ _ _ _ => (by decide : 21 ≤ 114)⟩
theorem kp207 : kP 207 kM207 := ⟨Or.inl kq207.1, kq207.2, fun _ _ _ _ => (by decide : 21 ≤ 137)⟩
theorem kp208 : kP 208 kM208 := ⟨Or.inl kq208.1, kq208.2, fun _ _ _ _ => (by decide : 21 ≤ 137)⟩
theorem kp209 : kP 209 kM209 := ⟨Or.inl kq209.1, kq209.2, fun _ _ _ _ => (by decide : 21 ≤ 137)⟩
theorem kp210 : kP 210 kM210 := ⟨Or.inl kq210.1, kq210.2, fun _ _ _ _ => (by decide : 21 ≤ 167)⟩
theorem kp211 : kP 211 kM211 := ⟨Or.inl kq211.1, kq211.2, fun _ _ _ _ => (by decide : 21 ≤ 114)⟩
theorem kp212 : kP 212 kM212 := ⟨Or.inl kq212.1, kq212.2, fun _ _ _ _ => (by decide : 21 ≤ 114)⟩
theorem kp213 : kP 213 kM213 := ⟨Or.inl kq213.1, kq213.2, fun _ _ _ _ => (by decide : 21 ≤ 114)⟩
theorem kp214 : kP 214 kM214 := ⟨Or.inl kq214.1, kq214.2, fun _ _ _ _ => (by decide : 21 ≤ 167)⟩
theorem kp215 : kP 215 kM215 := ⟨Or.inr (Or.inl ⟨rfl, rfl⟩), kq215.2, kv_of (l := km215) (by decide +kernel)⟩
theorem kp216 : kP 216 kM216 := ⟨Or.inr (Or.inr (Or.inl ⟨rfl, rfl⟩)), kq216.2, kv_of (l := km216) (by decide +kernel)⟩
theorem kp217 : kP 217 kM217 := ⟨Or.inr (Or.inr (Or.inr (Or.inl ⟨rfl, rfl⟩))), kq217.2, kv_of (l := km217) (by decide +kernel)⟩
theorem kp218 : kP 218 kM218 := ⟨Or.inr (Or.inr (Or.inr (Or.inr ⟨rfl, rfl⟩))), kq218.2, kv_of (l := km218) (by decide +kernel)⟩
theorem kp219 : kP 219 kM219 := ⟨Or.inl kq219.1, kq219.2, kv_of (l := km219) (by decide +kernel)⟩
def kL_200 : List am_Mt := kM200 :: kM201 :: kM202 :: kM203 :: kM204 :: kM205 :: kM206 :: kM207 :: kM208 :: kM209 :: kM210 :: kM211 :: kM212 :: kM213 :: kM214 :: kM215 :: kM216 :: kM217 :: kM218 :: kM219 :: []
theorem kB_200 : kF kP 200 kL_200 := kF_c kp200 (kF_c kp201 (kF_c kp202 (kF_c kp203 (kF_c kp204 (kF_c kp205 (kF_c kp206 (kF_c kp207 (kF_c kp208 (kF_c kp209 (kF_c kp210 (kF_c kp211 (kF_c kp212 (kF_c kp213 (kF_c kp214 (kF_c kp215 (kF_c kp216 (kF_c kp217 (kF_c kp218 (kF_c kp219 (True.intro))))))))))))))))))))
def kL_180 : List am_Mt := kM180 :: kM181 :: kM182 :: kM183 :: kM184 :: kM185 :: kM186 :: kM187 :: kM188 :: kM189 :: kM190 :: kM191 :: kM192 :: kM193 :: kM194 :: kM195 :: kM196 :: kM197 :: kM198 :: kM199 :: kL_200
theorem kB_180 : kF kP 180 kL_180 := kF_c kp180 (kF_c kp181 (kF_c kp182 (kF_c kp183 (kF_c kp184 (kF_c kp185 (kF_c kp186 (kF_c kp187 (kF_c kp188 (kF_c kp189 (kF_c kp190 (kF_c kp191 (kF_c kp192 (kF_c kp193 (kF_c kp194 (kF_c kp195 (kF_c kp196 (kF_c kp197 (kF_c kp198 (kF_c kp199 (kB_200))))))))))))))))))))
def kL_160 : List am_Mt := kM160 :: kM161 :: kM162 :: kM163 :: kM164 :: kM165 :: kM166 :: kM167 :: kM168 :: kM169 :: kM170 :: kM171 :: kM172 :: kM173 :: kM174 :: kM175 :: kM176 :: kM177 :: kM178 :: kM179 :: kL_180
theorem kB_160 : kF kP 160 kL_160 := kF_c kp160 (kF_c kp161 (kF_c kp162 (kF_c kp163 (kF_c kp164 (kF_c kp165 (kF_c kp166 (kF_c kp167 (kF_c kp168 (kF_c kp169 (kF_c kp170 (kF_c kp171 (kF_c kp172 (kF_c kp173 (kF_c kp174 (kF_c kp175 (kF_c kp176 (kF_c kp177 (kF_c kp178 (kF_c kp179 (kB_180))))))))))))))))))))
def kL_140 : List am_Mt := kM140 :: kM141 :: kM142 :: kM143 :: kM144 :: kM145 :: kM146 :: kM147 :: kM148 :: kM149 :: kM150 :: kM151 :: kM152 :: kM153 :: kM154 :: kM155 :: kM156 :: kM157 :: kM158 :: kM159 :: kL_160
theorem kB_140 : kF kP 140 kL_140 := kF_c kp140 (kF_c kp141 (kF_c kp142 (kF_c kp143 (kF_c kp144 (kF_c kp145 (kF_c kp146 (kF_c kp147 (kF_c kp148 (kF_c kp149 (kF_c kp150 (kF_c kp151 (kF_c kp152 (kF_c kp153 (kF_c kp154 (kF_c kp155 (kF_c kp156 (kF_c kp157 (kF_c kp158 (kF_c kp159 (kB_160))))))))))))))))))))
def kL_120 : List am_Mt := kM120 :: kM121 :: kM122 :: kM123 :: kM124 :: kM125 :: kM126 :: kM127 :: kM128 :: kM129 :: kM130 :: kM131 :: kM132 :: kM133 :: kM134 :: kM135 :: kM136 :: kM137 :: kM138 :: kM139 :: kL_140
theorem kB_120 : kF kP 120 kL_120 := kF_c kp120 (kF_c kp121 (kF_c kp122 (kF_c kp123 (kF_c kp124 (kF_c kp125 (kF_c kp126 (kF_c kp127 (kF_c kp128 (kF_c kp129 (kF_c kp130 (kF_c kp131 (kF_c kp132 (kF_c kp133 (kF_c kp134 (kF_c kp135 (kF_c kp136 (kF_c kp137 (kF_c kp138 (kF_c kp139 (kB_140))))))))))))))))))))
def kL_100 : List am_Mt := kM100 :: kM101 :: kM102 :: kM103 :: kM104 :: kM105 :: kM106 :: kM107 :: kM108 :: kM109 :: kM110 :: kM111 :: kM112 :: kM113 :: kM114 :: kM115 :: kM116 :: kM117 :: kM118 :: kM119 :: kL_120
theorem kB_100 : kF kP 100 kL_100 := kF_c kp100 (kF_c kp101 (kF_c kp102 (kF_c kp103 (kF_c kp104 (kF_c kp105 (kF_c kp106 (kF_c kp107 (kF_c kp108 (kF_c kp109 (kF_c kp110 (kF_c kp111 (kF_c kp112 (kF_c kp113 (kF_c kp114 (kF_c kp115 (kF_c kp116 (kF_c kp117 (kF_c kp118 (kF_c kp119 (kB_120))))))))))))))))))))
def kL_80 : List am_Mt := kM80 :: kM81 :: kM82 :: kM83 :: kM84 :: kM85 :: kM86 :: kM87 :: kM88 :: kM89 :: kM90 :: kM91 :: kM92 :: kM93 :: kM94 :: kM95 :: kM96 :: kM97 :: kM98 :: kM99 :: kL_100
theorem kB_80 : kF kP 80 kL_80 := kF_c kp80 (kF_c kp81 (kF_c kp82 (kF_c kp83 (kF_c kp84 (kF_c kp85 (kF_c kp86 (kF_c kp87 (kF_c kp88 (kF_c kp89 (kF_c kp90 (kF_c kp91 (kF_c kp92 (kF_c kp93 (kF_c kp94 (kF_c kp95 (kF_c kp96 (kF_c kp97 (kF_c kp98 (kF_c kp99 (kB_100))))))))))))))))))))
def kL_60 : List am_Mt := kM60 :: kM61 :: kM62 :: kM63 :: kM64 :: kM65 :: kM66 :: kM67 :: kM68 :: kM69 :: kM70 :: kM71 :: kM72 :: kM73 :: kM74 :: kM75 :: kM76 :: kM77 :: kM78 :: kM79 :: kL_80
theorem kB_60 : kF kP 60 kL_60 := kF_c kp60 (kF_c kp61 (kF_c kp62 (kF_c kp63 (kF_c kp64 (kF_c kp65 (kF_c kp66 (kF_c kp67 (kF_c kp68 (kF_c kp69 (kF_c kp70 (kF_c kp71 (kF_c kp72 (kF_c kp73 (kF_c kp74 (kF_c kp75 (kF_c kp76 (kF_c kp77 (kF_c kp78 (kF_c kp79 (kB_80))))))))))))))))))))
def kL_40 : List am_Mt := kM40 :: kM41 :: kM42 :: kM43 :: kM44 :: kM45 :: kM46 :: kM47 :: kM48 :: kM49 :: kM50 :: kM51 :: kM52 :: kM53 :: kM54 :: kM55 :: kM56 :: kM57 :: kM58 :: kM59 :: kL_60
theorem kB_40 : kF kP 40 kL_40 := kF_c kp40 (kF_c kp41 (kF_c kp42 (kF_c kp43 (kF_c kp44 (kF_c kp45 (kF_c kp46 (kF_c kp47 (kF_c kp48 (kF_c kp49 (kF_c kp50 (kF_c kp51 (kF_c kp52 (kF_c kp53 (kF_c kp54 (kF_c kp55 (kF_c kp56 (kF_c kp57 (kF_c kp58 (kF_c kp59 (kB_60))))))))))))))))))))
def kL_20 : List am_Mt := kM20 :: kM21 :: kM22 :: kM23 :: kM24 :: kM25 :: kM26 :: kM27 :: kM28 :: kM29 :: kM30 :: kM31 :: kM32 :: kM33 :: kM34 :: kM35 :: kM36 :: kM37 :: kM38 :: kM39 :: kL_40
theorem kB_20 : kF kP 20 kL_20 := kF_c kp20 (kF_c kp21 (kF_c kp22 (kF_c kp23 (kF_c kp24 (kF_c kp25 (kF_c kp26 (kF_c kp27 (kF_c kp28 (kF_c kp29 (kF_c kp30 (kF_c kp31 (kF_c kp32 (kF_c kp33 (kF_c kp34 (kF_c kp35 (kF_c kp36 (kF_c kp37 (kF_c kp38 (kF_c kp39 (kB_40))))))))))))))))))))
def kL_0 : List am_Mt := kM0 :: kM1 :: kM2 :: kM3 :: kM4 :: kM5 :: kM6 :: kM7 :: kM8 :: kM9 :: kM10 :: kM11 :: kM12 :: kM13 :: kM14 :: kM15 :: kM16 :: kM17 :: kM18 :: kM19 :: kL_20
theorem kB_0 : kF kP 0 kL_0 := kF_c kp0 (kF_c kp1 (kF_c kp2 (kF_c kp3 (kF_c kp4 (kF_c kp5 (kF_c kp6 (kF_c kp7 (kF_c kp8 (kF_c kp9 (kF_c kp10 (kF_c kp11 (kF_c kp12 (kF_c kp13 (kF_c kp14 (kF_c kp15 (kF_c kp16 (kF_c kp17 (kF_c kp18 (kF_c kp19 (kB_20))))))))))))))))))))
theorem kG0_eq : kG0 = kL_0 := rfl
theorem kOkQ_thm : kOkQ lw_tbl kCl kTy := by
  intro mi mt h
  have h1 : kL_0[mi]? = some mt := by rw [← kG0_eq]; exact h
  have z := kF_get kB_0 h1
  rw [Nat.zero_add] at z
  exact z
theorem kPlainCl : ∀ (k : Nat) (q : vw_C), kCl[k]? = some q → plainName q.1 = true := by
  intro k q h
  match k, h with
  | 0, h => cases h; decide +kernel
  | 1, h => cases h; decide +kernel
  | 2, h => cases h; decide +kernel
  | 3, h => cases h; decide +kernel
  | 4, h => cases h; decide +kernel
  | 5, h => cases h; decide +kernel
  | 6, h => cases h; decide +kernel
  | 7, h => cases h; decide +kernel
  | 8, h => cases h; decide +kernel
  | 9, h => cases h; decide +kernel
  | n + 10, h => simp [kCl] at h
