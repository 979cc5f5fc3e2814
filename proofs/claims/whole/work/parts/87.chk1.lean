/-! the tables hold (the class) -/
theorem kk1_0 : kc1_0.all (fun q => am_ok lw_tbl kCl kTy kG kM1.1 kM1.2.1 kM1.2.2.2.1 kM1.2.2.2.2.1 q.1 q.2) = true := by decide +kernel
theorem kk1_1 : kc1_1.all (fun q => am_ok lw_tbl kCl kTy kG kM1.1 kM1.2.1 kM1.2.2.2.1 kM1.2.2.2.2.1 q.1 q.2) = true := by decide +kernel
theorem kk1_2 : kc1_2.all (fun q => am_ok lw_tbl kCl kTy kG kM1.1 kM1.2.1 kM1.2.2.2.1 kM1.2.2.2.2.1 q.1 q.2) = true := by decide +kernel
theorem kq1 : plainName kM1.1.cls = true ∧ ∀ (pc : Nat) (i : am_I), kM1.2.2.2.2.2 pc = some i → am_ok lw_tbl kCl kTy kG kM1.1 kM1.2.1 kM1.2.2.2.1 kM1.2.2.2.2.1 pc i = true := by
  refine ⟨by decide +kernel, fun pc i h => ?_⟩
  obtain ⟨q, h1, h2⟩ := kLks_mem (l := km1) h
  simp only [km1, List.mem_cons, List.not_mem_nil, or_false] at h1
  rcases h1 with rfl | rfl | rfl
  · have z := List.all_eq_true.mp kk1_0 (pc, i) h2
    exact z
  · have z := List.all_eq_true.mp kk1_1 (pc, i) h2
    exact z
  · have z := List.all_eq_true.mp kk1_2 (pc, i) h2
    exact z
theorem kk2_0 : kc2_0.all (fun q => am_ok lw_tbl kCl kTy kG kM2.1 kM2.2.1 kM2.2.2.2.1 kM2.2.2.2.2.1 q.1 q.2) = true := by decide +kernel
theorem kq2 : plainName kM2.1.cls = true ∧ ∀ (pc : Nat) (i : am_I), kM2.2.2.2.2.2 pc = some i → am_ok lw_tbl kCl kTy kG kM2.1 kM2.2.1 kM2.2.2.2.1 kM2.2.2.2.2.1 pc i = true := by
  refine ⟨by decide +kernel, fun pc i h => ?_⟩
  obtain ⟨q, h1, h2⟩ := kLks_mem (l := km2) h
  simp only [km2, List.mem_cons, List.not_mem_nil, or_false] at h1
  rcases h1 with rfl
  have z := List.all_eq_true.mp kk2_0 (pc, i) h2
  exact z
theorem kk3_0 : kc3_0.all (fun q => am_ok lw_tbl kCl kTy kG kM3.1 kM3.2.1 kM3.2.2.2.1 kM3.2.2.2.2.1 q.1 q.2) = true := by decide +kernel
theorem kq3 : plainName kM3.1.cls = true ∧ ∀ (pc : Nat) (i : am_I), kM3.2.2.2.2.2 pc = some i → am_ok lw_tbl kCl kTy kG kM3.1 kM3.2.1 kM3.2.2.2.1 kM3.2.2.2.2.1 pc i = true := by
  refine ⟨by decide +kernel, fun pc i h => ?_⟩
  obtain ⟨q, h1, h2⟩ := kLks_mem (l := km3) h
  simp only [km3, List.mem_cons, List.not_mem_nil, or_false] at h1
  rcases h1 with rfl
  have z := List.all_eq_true.mp kk3_0 (pc, i) h2
  exact z
theorem kk4_0 : kc4_0.all (fun q => am_ok lw_tbl kCl kTy kG kM4.1 kM4.2.1 kM4.2.2.2.1 kM4.2.2.2.2.1 q.1 q.2) = true := by decide +kernel
theorem kq4 : plainName kM4.1.cls = true ∧ ∀ (pc : Nat) (i : am_I), kM4.2.2.2.2.2 pc = some i → am_ok lw_tbl kCl kTy kG kM4.1 kM4.2.1 kM4.2.2.2.1 kM4.2.2.2.2.1 pc i = true := by
  refine ⟨by decide +kernel, fun pc i h => ?_⟩
  obtain ⟨q, h1, h2⟩ := kLks_mem (l := km4) h
  simp only [km4, List.mem_cons, List.not_mem_nil, or_false] at h1
  rcases h1 with rfl
  have z := List.all_eq_true.mp kk4_0 (pc, i) h2
  exact z
theorem kk5_0 : kc5_0.all (fun q => am_ok lw_tbl kCl kTy kG kM5.1 kM5.2.1 kM5.2.2.2.1 kM5.2.2.2.2.1 q.1 q.2) = true := by decide +kernel
theorem kq5 : plainName kM5.1.cls = true ∧ ∀ (pc : Nat) (i : am_I), kM5.2.2.2.2.2 pc = some i → am_ok lw_tbl kCl kTy kG kM5.1 kM5.2.1 kM5.2.2.2.1 kM5.2.2.2.2.1 pc i = true := by
  refine ⟨by decide +kernel, fun pc i h => ?_⟩
  obtain ⟨q, h1, h2⟩ := kLks_mem (l := km5) h
  simp only [km5, List.mem_cons, List.not_mem_nil, or_false] at h1
  rcases h1 with rfl
  have z := List.all_eq_true.mp kk5_0 (pc, i) h2
  exact z
theorem kk6_0 : kc6_0.all (fun q => am_ok lw_tbl kCl kTy kG kM6.1 kM6.2.1 kM6.2.2.2.1 kM6.2.2.2.2.1 q.1 q.2) = true := by decide +kernel
theorem kq6 : plainName kM6.1.cls = true ∧ ∀ (pc : Nat) (i : am_I), kM6.2.2.2.2.2 pc = some i → am_ok lw_tbl kCl kTy kG kM6.1 kM6.2.1 kM6.2.2.2.1 kM6.2.2.2.2.1 pc i = true := by
  refine ⟨by decide +kernel, fun pc i h => ?_⟩
  obtain ⟨q, h1, h2⟩ := kLks_mem (l := km6) h
  simp only [km6, List.mem_cons, List.not_mem_nil, or_false] at h1
  rcases h1 with rfl
  have z := List.all_eq_true.mp kk6_0 (pc, i) h2
  exact z
theorem kk7_0 : kc7_0.all (fun q => am_ok lw_tbl kCl kTy kG kM7.1 kM7.2.1 kM7.2.2.2.1 kM7.2.2.2.2.1 q.1 q.2) = true := by decide +kernel
theorem kq7 : plainName kM7.1.cls = true ∧ ∀ (pc : Nat) (i : am_I), kM7.2.2.2.2.2 pc = some i → am_ok lw_tbl kCl kTy kG kM7.1 kM7.2.1 kM7.2.2.2.1 kM7.2.2.2.2.1 pc i = true := by
  refine ⟨by decide +kernel, fun pc i h => ?_⟩
  obtain ⟨q, h1, h2⟩ := kLks_mem (l := km7) h
  simp only [km7, List.mem_cons, List.not_mem_nil, or_false] at h1
  rcases h1 with rfl
  have z := List.all_eq_true.mp kk7_0 (pc, i) h2
  exact z
theorem kk8_0 : kc8_0.all (fun q => am_ok lw_tbl kCl kTy kG kM8.1 kM8.2.1 kM8.2.2.2.1 kM8.2.2.2.2.1 q.1 q.2) = true := by decide +kernel
theorem kk8_1 : kc8_1.all (fun q => am_ok lw_tbl kCl kTy kG kM8.1 kM8.2.1 kM8.2.2.2.1 kM8.2.2.2.2.1 q.1 q.2) = true := by decide +kernel
theorem kq8 : plainName kM8.1.cls = true ∧ ∀ (pc : Nat) (i : am_I), kM8.2.2.2.2.2 pc = some i → am_ok lw_tbl kCl kTy kG kM8.1 kM8.2.1 kM8.2.2.2.1 kM8.2.2.2.2.1 pc i = true := by
  refine ⟨by decide +kernel, fun pc i h => ?_⟩
  obtain ⟨q, h1, h2⟩ := kLks_mem (l := km8) h
  simp only [km8, List.mem_cons, List.not_mem_nil, or_false] at h1
  rcases h1 with rfl | rfl
  · have z := List.all_eq_true.mp kk8_0 (pc, i) h2
    exact z
  · have z := List.all_eq_true.mp kk8_1 (pc, i) h2
    exact z
theorem kk9_0 : kc9_0.all (fun q => am_ok lw_tbl kCl kTy kG kM9.1 kM9.2.1 kM9.2.2.2.1 kM9.2.2.2.2.1 q.1 q.2) = true := by decide +kernel
theorem kq9 : plainName kM9.1.cls = true ∧ ∀ (pc : Nat) (i : am_I), kM9.2.2.2.2.2 pc = some i → am_ok lw_tbl kCl kTy kG kM9.1 kM9.2.1 kM9.2.2.2.1 kM9.2.2.2.2.1 pc i = true := by
  refine ⟨by decide +kernel, fun pc i h => ?_⟩
  obtain ⟨q, h1, h2⟩ := kLks_mem (l := km9) h
  simp only [km9, List.mem_cons, List.not_mem_nil, or_false] at h1
  rcases h1 with rfl
  have z := List.all_eq_true.mp kk9_0 (pc, i) h2
  exact z
theorem kk10_0 : kc10_0.all (fun q => am_ok lw_tbl kCl kTy kG kM10.1 kM10.2.1 kM10.2.2.2.1 kM10.2.2.2.2.1 q.1 q.2) = true := by decide +kernel
theorem kk10_1 : kc10_1.all (fun q => am_ok lw_tbl kCl kTy kG kM10.1 kM10.2.1 kM10.2.2.2.1 kM10.2.2.2.2.1 q.1 q.2) = true := by decide +kernel
theorem kq10 : plainName kM10.1.cls = true ∧ ∀ (pc : Nat) (i : am_I), kM10.2.2.2.2.2 pc = some i → am_ok lw_tbl kCl kTy kG kM10.1 kM10.2.1 kM10.2.2.2.1 kM10.2.2.2.2.1 pc i = true := by
  refine ⟨by decide +kernel, fun pc i h => ?_⟩
  obtain ⟨q, h1, h2⟩ := kLks_mem (l := km10) h
  simp only [km10, List.mem_cons, List.not_mem_nil, or_false] at h1
  rcases h1 with rfl | rfl
  · have z := List.all_eq_true.mp kk10_0 (pc, i) h2
    exact z
  · have z := List.all_eq_true.mp kk10_1 (pc, i) h2
    exact z
theorem kk11_0 : kc11_0.all (fun q => am_ok lw_tbl kCl kTy kG kM11.1 kM11.2.1 kM11.2.2.2.1 kM11.2.2.2.2.1 q.1 q.2) = true := by decide +kernel
theorem kk11_1 : kc11_1.all (fun q => am_ok lw_tbl kCl kTy kG kM11.1 kM11.2.1 kM11.2.2.2.1 kM11.2.2.2.2.1 q.1 q.2) = true := by decide +kernel
theorem kk11_2 : kc11_2.all (fun q => am_ok lw_tbl kCl kTy kG kM11.1 kM11.2.1 kM11.2.2.2.1 kM11.2.2.2.2.1 q.1 q.2) = true := by decide +kernel
theorem kq11 : plainName kM11.1.cls = true ∧ ∀ (pc : Nat) (i : am_I), kM11.2.2.2.2.2 pc = some i → am_ok lw_tbl kCl kTy kG kM11.1 kM11.2.1 kM11.2.2.2.1 kM11.2.2.2.2.1 pc i = true := by
  refine ⟨by decide +kernel, fun pc i h => ?_⟩
  obtain ⟨q, h1, h2⟩ := kLks_mem (l := km11) h
  simp only [km11, List.mem_cons, List.not_mem_nil, or_false] at h1
  rcases h1 with rfl | rfl | rfl
  · have z := List.all_eq_true.mp kk11_0 (pc, i) h2
    exact z
  · have z := List.all_eq_true.mp kk11_1 (pc, i) h2
    exact z
  · have z := List.all_eq_true.mp kk11_2 (pc, i) h2
    exact z
theorem kk12_0 : kc12_0.all (fun q => am_ok lw_tbl kCl kTy kG kM12.1 kM12.2.1 kM12.2.2.2.1 kM12.2.2.2.2.1 q.1 q.2) = true := by decide +kernel
theorem kq12 : plainName kM12.1.cls = true ∧ ∀ (pc : Nat) (i : am_I), kM12.2.2.2.2.2 pc = some i → am_ok lw_tbl kCl kTy kG kM12.1 kM12.2.1 kM12.2.2.2.1 kM12.2.2.2.2.1 pc i = true := by
  refine ⟨by decide +kernel, fun pc i h => ?_⟩
  obtain ⟨q, h1, h2⟩ := kLks_mem (l := km12) h
  simp only [km12, List.mem_cons, List.not_mem_nil, or_false] at h1
  rcases h1 with rfl
  have z := List.all_eq_true.mp kk12_0 (pc, i) h2
  exact z
theorem kk13_0 : kc13_0.all (fun q => am_ok lw_tbl kCl kTy kG kM13.1 kM13.2.1 kM13.2.2.2.1 kM13.2.2.2.2.1 q.1 q.2) = true := by decide +kernel
theorem kq13 : plainName kM13.1.cls = true ∧ ∀ (pc : Nat) (i : am_I), kM13.2.2.2.2.2 pc = some i → am_ok lw_tbl kCl kTy kG kM13.1 kM13.2.1 kM13.2.2.2.1 kM13.2.2.2.2.1 pc i = true := by
  refine ⟨by decide +kernel, fun pc i h => ?_⟩
  obtain ⟨q, h1, h2⟩ := kLks_mem (l := km13) h
  simp only [km13, List.mem_cons, List.not_mem_nil, or_false] at h1
  rcases h1 with rfl
  have z := List.all_eq_true.mp kk13_0 (pc, i) h2
  exact z
theorem kk14_0 : kc14_0.all (fun q => am_ok lw_tbl kCl kTy kG kM14.1 kM14.2.1 kM14.2.2.2.1 kM14.2.2.2.2.1 q.1 q.2) = true := by decide +kernel
theorem kq14 : plainName kM14.1.cls = true ∧ ∀ (pc : Nat) (i : am_I), kM14.2.2.2.2.2 pc = some i → am_ok lw_tbl kCl kTy kG kM14.1 kM14.2.1 kM14.2.2.2.1 kM14.2.2.2.2.1 pc i = true := by
  refine ⟨by decide +kernel, fun pc i h => ?_⟩
  obtain ⟨q, h1, h2⟩ := kLks_mem (l := km14) h
  simp only [km14, List.mem_cons, List.not_mem_nil, or_false] at h1
  rcases h1 with rfl
  have z := List.all_eq_true.mp kk14_0 (pc, i) h2
  exact z
theorem kk15_0 : kc15_0.all (fun q => am_ok lw_tbl kCl kTy kG kM15.1 kM15.2.1 kM15.2.2.2.1 kM15.2.2.2.2.1 q.1 q.2) = true := by decide +kernel
theorem kk15_1 : kc15_1.all (fun q => am_ok lw_tbl kCl kTy kG kM15.1 kM15.2.1 kM15.2.2.2.1 kM15.2.2.2.2.1 q.1 q.2) = true := by decide +kernel
theorem kq15 : plainName kM15.1.cls = true ∧ ∀ (pc : Nat) (i : am_I), kM15.2.2.2.2.2 pc = some i → am_ok lw_tbl kCl kTy kG kM15.1 kM15.2.1 kM15.2.2.2.1 kM15.2.2.2.2.1 pc i = true := by
  refine ⟨by decide +kernel, fun pc i h => ?_⟩
  obtain ⟨q, h1, h2⟩ := kLks_mem (l := km15) h
  simp only [km15, List.mem_cons, List.not_mem_nil, or_false] at h1
  rcases h1 with rfl | rfl
  · have z := List.all_eq_true.mp kk15_0 (pc, i) h2
    exact z
  · have z := List.all_eq_true.mp kk15_1 (pc, i) h2
    exact z
theorem kk16_0 : kc16_0.all (fun q => am_ok lw_tbl kCl kTy kG kM16.1 kM16.2.1 kM16.2.2.2.1 kM16.2.2.2.2.1 q.1 q.2) = true := by decide +kernel
theorem kk16_1 : kc16_1.all (fun q => am_ok lw_tbl kCl kTy kG kM16.1 kM16.2.1 kM16.2.2.2.1 kM16.2.2.2.2.1 q.1 q.2) = true := by decide +kernel
theorem kq16 : plainName kM16.1.cls = true ∧ ∀ (pc : Nat) (i : am_I), kM16.2.2.2.2.2 pc = some i → am_ok lw_tbl kCl kTy kG kM16.1 kM16.2.1 kM16.2.2.2.1 kM16.2.2.2.2.1 pc i = true := by
  refine ⟨by decide +kernel, fun pc i h => ?_⟩
  obtain ⟨q, h1, h2⟩ := kLks_mem (l := km16) h
  simp only [km16, List.mem_cons, List.not_mem_nil, or_false] at h1
  rcases h1 with rfl | rfl
  · have z := List.all_eq_true.mp kk16_0 (pc, i) h2
    exact z
  · have z := List.all_eq_true.mp kk16_1 (pc, i) h2
    exact z
theorem kk17_0 : kc17_0.all (fun q => am_ok lw_tbl kCl kTy kG kM17.1 kM17.2.1 kM17.2.2.2.1 kM17.2.2.2.2.1 q.1 q.2) = true := by decide +kernel
theorem kk17_1 : kc17_1.all (fun q => am_ok lw_tbl kCl kTy kG kM17.1 kM17.2.1 kM17.2.2.2.1 kM17.2.2.2.2.1 q.1 q.2) = true := by decide +kernel
theorem kq17 : plainName kM17.1.cls = true ∧ ∀ (pc : Nat) (i : am_I), kM17.2.2.2.2.2 pc = some i → am_ok lw_tbl kCl kTy kG kM17.1 kM17.2.1 kM17.2.2.2.1 kM17.2.2.2.2.1 pc i = true := by
  refine ⟨by decide +kernel, fun pc i h => ?_⟩
  obtain ⟨q, h1, h2⟩ := kLks_mem (l := km17) h
  simp only [km17, List.mem_cons, List.not_mem_nil, or_false] at h1
  rcases h1 with rfl | rfl
  · have z := List.all_eq_true.mp kk17_0 (pc, i) h2
    exact z
  · have z := List.all_eq_true.mp kk17_1 (pc, i) h2
    exact z
theorem kk18_0 : kc18_0.all (fun q => am_ok lw_tbl kCl kTy kG kM18.1 kM18.2.1 kM18.2.2.2.1 kM18.2.2.2.2.1 q.1 q.2) = true := by decide +kernel
theorem kk18_1 : kc18_1.all (fun q => am_ok lw_tbl kCl kTy kG kM18.1 kM18.2.1 kM18.2.2.2.1 kM18.2.2.2.2.1 q.1 q.2) = true := by decide +kernel
theorem kq18 : plainName kM18.1.cls = true ∧ ∀ (pc : Nat) (i : am_I), kM18.2.2.2.2.2 pc = some i → am_ok lw_tbl kCl kTy kG kM18.1 kM18.2.1 kM18.2.2.2.1 kM18.2.2.2.2.1 pc i = true := by
  refine ⟨by decide +kernel, fun pc i h => ?_⟩
  obtain ⟨q, h1, h2⟩ := kLks_mem (l := km18) h
  simp only [km18, List.mem_cons, List.not_mem_nil, or_false] at h1
  rcases h1 with rfl | rfl
  · have z := List.all_eq_true.mp kk18_0 (pc, i) h2
    exact z
  · have z := List.all_eq_true.mp kk18_1 (pc, i) h2
    exact z
theorem kk19_0 : kc19_0.all (fun q => am_ok lw_tbl kCl kTy kG kM19.1 kM19.2.1 kM19.2.2.2.1 kM19.2.2.2.2.1 q.1 q.2) = true := by decide +kernel
theorem kq19 : plainName kM19.1.cls = true ∧ ∀ (pc : Nat) (i : am_I), kM19.2.2.2.2.2 pc = some i → am_ok lw_tbl kCl kTy kG kM19.1 kM19.2.1 kM19.2.2.2.1 kM19.2.2.2.2.1 pc i = true := by
  refine ⟨by decide +kernel, fun pc i h => ?_⟩
  obtain ⟨q, h1, h2⟩ := kLks_mem (l := km19) h
  simp only [km19, List.mem_cons, List.not_mem_nil, or_false] at h1
  rcases h1 with rfl
  have z := List.all_eq_true.mp kk19_0 (pc, i) h2
  exact z
theorem kk20_0 : kc20_0.all (fun q => am_ok lw_tbl kCl kTy kG kM20.1 kM20.2.1 kM20.2.2.2.1 kM20.2.2.2.2.1 q.1 q.2) = true := by decide +kernel
theorem kk20_1 : kc20_1.all (fun q => am_ok lw_tbl kCl kTy kG kM20.1 kM20.2.1 kM20.2.2.2.1 kM20.2.2.2.2.1 q.1 q.2) = true := by decide +kernel
theorem kq20 : plainName kM20.1.cls = true ∧ ∀ (pc : Nat) (i : am_I), kM20.2.2.2.2.2 pc = some i → am_ok lw_tbl kCl kTy kG kM20.1 kM20.2.1 kM20.2.2.2.1 kM20.2.2.2.2.1 pc i = true := by
  refine ⟨by decide +kernel, fun pc i h => ?_⟩
  obtain ⟨q, h1, h2⟩ := kLks_mem (l := km20) h
  simp only [km20, List.mem_cons, List.not_mem_nil, or_false] at h1
  rcases h1 with rfl | rfl
  · have z := List.all_eq_true.mp kk20_0 (pc, i) h2
    exact z
  · have z := List.all_eq_true.mp kk20_1 (pc, i) h2
    exact z
theorem kk21_0 : kc21_0.all (fun q => am_ok lw_tbl kCl kTy kG kM21.1 kM21.2.1 kM21.2.2.2.1 kM21.2.2.2.2.1 q.1 q.2) = true := by decide +kernel
theorem kq21 : plainName kM21.1.cls = true ∧ ∀ (pc : Nat) (i : am_I), kM21.2.2.2.2.2 pc = some i → am_ok lw_tbl kCl kTy kG kM21.1 kM21.2.1 kM21.2.2.2.1 kM21.2.2.2.2.1 pc i = true := by
  refine ⟨by decide +kernel, fun pc i h => ?_⟩
  obtain ⟨q, h1, h2⟩ := kLks_mem (l := km21) h
  simp only [km21, List.mem_cons, List.not_mem_nil, or_false] at h1
  rcases h1 with rfl
  have z := List.all_eq_true.mp kk21_0 (pc, i) h2
  exact z
theorem kk22_0 : kc22_0.all (fun q => am_ok lw_tbl kCl kTy kG kM22.1 kM22.2.1 kM22.2.2.2.1 kM22.2.2.2.2.1 q.1 q.2) = true := by decide +kernel
theorem kq22 : plainName kM22.1.cls = true ∧ ∀ (pc : Nat) (i : am_I), kM22.2.2.2.2.2 pc = some i → am_ok lw_tbl kCl kTy kG kM22.1 kM22.2.1 kM22.2.2.2.1 kM22.2.2.2.2.1 pc i = true := by
  refine ⟨by decide +kernel, fun pc i h => ?_⟩
  obtain ⟨q, h1, h2⟩ := kLks_mem (l := km22) h
  simp only [km22, List.mem_cons, List.not_mem_nil, or_false] at h1
  rcases h1 with rfl
  have z := List.all_eq_true.mp kk22_0 (pc, i) h2
  exact z
theorem kk23_0 : kc23_0.all (fun q => am_ok lw_tbl kCl kTy kG kM23.1 kM23.2.1 kM23.2.2.2.1 kM23.2.2.2.2.1 q.1 q.2) = true := by decide +kernel
theorem kq23 : plainName kM23.1.cls = true ∧ ∀ (pc : Nat) (i : am_I), kM23.2.2.2.2.2 pc = some i → am_ok lw_tbl kCl kTy kG kM23.1 kM23.2.1 kM23.2.2.2.1 kM23.2.2.2.2.1 pc i = true := by
  refine ⟨by decide +kernel, fun pc i h => ?_⟩
  obtain ⟨q, h1, h2⟩ := kLks_mem (l := km23) h
  simp only [km23, List.mem_cons, List.not_mem_nil, or_false] at h1
  rcases h1 with rfl
  have z := List.all_eq_true.mp kk23_0 (pc, i) h2
  exact z
theorem kk24_0 : kc24_0.all (fun q => am_ok lw_tbl kCl kTy kG kM24.1 kM24.2.1 kM24.2.2.2.1 kM24.2.2.2.2.1 q.1 q.2) = true := by decide +kernel
theorem kq24 : plainName kM24.1.cls = true ∧ ∀ (pc : Nat) (i : am_I), kM24.2.2.2.2.2 pc = some i → am_ok lw_tbl kCl kTy kG kM24.1 kM24.2.1 kM24.2.2.2.1 kM24.2.2.2.2.1 pc i = true := by
  refine ⟨by decide +kernel, fun pc i h => ?_⟩
  obtain ⟨q, h1, h2⟩ := kLks_mem (l := km24) h
  simp only [km24, List.mem_cons, List.not_mem_nil, or_false] at h1
  rcases h1 with rfl
  have z := List.all_eq_true.mp kk24_0 (pc, i) h2
  exact z
theorem kk25_0 : kc25_0.all (fun q => am_ok lw_tbl kCl kTy kG kM25.1 kM25.2.1 kM25.2.2.2.1 kM25.2.2.2.2.1 q.1 q.2) = true := by decide +kernel
theorem kq25 : plainName kM25.1.cls = true ∧ ∀ (pc : Nat) (i : am_I), kM25.2.2.2.2.2 pc = some i → am_ok lw_tbl kCl kTy kG kM25.1 kM25.2.1 kM25.2.2.2.1 kM25.2.2.2.2.1 pc i = true := by
  refine ⟨by decide +kernel, fun pc i h => ?_⟩
  obtain ⟨q, h1, h2⟩ := kLks_mem (l := km25) h
  simp only [km25, List.mem_cons, List.not_mem_nil, or_false] at h1
  rcases h1 with rfl
  have z := List.all_eq_true.mp kk25_0 (pc, i) h2
  exact z
theorem kk26_0 : kc26_0.all (fun q => am_ok lw_tbl kCl kTy kG kM26.1 kM26.2.1 kM26.2.2.2.1 kM26.2.2.2.2.1 q.1 q.2) = true := by decide +kernel
theorem kk26_1 : kc26_1.all (fun q => am_ok lw_tbl kCl kTy kG kM26.1 kM26.2.1 kM26.2.2.2.1 kM26.2.2.2.2.1 q.1 q.2) = true := by decide +kernel
theorem kk26_2 : kc26_2.all (fun q => am_ok lw_tbl kCl kTy kG kM26.1 kM26.2.1 kM26.2.2.2.1 kM26.2.2.2.2.1 q.1 q.2) = true := by decide +kernel
theorem kk26_3 : kc26_3.all (fun q => am_ok lw_tbl kCl kTy kG kM26.1 kM26.2.1 kM26.2.2.2.1 kM26.2.2.2.2.1 q.1 q.2) = true := by decide +kernel
theorem kq26 : plainName kM26.1.cls = true ∧ ∀ (pc : Nat) (i : am_I), kM26.2.2.2.2.2 pc = some i → am_ok lw_tbl kCl kTy kG kM26.1 kM26.2.1 kM26.2.2.2.1 kM26.2.2.2.2.1 pc i = true := by
  refine ⟨by decide +kernel, fun pc i h => ?_⟩
  obtain ⟨q, h1, h2⟩ := kLks_mem (l := km26) h
  simp only [km26, List.mem_cons, List.not_mem_nil, or_false] at h1
  rcases h1 with rfl | rfl | rfl | rfl
  · have z := List.all_eq_true.mp kk26_0 (pc, i) h2
    exact z
  · have z := List.all_eq_true.mp kk26_1 (pc, i) h2
    exact z
  · have z := List.all_eq_true.mp kk26_2 (pc, i) h2
    exact z
  · have z := List.all_eq_true.mp kk26_3 (pc, i) h2
    exact z
theorem kk27_0 : kc27_0.all (fun q => am_ok lw_tbl kCl kTy kG kM27.1 kM27.2.1 kM27.2.2.2.1 kM27.2.2.2.2.1 q.1 q.2) = true := by decide +kernel
theorem kk27_1 : kc27_1.all (fun q => am_ok lw_tbl kCl kTy kG kM27.1 kM27.2.1 kM27.2.2.2.1 kM27.2.2.2.2.1 q.1 q.2) = true := by decide +kernel
theorem kq27 : plainName kM27.1.cls = true ∧ ∀ (pc : Nat) (i : am_I), kM27.2.2.2.2.2 pc = some i → am_ok lw_tbl kCl kTy kG kM27.1 kM27.2.1 kM27.2.2.2.1 kM27.2.2.2.2.1 pc i = true := by
  refine ⟨by decide +kernel, fun pc i h => ?_⟩
  obtain ⟨q, h1, h2⟩ := kLks_mem (l := km27) h
  simp only [km27, List.mem_cons, List.not_mem_nil, or_false] at h1
  rcases h1 with rfl | rfl
  · have z := List.all_eq_true.mp kk27_0 (pc, i) h2
    exact z
  · have z := List.all_eq_true.mp kk27_1 (pc, i) h2
    exact z
theorem kk28_0 : kc28_0.all (fun q => am_ok lw_tbl kCl kTy kG kM28.1 kM28.2.1 kM28.2.2.2.1 kM28.2.2.2.2.1 q.1 q.2) = true := by decide +kernel
theorem kk28_1 : kc28_1.all (fun q => am_ok lw_tbl kCl kTy kG kM28.1 kM28.2.1 kM28.2.2.2.1 kM28.2.2.2.2.1 q.1 q.2) = true := by decide +kernel
theorem kk28_2 : kc28_2.all (fun q => am_ok lw_tbl kCl kTy kG kM28.1 kM28.2.1 kM28.2.2.2.1 kM28.2.2.2.2.1 q.1 q.2) = true := by decide +kernel
theorem kq28 : plainName kM28.1.cls = true ∧ ∀ (pc : Nat) (i : am_I), kM28.2.2.2.2.2 pc = some i → am_ok lw_tbl kCl kTy kG kM28.1 kM28.2.1 kM28.2.2.2.1 kM28.2.2.2.2.1 pc i = true := by
  refine ⟨by decide +kernel, fun pc i h => ?_⟩
  obtain ⟨q, h1, h2⟩ := kLks_mem (l := km28) h
  simp only [km28, List.mem_cons, List.not_mem_nil, or_false] at h1
  rcases h1 with rfl | rfl | rfl
  · have z := List.all_eq_true.mp kk28_0 (pc, i) h2
    exact z
  · have z := List.all_eq_true.mp kk28_1 (pc, i) h2
    exact z
  · have z := List.all_eq_true.mp kk28_2 (pc, i) h2
    exact z
theorem kk29_0 : kc29_0.all (fun q => am_ok lw_tbl kCl kTy kG kM29.1 kM29.2.1 kM29.2.2.2.1 kM29.2.2.2.2.1 q.1 q.2) = true := by decide +kernel
theorem kk29_1 : kc29_1.all (fun q => am_ok lw_tbl kCl kTy kG kM29.1 kM29.2.1 kM29.2.2.2.1 kM29.2.2.2.2.1 q.1 q.2) = true := by decide +kernel
theorem kq29 : plainName kM29.1.cls = true ∧ ∀ (pc : Nat) (i : am_I), kM29.2.2.2.2.2 pc = some i → am_ok lw_tbl kCl kTy kG kM29.1 kM29.2.1 kM29.2.2.2.1 kM29.2.2.2.2.1 pc i = true := by
  refine ⟨by decide +kernel, fun pc i h => ?_⟩
  obtain ⟨q, h1, h2⟩ := kLks_mem (l := km29) h
  simp only [km29, List.mem_cons, List.not_mem_nil, or_false] at h1
  rcases h1 with rfl | rfl
  · have z := List.all_eq_true.mp kk29_0 (pc, i) h2
    exact z
  · have z := List.all_eq_true.mp kk29_1 (pc, i) h2
    exact z
theorem kk30_0 : kc30_0.all (fun q => am_ok lw_tbl kCl kTy kG kM30.1 kM30.2.1 kM30.2.2.2.1 kM30.2.2.2.2.1 q.1 q.2) = true := by decide +kernel
theorem kk30_1 : kc30_1.all (fun q => am_ok lw_tbl kCl kTy kG kM30.1 kM30.2.1 kM30.2.2.2.1 kM30.2.2.2.2.1 q.1 q.2) = true := by decide +kernel
theorem kq30 : plainName kM30.1.cls = true ∧ ∀ (pc : Nat) (i : am_I), kM30.2.2.2.2.2 pc = some i → am_ok lw_tbl kCl kTy kG kM30.1 kM30.2.1 kM30.2.2.2.1 kM30.2.2.2.2.1 pc i = true := by
  refine ⟨by decide +kernel, fun pc i h => ?_⟩
  obtain ⟨q, h1, h2⟩ := kLks_mem (l := km30) h
  simp only [km30, List.mem_cons, List.not_mem_nil, or_false] at h1
  rcases h1 with rfl | rfl
  · have z := List.all_eq_true.mp kk30_0 (pc, i) h2
    exact z
  · have z := List.all_eq_true.mp kk30_1 (pc, i) h2
    exact z
theorem kk31_0 : kc31_0.all (fun q => am_ok lw_tbl kCl kTy kG kM31.1 kM31.2.1 kM31.2.2.2.1 kM31.2.2.2.2.1 q.1 q.2) = true := by decide +kernel
theorem kq31 : plainName kM31.1.cls = true ∧ ∀ (pc : Nat) (i : am_I), kM31.2.2.2.2.2 pc = some i → am_ok lw_tbl kCl kTy kG kM31.1 kM31.2.1 kM31.2.2.2.1 kM31.2.2.2.2.1 pc i = true := by
  refine ⟨by decide +kernel, fun pc i h => ?_⟩
  obtain ⟨q, h1, h2⟩ := kLks_mem (l := km31) h
  simp only [km31, List.mem_cons, List.not_mem_nil, or_false] at h1
  rcases h1 with rfl
  have z := List.all_eq_true.mp kk31_0 (pc, i) h2
  exact z
theorem kk32_0 : kc32_0.all (fun q => am_ok lw_tbl kCl kTy kG kM32.1 kM32.2.1 kM32.2.2.2.1 kM32.2.2.2.2.1 q.1 q.2) = true := by decide +kernel
theorem kk32_1 : kc32_1.all (fun q => am_ok lw_tbl kCl kTy kG kM32.1 kM32.2.1 kM32.2.2.2.1 kM32.2.2.2.2.1 q.1 q.2) = true := by decide +kernel
theorem kq32 : plainName kM32.1.cls = true ∧ ∀ (pc : Nat) (i : am_I), kM32.2.2.2.2.2 pc = some i → am_ok lw_tbl kCl kTy kG kM32.1 kM32.2.1 kM32.2.2.2.1 kM32.2.2.2.2.1 pc i = true := by
  refine ⟨by decide +kernel, fun pc i h => ?_⟩
  obtain ⟨q, h1, h2⟩ := kLks_mem (l := km32) h
  simp only [km32, List.mem_cons, List.not_mem_nil, or_false] at h1
  rcases h1 with rfl | rfl
  · have z := List.all_eq_true.mp kk32_0 (pc, i) h2
    exact z
  · have z := List.all_eq_true.mp kk32_1 (pc, i) h2
    exact z
theorem kk33_0 : kc33_0.all (fun q => am_ok lw_tbl kCl kTy kG kM33.1 kM33.2.1 kM33.2.2.2.1 kM33.2.2.2.2.1 q.1 q.2) = true := by decide +kernel
theorem kq33 : plainName kM33.1.cls = true ∧ ∀ (pc : Nat) (i : am_I), kM33.2.2.2.2.2 pc = some i → am_ok lw_tbl kCl kTy kG kM33.1 kM33.2.1 kM33.2.2.2.1 kM33.2.2.2.2.1 pc i = true := by
  refine ⟨by decide +kernel, fun pc i h => ?_⟩
  obtain ⟨q, h1, h2⟩ := kLks_mem (l := km33) h
  simp only [km33, List.mem_cons, List.not_mem_nil, or_false] at h1
  rcases h1 with rfl
  have z := List.all_eq_true.mp kk33_0 (pc, i) h2
  exact z
theorem kk34_0 : kc34_0.all (fun q => am_ok lw_tbl kCl kTy kG kM34.1 kM34.2.1 kM34.2.2.2.1 kM34.2.2.2.2.1 q.1 q.2) = true := by decide +kernel
theorem kq34 : plainName kM34.1.cls = true ∧ ∀ (pc : Nat) (i : am_I), kM34.2.2.2.2.2 pc = some i → am_ok lw_tbl kCl kTy kG kM34.1 kM34.2.1 kM34.2.2.2.1 kM34.2.2.2.2.1 pc i = true := by
  refine ⟨by decide +kernel, fun pc i h => ?_⟩
  obtain ⟨q, h1, h2⟩ := kLks_mem (l := km34) h
  simp only [km34, List.mem_cons, List.not_mem_nil, or_false] at h1
  rcases h1 with rfl
  have z := List.all_eq_true.mp kk34_0 (pc, i) h2
  exact z
theorem kk35_0 : kc35_0.all (fun q => am_ok lw_tbl kCl kTy kG kM35.1 kM35.2.1 kM35.2.2.2.1 kM35.2.2.2.2.1 q.1 q.2) = true := by decide +kernel
theorem kq35 : plainName kM35.1.cls = true ∧ ∀ (pc : Nat) (i : am_I), kM35.2.2.2.2.2 pc = some i → am_ok lw_tbl kCl kTy kG kM35.1 kM35.2.1 kM35.2.2.2.1 kM35.2.2.2.2.1 pc i = true := by
  refine ⟨by decide +kernel, fun pc i h => ?_⟩
  obtain ⟨q, h1, h2⟩ := kLks_mem (l := km35) h
  simp only [km35, List.mem_cons, List.not_mem_nil, or_false] at h1
  rcases h1 with rfl
  have z := List.all_eq_true.mp kk35_0 (pc, i) h2
  exact z
theorem kk36_0 : kc36_0.all (fun q => am_ok lw_tbl kCl kTy kG kM36.1 kM36.2.1 kM36.2.2.2.1 kM36.2.2.2.2.1 q.1 q.2) = true := by decide +kernel
theorem kq36 : plainName kM36.1.cls = true ∧ ∀ (pc : Nat) (i : am_I), kM36.2.2.2.2.2 pc = some i → am_ok lw_tbl kCl kTy kG kM36.1 kM36.2.1 kM36.2.2.2.1 kM36.2.2.2.2.1 pc i = true := by
  refine ⟨by decide +kernel, fun pc i h => ?_⟩
  obtain ⟨q, h1, h2⟩ := kLks_mem (l := km36) h
  simp only [km36, List.mem_cons, List.not_mem_nil, or_false] at h1
  rcases h1 with rfl
  have z := List.all_eq_true.mp kk36_0 (pc, i) h2
  exact z
theorem kk37_0 : kc37_0.all (fun q => am_ok lw_tbl kCl kTy kG kM37.1 kM37.2.1 kM37.2.2.2.1 kM37.2.2.2.2.1 q.1 q.2) = true := by decide +kernel
theorem kq37 : plainName kM37.1.cls = true ∧ ∀ (pc : Nat) (i : am_I), kM37.2.2.2.2.2 pc = some i → am_ok lw_tbl kCl kTy kG kM37.1 kM37.2.1 kM37.2.2.2.1 kM37.2.2.2.2.1 pc i = true := by
  refine ⟨by decide +kernel, fun pc i h => ?_⟩
  obtain ⟨q, h1, h2⟩ := kLks_mem (l := km37) h
  simp only [km37, List.mem_cons, List.not_mem_nil, or_false] at h1
  rcases h1 with rfl
  have z := List.all_eq_true.mp kk37_0 (pc, i) h2
  exact z
theorem kk38_0 : kc38_0.all (fun q => am_ok lw_tbl kCl kTy kG kM38.1 kM38.2.1 kM38.2.2.2.1 kM38.2.2.2.2.1 q.1 q.2) = true := by decide +kernel
theorem kq38 : plainName kM38.1.cls = true ∧ ∀ (pc : Nat) (i : am_I), kM38.2.2.2.2.2 pc = some i → am_ok lw_tbl kCl kTy kG kM38.1 kM38.2.1 kM38.2.2.2.1 kM38.2.2.2.2.1 pc i = true := by
  refine ⟨by decide +kernel, fun pc i h => ?_⟩
  obtain ⟨q, h1, h2⟩ := kLks_mem (l := km38) h
  simp only [km38, List.mem_cons, List.not_mem_nil, or_false] at h1
  rcases h1 with rfl
  have z := List.all_eq_true.mp kk38_0 (pc, i) h2
  exact z
theorem kk39_0 : kc39_0.all (fun q => am_ok lw_tbl kCl kTy kG kM39.1 kM39.2.1 kM39.2.2.2.1 kM39.2.2.2.2.1 q.1 q.2) = true := by decide +kernel
theorem kq39 : plainName kM39.1.cls = true ∧ ∀ (pc : Nat) (i : am_I), kM39.2.2.2.2.2 pc = some i → am_ok lw_tbl kCl kTy kG kM39.1 kM39.2.1 kM39.2.2.2.1 kM39.2.2.2.2.1 pc i = true := by
  refine ⟨by decide +kernel, fun pc i h => ?_⟩
  obtain ⟨q, h1, h2⟩ := kLks_mem (l := km39) h
  simp only [km39, List.mem_cons, List.not_mem_nil, or_false] at h1
  rcases h1 with rfl
  have z := List.all_eq_true.mp kk39_0 (pc, i) h2
  exact z
theorem kk40_0 : kc40_0.all (fun q => am_ok lw_tbl kCl kTy kG kM40.1 kM40.2.1 kM40.2.2.2.1 kM40.2.2.2.2.1 q.1 q.2) = true := by decide +kernel
theorem kq40 : plainName kM40.1.cls = true ∧ ∀ (pc : Nat) (i : am_I), kM40.2.2.2.2.2 pc = some i → am_ok lw_tbl kCl kTy kG kM40.1 kM40.2.1 kM40.2.2.2.1 kM40.2.2.2.2.1 pc i = true := by
  refine ⟨by decide +kernel, fun pc i h => ?_⟩
  obtain ⟨q, h1, h2⟩ := kLks_mem (l := km40) h
  simp only [km40, List.mem_cons, List.not_mem_nil, or_false] at h1
  rcases h1 with rfl
  have z := List.all_eq_true.mp kk40_0 (pc, i) h2
  exact z
theorem kk41_0 : kc41_0.all (fun q => am_ok lw_tbl kCl kTy kG kM41.1 kM41.2.1 kM41.2.2.2.1 kM41.2.2.2.2.1 q.1 q.2) = true := by decide +kernel
theorem kq41 : plainName kM41.1.cls = true ∧ ∀ (pc : Nat) (i : am_I), kM41.2.2.2.2.2 pc = some i → am_ok lw_tbl kCl kTy kG kM41.1 kM41.2.1 kM41.2.2.2.1 kM41.2.2.2.2.1 pc i = true := by
  refine ⟨by decide +kernel, fun pc i h => ?_⟩
  obtain ⟨q, h1, h2⟩ := kLks_mem (l := km41) h
  simp only [km41, List.mem_cons, List.not_mem_nil, or_false] at h1
  rcases h1 with rfl
  have z := List.all_eq_true.mp kk41_0 (pc, i) h2
  exact z
theorem kk42_0 : kc42_0.all (fun q => am_ok lw_tbl kCl kTy kG kM42.1 kM42.2.1 kM42.2.2.2.1 kM42.2.2.2.2.1 q.1 q.2) = true := by decide +kernel
theorem kq42 : plainName kM42.1.cls = true ∧ ∀ (pc : Nat) (i : am_I), kM42.2.2.2.2.2 pc = some i → am_ok lw_tbl kCl kTy kG kM42.1 kM42.2.1 kM42.2.2.2.1 kM42.2.2.2.2.1 pc i = true := by
  refine ⟨by decide +kernel, fun pc i h => ?_⟩
  obtain ⟨q, h1, h2⟩ := kLks_mem (l := km42) h
  simp only [km42, List.mem_cons, List.not_mem_nil, or_false] at h1
  rcases h1 with rfl
  have z := List.all_eq_true.mp kk42_0 (pc, i) h2
  exact z
theorem kk43_0 : kc43_0.all (fun q => am_ok lw_tbl kCl kTy kG kM43.1 kM43.2.1 kM43.2.2.2.1 kM43.2.2.2.2.1 q.1 q.2) = true := by decide +kernel
theorem kq43 : plainName kM43.1.cls = true ∧ ∀ (pc : Nat) (i : am_I), kM43.2.2.2.2.2 pc = some i → am_ok lw_tbl kCl kTy kG kM43.1 kM43.2.1 kM43.2.2.2.1 kM43.2.2.2.2.1 pc i = true := by
  refine ⟨by decide +kernel, fun pc i h => ?_⟩
  obtain ⟨q, h1, h2⟩ := kLks_mem (l := km43) h
  simp only [km43, List.mem_cons, List.not_mem_nil, or_false] at h1
  rcases h1 with rfl
  have z := List.all_eq_true.mp kk43_0 (pc, i) h2
  exact z
theorem kk44_0 : kc44_0.all (fun q => am_ok lw_tbl kCl kTy kG kM44.1 kM44.2.1 kM44.2.2.2.1 kM44.2.2.2.2.1 q.1 q.2) = true := by decide +kernel
theorem kq44 : plainName kM44.1.cls = true ∧ ∀ (pc : Nat) (i : am_I), kM44.2.2.2.2.2 pc = some i → am_ok lw_tbl kCl kTy kG kM44.1 kM44.2.1 kM44.2.2.2.1 kM44.2.2.2.2.1 pc i = true := by
  refine ⟨by decide +kernel, fun pc i h => ?_⟩
  obtain ⟨q, h1, h2⟩ := kLks_mem (l := km44) h
  simp only [km44, List.mem_cons, List.not_mem_nil, or_false] at h1
  rcases h1 with rfl
  have z := List.all_eq_true.mp kk44_0 (pc, i) h2
  exact z
theorem kk45_0 : kc45_0.all (fun q => am_ok lw_tbl kCl kTy kG kM45.1 kM45.2.1 kM45.2.2.2.1 kM45.2.2.2.2.1 q.1 q.2) = true := by decide +kernel
theorem kq45 : plainName kM45.1.cls = true ∧ ∀ (pc : Nat) (i : am_I), kM45.2.2.2.2.2 pc = some i → am_ok lw_tbl kCl kTy kG kM45.1 kM45.2.1 kM45.2.2.2.1 kM45.2.2.2.2.1 pc i = true := by
  refine ⟨by decide +kernel, fun pc i h => ?_⟩
  obtain ⟨q, h1, h2⟩ := kLks_mem (l := km45) h
  simp only [km45, List.mem_cons, List.not_mem_nil, or_false] at h1
  rcases h1 with rfl
  have z := List.all_eq_true.mp kk45_0 (pc, i) h2
  exact z
theorem kk46_0 : kc46_0.all (fun q => am_ok lw_tbl kCl kTy kG kM46.1 kM46.2.1 kM46.2.2.2.1 kM46.2.2.2.2.1 q.1 q.2) = true := by decide +kernel
theorem kq46 : plainName kM46.1.cls = true ∧ ∀ (pc : Nat) (i : am_I), kM46.2.2.2.2.2 pc = some i → am_ok lw_tbl kCl kTy kG kM46.1 kM46.2.1 kM46.2.2.2.1 kM46.2.2.2.2.1 pc i = true := by
  refine ⟨by decide +kernel, fun pc i h => ?_⟩
  obtain ⟨q, h1, h2⟩ := kLks_mem (l := km46) h
  simp only [km46, List.mem_cons, List.not_mem_nil, or_false] at h1
  rcases h1 with rfl
  have z := List.all_eq_true.mp kk46_0 (pc, i) h2
  exact z
theorem kk47_0 : kc47_0.all (fun q => am_ok lw_tbl kCl kTy kG kM47.1 kM47.2.1 kM47.2.2.2.1 kM47.2.2.2.2.1 q.1 q.2) = true := by decide +kernel
theorem kq47 : plainName kM47.1.cls = true ∧ ∀ (pc : Nat) (i : am_I), kM47.2.2.2.2.2 pc = some i → am_ok lw_tbl kCl kTy kG kM47.1 kM47.2.1 kM47.2.2.2.1 kM47.2.2.2.2.1 pc i = true := by
  refine ⟨by decide +kernel, fun pc i h => ?_⟩
  obtain ⟨q, h1, h2⟩ := kLks_mem (l := km47) h
  simp only [km47, List.mem_cons, List.not_mem_nil, or_false] at h1
  rcases h1 with rfl
  have z := List.all_eq_true.mp kk47_0 (pc, i) h2
  exact z
theorem kk48_0 : kc48_0.all (fun q => am_ok lw_tbl kCl kTy kG kM48.1 kM48.2.1 kM48.2.2.2.1 kM48.2.2.2.2.1 q.1 q.2) = true := by decide +kernel
theorem kq48 : plainName kM48.1.cls = true ∧ ∀ (pc : Nat) (i : am_I), kM48.2.2.2.2.2 pc = some i → am_ok lw_tbl kCl kTy kG kM48.1 kM48.2.1 kM48.2.2.2.1 kM48.2.2.2.2.1 pc i = true := by
  refine ⟨by decide +kernel, fun pc i h => ?_⟩
  obtain ⟨q, h1, h2⟩ := kLks_mem (l := km48) h
  simp only [km48, List.mem_cons, List.not_mem_nil, or_false] at h1
  rcases h1 with rfl
  have z := List.all_eq_true.mp kk48_0 (pc, i) h2
  exact z
theorem kk49_0 : kc49_0.all (fun q => am_ok lw_tbl kCl kTy kG kM49.1 kM49.2.1 kM49.2.2.2.1 kM49.2.2.2.2.1 q.1 q.2) = true := by decide +kernel
theorem kk49_1 : kc49_1.all (fun q => am_ok lw_tbl kCl kTy kG kM49.1 kM49.2.1 kM49.2.2.2.1 kM49.2.2.2.2.1 q.1 q.2) = true := by decide +kernel
theorem kq49 : plainName kM49.1.cls = true ∧ ∀ (pc : Nat) (i : am_I), kM49.2.2.2.2.2 pc = some i → am_ok lw_tbl kCl kTy kG kM49.1 kM49.2.1 kM49.2.2.2.1 kM49.2.2.2.2.1 pc i = true := by
  refine ⟨by decide +kernel, fun pc i h => ?_⟩
  obtain ⟨q, h1, h2⟩ := kLks_mem (l := km49) h
  simp only [km49, List.mem_cons, List.not_mem_nil, or_false] at h1
  rcases h1 with rfl | rfl
  · have z := List.all_eq_true.mp kk49_0 (pc, i) h2
    exact z
  · have z := List.all_eq_true.mp kk49_1 (pc, i) h2
    exact z
theorem kk50_0 : kc50_0.all (fun q => am_ok lw_tbl kCl kTy kG kM50.1 kM50.2.1 kM50.2.2.2.1 kM50.2.2.2.2.1 q.1 q.2) = true := by decide +kernel
theorem kk50_1 : kc50_1.all (fun q => am_ok lw_tbl kCl kTy kG kM50.1 kM50.2.1 kM50.2.2.2.1 kM50.2.2.2.2.1 q.1 q.2) = true := by decide +kernel
theorem kk50_2 : kc50_2.all (fun q => am_ok lw_tbl kCl kTy kG kM50.1 kM50.2.1 kM50.2.2.2.1 kM50.2.2.2.2.1 q.1 q.2) = true := by decide +kernel
theorem kq50 : plainName kM50.1.cls = true ∧ ∀ (pc : Nat) (i : am_I), kM50.2.2.2.2.2 pc = some i → am_ok lw_tbl kCl kTy kG kM50.1 kM50.2.1 kM50.2.2.2.1 kM50.2.2.2.2.1 pc i = true := by
  refine ⟨by decide +kernel, fun pc i h => ?_⟩
  obtain ⟨q, h1, h2⟩ := kLks_mem (l := km50) h
  simp only [km50, List.mem_cons, List.not_mem_nil, or_false] at h1
  rcases h1 with rfl | rfl | rfl
  · have z := List.all_eq_true.mp kk50_0 (pc, i) h2
    exact z
  · have z := List.all_eq_true.mp kk50_1 (pc, i) h2
    exact z
  · have z := List.all_eq_true.mp kk50_2 (pc, i) h2
    exact z
theorem kk51_0 : kc51_0.all (fun q => am_ok lw_tbl kCl kTy kG kM51.1 kM51.2.1 kM51.2.2.2.1 kM51.2.2.2.2.1 q.1 q.2) = true := by decide +kernel
theorem kq51 : plainName kM51.1.cls = true ∧ ∀ (pc : Nat) (i : am_I), kM51.2.2.2.2.2 pc = some i → am_ok lw_tbl kCl kTy kG kM51.1 kM51.2.1 kM51.2.2.2.1 kM51.2.2.2.2.1 pc i = true := by
  refine ⟨by decide +kernel, fun pc i h => ?_⟩
  obtain ⟨q, h1, h2⟩ := kLks_mem (l := km51) h
  simp only [km51, List.mem_cons, List.not_mem_nil, or_false] at h1
  rcases h1 with rfl
  have z := List.all_eq_true.mp kk51_0 (pc, i) h2
  exact z
theorem kk52_0 : kc52_0.all (fun q => am_ok lw_tbl kCl kTy kG kM52.1 kM52.2.1 kM52.2.2.2.1 kM52.2.2.2.2.1 q.1 q.2) = true := by decide +kernel
theorem kk52_1 : kc52_1.all (fun q => am_ok lw_tbl kCl kTy kG kM52.1 kM52.2.1 kM52.2.2.2.1 kM52.2.2.2.2.1 q.1 q.2) = true := by decide +kernel
theorem kq52 : plainName kM52.1.cls = true ∧ ∀ (pc : Nat) (i : am_I), kM52.2.2.2.2.2 pc = some i → am_ok lw_tbl kCl kTy kG kM52.1 kM52.2.1 kM52.2.2.2.1 kM52.2.2.2.2.1 pc i = true := by
  refine ⟨by decide +kernel, fun pc i h => ?_⟩
  obtain ⟨q, h1, h2⟩ := kLks_mem (l := km52) h
  simp only [km52, List.mem_cons, List.not_mem_nil, or_false] at h1
  rcases h1 with rfl | rfl
  · have z := List.all_eq_true.mp kk52_0 (pc, i) h2
    exact z
  · have z := List.all_eq_true.mp kk52_1 (pc, i) h2
    exact z
theorem kk53_0 : kc53_0.all (fun q => am_ok lw_tbl kCl kTy kG kM53.1 kM53.2.1 kM53.2.2.2.1 kM53.2.2.2.2.1 q.1 q.2) = true := by decide +kernel
theorem kq53 : plainName kM53.1.cls = true ∧ ∀ (pc : Nat) (i : am_I), kM53.2.2.2.2.2 pc = some i → am_ok lw_tbl kCl kTy kG kM53.1 kM53.2.1 kM53.2.2.2.1 kM53.2.2.2.2.1 pc i = true := by
  refine ⟨by decide +kernel, fun pc i h => ?_⟩
  obtain ⟨q, h1, h2⟩ := kLks_mem (l := km53) h
  simp only [km53, List.mem_cons, List.not_mem_nil, or_false] at h1
  rcases h1 with rfl
  have z := List.all_eq_true.mp kk53_0 (pc, i) h2
  exact z
theorem kk54_0 : kc54_0.all (fun q => am_ok lw_tbl kCl kTy kG kM54.1 kM54.2.1 kM54.2.2.2.1 kM54.2.2.2.2.1 q.1 q.2) = true := by decide +kernel
theorem kq54 : plainName kM54.1.cls = true ∧ ∀ (pc : Nat) (i : am_I), kM54.2.2.2.2.2 pc = some i → am_ok lw_tbl kCl kTy kG kM54.1 kM54.2.1 kM54.2.2.2.1 kM54.2.2.2.2.1 pc i = true := by
  refine ⟨by decide +kernel, fun pc i h => ?_⟩
  obtain ⟨q, h1, h2⟩ := kLks_mem (l := km54) h
  simp only [km54, List.mem_cons, List.not_mem_nil, or_false] at h1
  rcases h1 with rfl
  have z := List.all_eq_true.mp kk54_0 (pc, i) h2
  exact z
theorem kk55_0 : kc55_0.all (fun q => am_ok lw_tbl kCl kTy kG kM55.1 kM55.2.1 kM55.2.2.2.1 kM55.2.2.2.2.1 q.1 q.2) = true := by decide +kernel
theorem kq55 : plainName kM55.1.cls = true ∧ ∀ (pc : Nat) (i : am_I), kM55.2.2.2.2.2 pc = some i → am_ok lw_tbl kCl kTy kG kM55.1 kM55.2.1 kM55.2.2.2.1 kM55.2.2.2.2.1 pc i = true := by
  refine ⟨by decide +kernel, fun pc i h => ?_⟩
  obtain ⟨q, h1, h2⟩ := kLks_mem (l := km55) h
  simp only [km55, List.mem_cons, List.not_mem_nil, or_false] at h1
  rcases h1 with rfl
  have z := List.all_eq_true.mp kk55_0 (pc, i) h2
  exact z
theorem kk56_0 : kc56_0.all (fun q => am_ok lw_tbl kCl kTy kG kM56.1 kM56.2.1 kM56.2.2.2.1 kM56.2.2.2.2.1 q.1 q.2) = true := by decide +kernel
theorem kq56 : plainName kM56.1.cls = true ∧ ∀ (pc : Nat) (i : am_I), kM56.2.2.2.2.2 pc = some i → am_ok lw_tbl kCl kTy kG kM56.1 kM56.2.1 kM56.2.2.2.1 kM56.2.2.2.2.1 pc i = true := by
  refine ⟨by decide +kernel, fun pc i h => ?_⟩
  obtain ⟨q, h1, h2⟩ := kLks_mem (l := km56) h
  simp only [km56, List.mem_cons, List.not_mem_nil, or_false] at h1
  rcases h1 with rfl
  have z := List.all_eq_true.mp kk56_0 (pc, i) h2
  exact z
theorem kk57_0 : kc57_0.all (fun q => am_ok lw_tbl kCl kTy kG kM57.1 kM57.2.1 kM57.2.2.2.1 kM57.2.2.2.2.1 q.1 q.2) = true := by decide +kernel
theorem kq57 : plainName kM57.1.cls = true ∧ ∀ (pc : Nat) (i : am_I), kM57.2.2.2.2.2 pc = some i → am_ok lw_tbl kCl kTy kG kM57.1 kM57.2.1 kM57.2.2.2.1 kM57.2.2.2.2.1 pc i = true := by
  refine ⟨by decide +kernel, fun pc i h => ?_⟩
  obtain ⟨q, h1, h2⟩ := kLks_mem (l := km57) h
  simp only [km57, List.mem_cons, List.not_mem_nil, or_false] at h1
  rcases h1 with rfl
  have z := List.all_eq_true.mp kk57_0 (pc, i) h2
  exact z
theorem kk58_0 : kc58_0.all (fun q => am_ok lw_tbl kCl kTy kG kM58.1 kM58.2.1 kM58.2.2.2.1 kM58.2.2.2.2.1 q.1 q.2) = true := by decide +kernel
theorem kq58 : plainName kM58.1.cls = true ∧ ∀ (pc : Nat) (i : am_I), kM58.2.2.2.2.2 pc = some i → am_ok lw_tbl kCl kTy kG kM58.1 kM58.2.1 kM58.2.2.2.1 kM58.2.2.2.2.1 pc i = true := by
  refine ⟨by decide +kernel, fun pc i h => ?_⟩
  obtain ⟨q, h1, h2⟩ := kLks_mem (l := km58) h
  simp only [km58, List.mem_cons, List.not_mem_nil, or_false] at h1
  rcases h1 with rfl
  have z := List.all_eq_true.mp kk58_0 (pc, i) h2
  exact z
theorem kk59_0 : kc59_0.all (fun q => am_ok lw_tbl kCl kTy kG kM59.1 kM59.2.1 kM59.2.2.2.1 kM59.2.2.2.2.1 q.1 q.2) = true := by decide +kernel
theorem kk59_1 : kc59_1.all (fun q => am_ok lw_tbl kCl kTy kG kM59.1 kM59.2.1 kM59.2.2.2.1 kM59.2.2.2.2.1 q.1 q.2) = true := by decide +kernel
theorem kq59 : plainName kM59.1.cls = true ∧ ∀ (pc : Nat) (i : am_I), kM59.2.2.2.2.2 pc = some i → am_ok lw_tbl kCl kTy kG kM59.1 kM59.2.1 kM59.2.2.2.1 kM59.2.2.2.2.1 pc i = true := by
  refine ⟨by decide +kernel, fun pc i h => ?_⟩
  obtain ⟨q, h1, h2⟩ := kLks_mem (l := km59) h
  simp only [km59, List.mem_cons, List.not_mem_nil, or_false] at h1
  rcases h1 with rfl | rfl
  · have z := List.all_eq_true.mp kk59_0 (pc, i) h2
    exact z
  · have z := List.all_eq_true.mp kk59_1 (pc, i) h2
    exact z
theorem kk60_0 : kc60_0.all (fun q => am_ok lw_tbl kCl kTy kG kM60.1 kM60.2.1 kM60.2.2.2.1 kM60.2.2.2.2.1 q.1 q.2) = true := by decide +kernel
theorem kk60_1 : kc60_1.all (fun q => am_ok lw_tbl kCl kTy kG kM60.1 kM60.2.1 kM60.2.2.2.1 kM60.2.2.2.2.1 q.1 q.2) = true := by decide +kernel
theorem kq60 : plainName kM60.1.cls = true ∧ ∀ (pc : Nat) (i : am_I), kM60.2.2.2.2.2 pc = some i → am_ok lw_tbl kCl kTy kG kM60.1 kM60.2.1 kM60.2.2.2.1 kM60.2.2.2.2.1 pc i = true := by
  refine ⟨by decide +kernel, fun pc i h => ?_⟩
  obtain ⟨q, h1, h2⟩ := kLks_mem (l := km60) h
  simp only [km60, List.mem_cons, List.not_mem_nil, or_false] at h1
  rcases h1 with rfl | rfl
  · have z := List.all_eq_true.mp kk60_0 (pc, i) h2
    exact z
  · have z := List.all_eq_true.mp kk60_1 (pc, i) h2
    exact z
theorem kk61_0 : kc61_0.all (fun q => am_ok lw_tbl kCl kTy kG kM61.1 kM61.2.1 kM61.2.2.2.1 kM61.2.2.2.2.1 q.1 q.2) = true := by decide +kernel
theorem kk61_1 : kc61_1.all (fun q => am_ok lw_tbl kCl kTy kG kM61.1 kM61.2.1 kM61.2.2.2.1 kM61.2.2.2.2.1 q.1 q.2) = true := by decide +kernel
theorem kq61 : plainName kM61.1.cls = true ∧ ∀ (pc : Nat) (i : am_I), kM61.2.2.2.2.2 pc = some i → am_ok lw_tbl kCl kTy kG kM61.1 kM61.2.1 kM61.2.2.2.1 kM61.2.2.2.2.1 pc i = true := by
  refine ⟨by decide +kernel, fun pc i h => ?_⟩
  obtain ⟨q, h1, h2⟩ := kLks_mem (l := km61) h
  simp only [km61, List.mem_cons, List.not_mem_nil, or_false] at h1
  rcases h1 with rfl | rfl
  · have z := List.all_eq_true.mp kk61_0 (pc, i) h2
    exact z
  · have z := List.all_eq_true.mp kk61_1 (pc, i) h2
    exact z
theorem kk62_0 : kc62_0.all (fun q => am_ok lw_tbl kCl kTy kG kM62.1 kM62.2.1 kM62.2.2.2.1 kM62.2.2.2.2.1 q.1 q.2) = true := by decide +kernel
theorem kk62_1 : kc62_1.all (fun q => am_ok lw_tbl kCl kTy kG kM62.1 kM62.2.1 kM62.2.2.2.1 kM62.2.2.2.2.1 q.1 q.2) = true := by decide +kernel
theorem kq62 : plainName kM62.1.cls = true ∧ ∀ (pc : Nat) (i : am_I), kM62.2.2.2.2.2 pc = some i → am_ok lw_tbl kCl kTy kG kM62.1 kM62.2.1 kM62.2.2.2.1 kM62.2.2.2.2.1 pc i = true := by
  refine ⟨by decide +kernel, fun pc i h => ?_⟩
  obtain ⟨q, h1, h2⟩ := kLks_mem (l := km62) h
  simp only [km62, List.mem_cons, List.not_mem_nil, or_false] at h1
  rcases h1 with rfl | rfl
  · have z := List.all_eq_true.mp kk62_0 (pc, i) h2
    exact z
  · have z := List.all_eq_true.mp kk62_1 (pc, i) h2
    exact z
theorem kk63_0 : kc63_0.all (fun q => am_ok lw_tbl kCl kTy kG kM63.1 kM63.2.1 kM63.2.2.2.1 kM63.2.2.2.2.1 q.1 q.2) = true := by decide +kernel
theorem kk63_1 : kc63_1.all (fun q => am_ok lw_tbl kCl kTy kG kM63.1 kM63.2.1 kM63.2.2.2.1 kM63.2.2.2.2.1 q.1 q.2) = true := by decide +kernel
theorem kk63_2 : kc63_2.all (fun q => am_ok lw_tbl kCl kTy kG kM63.1 kM63.2.1 kM63.2.2.2.1 kM63.2.2.2.2.1 q.1 q.2) = true := by decide +kernel
theorem kq63 : plainName kM63.1.cls = true ∧ ∀ (pc : Nat) (i : am_I), kM63.2.2.2.2.2 pc = some i → am_ok lw_tbl kCl kTy kG kM63.1 kM63.2.1 kM63.2.2.2.1 kM63.2.2.2.2.1 pc i = true := by
  refine ⟨by decide +kernel, fun pc i h => ?_⟩
  obtain ⟨q, h1, h2⟩ := kLks_mem (l := km63) h
  simp only [km63, List.mem_cons, List.not_mem_nil, or_false] at h1
  rcases h1 with rfl | rfl | rfl
  · have z := List.all_eq_true.mp kk63_0 (pc, i) h2
    exact z
  · have z := List.all_eq_true.mp kk63_1 (pc, i) h2
    exact z
  · have z := List.all_eq_true.mp kk63_2 (pc, i) h2
    exact z
theorem kk64_0 : kc64_0.all (fun q => am_ok lw_tbl kCl kTy kG kM64.1 kM64.2.1 kM64.2.2.2.1 kM64.2.2.2.2.1 q.1 q.2) = true := by decide +kernel
theorem kq64 : plainName kM64.1.cls = true ∧ ∀ (pc : Nat) (i : am_I), kM64.2.2.2.2.2 pc = some i → am_ok lw_tbl kCl kTy kG kM64.1 kM64.2.1 kM64.2.2.2.1 kM64.2.2.2.2.1 pc i = true := by
  refine ⟨by decide +kernel, fun pc i h => ?_⟩
  obtain ⟨q, h1, h2⟩ := kLks_mem (l := km64) h
  simp only [km64, List.mem_cons, List.not_mem_nil, or_false] at h1
  rcases h1 with rfl
  have z := List.all_eq_true.mp kk64_0 (pc, i) h2
  exact z
theorem kk65_0 : kc65_0.all (fun q => am_ok lw_tbl kCl kTy kG kM65.1 kM65.2.1 kM65.2.2.2.1 kM65.2.2.2.2.1 q.1 q.2) = true := by decide +kernel
theorem kk65_1 : kc65_1.all (fun q => am_ok lw_tbl kCl kTy kG kM65.1 kM65.2.1 kM65.2.2.2.1 kM65.2.2.2.2.1 q.1 q.2) = true := by decide +kernel
theorem kq65 : plainName kM65.1.cls = true ∧ ∀ (pc : Nat) (i : am_I), kM65.2.2.2.2.2 pc = some i → am_ok lw_tbl kCl kTy kG kM65.1 kM65.2.1 kM65.2.2.2.1 kM65.2.2.2.2.1 pc i = true := by
  refine ⟨by decide +kernel, fun pc i h => ?_⟩
  obtain ⟨q, h1, h2⟩ := kLks_mem (l := km65) h
  simp only [km65, List.mem_cons, List.not_mem_nil, or_false] at h1
  rcases h1 with rfl | rfl
  · have z := List.all_eq_true.mp kk65_0 (pc, i) h2
    exact z
  · have z := List.all_eq_true.mp kk65_1 (pc, i) h2
    exact z
theorem kk66_0 : kc66_0.all (fun q => am_ok lw_tbl kCl kTy kG kM66.1 kM66.2.1 kM66.2.2.2.1 kM66.2.2.2.2.1 q.1 q.2) = true := by decide +kernel
theorem kk66_1 : kc66_1.all (fun q => am_ok lw_tbl kCl kTy kG kM66.1 kM66.2.1 kM66.2.2.2.1 kM66.2.2.2.2.1 q.1 q.2) = true := by decide +kernel
theorem kq66 : plainName kM66.1.cls = true ∧ ∀ (pc : Nat) (i : am_I), kM66.2.2.2.2.2 pc = some i → am_ok lw_tbl kCl kTy kG kM66.1 kM66.2.1 kM66.2.2.2.1 kM66.2.2.2.2.1 pc i = true := by
  refine ⟨by decide +kernel, fun pc i h => ?_⟩
  obtain ⟨q, h1, h2⟩ := kLks_mem (l := km66) h
  simp only [km66, List.mem_cons, List.not_mem_nil, or_false] at h1
  rcases h1 with rfl | rfl
  · have z := List.all_eq_true.mp kk66_0 (pc, i) h2
    exact z
  · have z := List.all_eq_true.mp kk66_1 (pc, i) h2
    exact z
theorem kk67_0 : kc67_0.all (fun q => am_ok lw_tbl kCl kTy kG kM67.1 kM67.2.1 kM67.2.2.2.1 kM67.2.2.2.2.1 q.1 q.2) = true := by decide +kernel
theorem kq67 : plainName kM67.1.cls = true ∧ ∀ (pc : Nat) (i : am_I), kM67.2.2.2.2.2 pc = some i → am_ok lw_tbl kCl kTy kG kM67.1 kM67.2.1 kM67.2.2.2.1 kM67.2.2.2.2.1 pc i = true := by
  refine ⟨by decide +kernel, fun pc i h => ?_⟩
  obtain ⟨q, h1, h2⟩ := kLks_mem (l := km67) h
  simp only [km67, List.mem_cons, List.not_mem_nil, or_false] at h1
  rcases h1 with rfl
  have z := List.all_eq_true.mp kk67_0 (pc, i) h2
  exact z
theorem kk68_0 : kc68_0.all (fun q => am_ok lw_tbl kCl kTy kG kM68.1 kM68.2.1 kM68.2.2.2.1 kM68.2.2.2.2.1 q.1 q.2) = true := by decide +kernel
theorem kq68 : plainName kM68.1.cls = true ∧ ∀ (pc : Nat) (i : am_I), kM68.2.2.2.2.2 pc = some i → am_ok lw_tbl kCl kTy kG kM68.1 kM68.2.1 kM68.2.2.2.1 kM68.2.2.2.2.1 pc i = true := by
  refine ⟨by decide +kernel, fun pc i h => ?_⟩
  obtain ⟨q, h1, h2⟩ := kLks_mem (l := km68) h
  simp only [km68, List.mem_cons, List.not_mem_nil, or_false] at h1
  rcases h1 with rfl
  have z := List.all_eq_true.mp kk68_0 (pc, i) h2
  exact z
theorem kk69_0 : kc69_0.all (fun q => am_ok lw_tbl kCl kTy kG kM69.1 kM69.2.1 kM69.2.2.2.1 kM69.2.2.2.2.1 q.1 q.2) = true := by decide +kernel
theorem kk69_1 : kc69_1.all (fun q => am_ok lw_tbl kCl kTy kG kM69.1 kM69.2.1 kM69.2.2.2.1 kM69.2.2.2.2.1 q.1 q.2) = true := by decide +kernel
theorem kq69 : plainName kM69.1.cls = true ∧ ∀ (pc : Nat) (i : am_I), kM69.2.2.2.2.2 pc = some i → am_ok lw_tbl kCl kTy kG kM69.1 kM69.2.1 kM69.2.2.2.1 kM69.2.2.2.2.1 pc i = true := by
  refine ⟨by decide +kernel, fun pc i h => ?_⟩
  obtain ⟨q, h1, h2⟩ := kLks_mem (l := km69) h
  simp only [km69, List.mem_cons, List.not_mem_nil, or_false] at h1
  rcases h1 with rfl | rfl
  · have z := List.all_eq_true.mp kk69_0 (pc, i) h2
    exact z
  · have z := List.all_eq_true.mp kk69_1 (pc, i) h2
    exact z
theorem kk70_0 : kc70_0.all (fun q => am_ok lw_tbl kCl kTy kG kM70.1 kM70.2.1 kM70.2.2.2.1 kM70.2.2.2.2.1 q.1 q.2) = true := by decide +kernel
theorem kq70 : plainName kM70.1.cls = true ∧ ∀ (pc : Nat) (i : am_I), kM70.2.2.2.2.2 pc = some i → am_ok lw_tbl kCl kTy kG kM70.1 kM70.2.1 kM70.2.2.2.1 kM70.2.2.2.2.1 pc i = true := by
  refine ⟨by decide +kernel, fun pc i h => ?_⟩
  obtain ⟨q, h1, h2⟩ := kLks_mem (l := km70) h
  simp only [km70, List.mem_cons, List.not_mem_nil, or_false] at h1
  rcases h1 with rfl
  have z := List.all_eq_true.mp kk70_0 (pc, i) h2
  exact z
theorem kk71_0 : kc71_0.all (fun q => am_ok lw_tbl kCl kTy kG kM71.1 kM71.2.1 kM71.2.2.2.1 kM71.2.2.2.2.1 q.1 q.2) = true := by decide +kernel
theorem kq71 : plainName kM71.1.cls = true ∧ ∀ (pc : Nat) (i : am_I), kM71.2.2.2.2.2 pc = some i → am_ok lw_tbl kCl kTy kG kM71.1 kM71.2.1 kM71.2.2.2.1 kM71.2.2.2.2.1 pc i = true := by
  refine ⟨by decide +kernel, fun pc i h => ?_⟩
  obtain ⟨q, h1, h2⟩ := kLks_mem (l := km71) h
  simp only [km71, List.mem_cons, List.not_mem_nil, or_false] at h1
  rcases h1 with rfl
  have z := List.all_eq_true.mp kk71_0 (pc, i) h2
  exact z
theorem kk72_0 : kc72_0.all (fun q => am_ok lw_tbl kCl kTy kG kM72.1 kM72.2.1 kM72.2.2.2.1 kM72.2.2.2.2.1 q.1 q.2) = true := by decide +kernel
theorem kq72 : plainName kM72.1.cls = true ∧ ∀ (pc : Nat) (i : am_I), kM72.2.2.2.2.2 pc = some i → am_ok lw_tbl kCl kTy kG kM72.1 kM72.2.1 kM72.2.2.2.1 kM72.2.2.2.2.1 pc i = true := by
  refine ⟨by decide +kernel, fun pc i h => ?_⟩
  obtain ⟨q, h1, h2⟩ := kLks_mem (l := km72) h
  simp only [km72, List.mem_cons, List.not_mem_nil, or_false] at h1
  rcases h1 with rfl
  have z := List.all_eq_true.mp kk72_0 (pc, i) h2
  exact z
theorem kk73_0 : kc73_0.all (fun q => am_ok lw_tbl kCl kTy kG kM73.1 kM73.2.1 kM73.2.2.2.1 kM73.2.2.2.2.1 q.1 q.2) = true := by decide +kernel
theorem kq73 : plainName kM73.1.cls = true ∧ ∀ (pc : Nat) (i : am_I), kM73.2.2.2.2.2 pc = some i → am_ok lw_tbl kCl kTy kG kM73.1 kM73.2.1 kM73.2.2.2.1 kM73.2.2.2.2.1 pc i = true := by
  refine ⟨by decide +kernel, fun pc i h => ?_⟩
  obtain ⟨q, h1, h2⟩ := kLks_mem (l := km73) h
  simp only [km73, List.mem_cons, List.not_mem_nil, or_false] at h1
  rcases h1 with rfl
  have z := List.all_eq_true.mp kk73_0 (pc, i) h2
  exact z
theorem kk74_0 : kc74_0.all (fun q => am_ok lw_tbl kCl kTy kG kM74.1 kM74.2.1 kM74.2.2.2.1 kM74.2.2.2.2.1 q.1 q.2) = true := by decide +kernel
theorem kk74_1 : kc74_1.all (fun q => am_ok lw_tbl kCl kTy kG kM74.1 kM74.2.1 kM74.2.2.2.1 kM74.2.2.2.2.1 q.1 q.2) = true := by decide +kernel
theorem kk74_2 : kc74_2.all (fun q => am_ok lw_tbl kCl kTy kG kM74.1 kM74.2.1 kM74.2.2.2.1 kM74.2.2.2.2.1 q.1 q.2) = true := by decide +kernel
theorem kq74 : plainName kM74.1.cls = true ∧ ∀ (pc : Nat) (i : am_I), kM74.2.2.2.2.2 pc = some i → am_ok lw_tbl kCl kTy kG kM74.1 kM74.2.1 kM74.2.2.2.1 kM74.2.2.2.2.1 pc i = true := by
  refine ⟨by decide +kernel, fun pc i h => ?_⟩
  obtain ⟨q, h1, h2⟩ := kLks_mem (l := km74) h
  simp only [km74, List.mem_cons, List.not_mem_nil, or_false] at h1
  rcases h1 with rfl | rfl | rfl
  · have z := List.all_eq_true.mp kk74_0 (pc, i) h2
    exact z
  · have z := List.all_eq_true.mp kk74_1 (pc, i) h2
    exact z
  · have z := List.all_eq_true.mp kk74_2 (pc, i) h2
    exact z
theorem kk75_0 : kc75_0.all (fun q => am_ok lw_tbl kCl kTy kG kM75.1 kM75.2.1 kM75.2.2.2.1 kM75.2.2.2.2.1 q.1 q.2) = true := by decide +kernel
theorem kk75_1 : kc75_1.all (fun q => am_ok lw_tbl kCl kTy kG kM75.1 kM75.2.1 kM75.2.2.2.1 kM75.2.2.2.2.1 q.1 q.2) = true := by decide +kernel
theorem kq75 : plainName kM75.1.cls = true ∧ ∀ (pc : Nat) (i : am_I), kM75.2.2.2.2.2 pc = some i → am_ok lw_tbl kCl kTy kG kM75.1 kM75.2.1 kM75.2.2.2.1 kM75.2.2.2.2.1 pc i = true := by
  refine ⟨by decide +kernel, fun pc i h => ?_⟩
  obtain ⟨q, h1, h2⟩ := kLks_mem (l := km75) h
  simp only [km75, List.mem_cons, List.not_mem_nil, or_false] at h1
  rcases h1 with rfl | rfl
  · have z := List.all_eq_true.mp kk75_0 (pc, i) h2
    exact z
  · have z := List.all_eq_true.mp kk75_1 (pc, i) h2
    exact z
theorem kk76_0 : kc76_0.all (fun q => am_ok lw_tbl kCl kTy kG kM76.1 kM76.2.1 kM76.2.2.2.1 kM76.2.2.2.2.1 q.1 q.2) = true := by decide +kernel
theorem kq76 : plainName kM76.1.cls = true ∧ ∀ (pc : Nat) (i : am_I), kM76.2.2.2.2.2 pc = some i → am_ok lw_tbl kCl kTy kG kM76.1 kM76.2.1 kM76.2.2.2.1 kM76.2.2.2.2.1 pc i = true := by
  refine ⟨by decide +kernel, fun pc i h => ?_⟩
  obtain ⟨q, h1, h2⟩ := kLks_mem (l := km76) h
  simp only [km76, List.mem_cons, List.not_mem_nil, or_false] at h1
  rcases h1 with rfl
  have z := List.all_eq_true.mp kk76_0 (pc, i) h2
  exact z
theorem kk77_0 : kc77_0.all (fun q => am_ok lw_tbl kCl kTy kG kM77.1 kM77.2.1 kM77.2.2.2.1 kM77.2.2.2.2.1 q.1 q.2) = true := by decide +kernel
theorem kq77 : plainName kM77.1.cls = true ∧ ∀ (pc : Nat) (i : am_I), kM77.2.2.2.2.2 pc = some i → am_ok lw_tbl kCl kTy kG kM77.1 kM77.2.1 kM77.2.2.2.1 kM77.2.2.2.2.1 pc i = true := by
  refine ⟨by decide +kernel, fun pc i h => ?_⟩
  obtain ⟨q, h1, h2⟩ := kLks_mem (l := km77) h
  simp only [km77, List.mem_cons, List.not_mem_nil, or_false] at h1
  rcases h1 with rfl
  have z := List.all_eq_true.mp kk77_0 (pc, i) h2
  exact z
theorem kk78_0 : kc78_0.all (fun q => am_ok lw_tbl kCl kTy kG kM78.1 kM78.2.1 kM78.2.2.2.1 kM78.2.2.2.2.1 q.1 q.2) = true := by decide +kernel
theorem kq78 : plainName kM78.1.cls = true ∧ ∀ (pc : Nat) (i : am_I), kM78.2.2.2.2.2 pc = some i → am_ok lw_tbl kCl kTy kG kM78.1 kM78.2.1 kM78.2.2.2.1 kM78.2.2.2.2.1 pc i = true := by
  refine ⟨by decide +kernel, fun pc i h => ?_⟩
  obtain ⟨q, h1, h2⟩ := kLks_mem (l := km78) h
  simp only [km78, List.mem_cons, List.not_mem_nil, or_false] at h1
  rcases h1 with rfl
  have z := List.all_eq_true.mp kk78_0 (pc, i) h2
  exact z
theorem kk79_0 : kc79_0.all (fun q => am_ok lw_tbl kCl kTy kG kM79.1 kM79.2.1 kM79.2.2.2.1 kM79.2.2.2.2.1 q.1 q.2) = true := by decide +kernel
theorem kq79 : plainName kM79.1.cls = true ∧ ∀ (pc : Nat) (i : am_I), kM79.2.2.2.2.2 pc = some i → am_ok lw_tbl kCl kTy kG kM79.1 kM79.2.1 kM79.2.2.2.1 kM79.2.2.2.2.1 pc i = true := by
  refine ⟨by decide +kernel, fun pc i h => ?_⟩
  obtain ⟨q, h1, h2⟩ := kLks_mem (l := km79) h
  simp only [km79, List.mem_cons, List.not_mem_nil, or_false] at h1
  rcases h1 with rfl
  have z := List.all_eq_true.mp kk79_0 (pc, i) h2
  exact z
theorem kk80_0 : kc80_0.all (fun q => am_ok lw_tbl kCl kTy kG kM80.1 kM80.2.1 kM80.2.2.2.1 kM80.2.2.2.2.1 q.1 q.2) = true := by decide +kernel
theorem kq80 : plainName kM80.1.cls = true ∧ ∀ (pc : Nat) (i : am_I), kM80.2.2.2.2.2 pc = some i → am_ok lw_tbl kCl kTy kG kM80.1 kM80.2.1 kM80.2.2.2.1 kM80.2.2.2.2.1 pc i = true := by
  refine ⟨by decide +kernel, fun pc i h => ?_⟩
  obtain ⟨q, h1, h2⟩ := kLks_mem (l := km80) h
  simp only [km80, List.mem_cons, List.not_mem_nil, or_false] at h1
  rcases h1 with rfl
  have z := List.all_eq_true.mp kk80_0 (pc, i) h2
  exact z
theorem kk81_0 : kc81_0.all (fun q => am_ok lw_tbl kCl kTy kG kM81.1 kM81.2.1 kM81.2.2.2.1 kM81.2.2.2.2.1 q.1 q.2) = true := by decide +kernel
theorem kq81 : plainName kM81.1.cls = true ∧ ∀ (pc : Nat) (i : am_I), kM81.2.2.2.2.2 pc = some i → am_ok lw_tbl kCl kTy kG kM81.1 kM81.2.1 kM81.2.2.2.1 kM81.2.2.2.2.1 pc i = true := by
  refine ⟨by decide +kernel, fun pc i h => ?_⟩
  obtain ⟨q, h1, h2⟩ := kLks_mem (l := km81) h
  simp only [km81, List.mem_cons, List.not_mem_nil, or_false] at h1
  rcases h1 with rfl
  have z := List.all_eq_true.mp kk81_0 (pc, i) h2
  exact z
theorem kk82_0 : kc82_0.all (fun q => am_ok lw_tbl kCl kTy kG kM82.1 kM82.2.1 kM82.2.2.2.1 kM82.2.2.2.2.1 q.1 q.2) = true := by decide +kernel
theorem kq82 : plainName kM82.1.cls = true ∧ ∀ (pc : Nat) (i : am_I), kM82.2.2.2.2.2 pc = some i → am_ok lw_tbl kCl kTy kG kM82.1 kM82.2.1 kM82.2.2.2.1 kM82.2.2.2.2.1 pc i = true := by
  refine ⟨by decide +kernel, fun pc i h => ?_⟩
  obtain ⟨q, h1, h2⟩ := kLks_mem (l := km82) h
  simp only [km82, List.mem_cons, List.not_mem_nil, or_false] at h1
  rcases h1 with rfl
  have z := List.all_eq_true.mp kk82_0 (pc, i) h2
  exact z
theorem kk83_0 : kc83_0.all (fun q => am_ok lw_tbl kCl kTy kG kM83.1 kM83.2.1 kM83.2.2.2.1 kM83.2.2.2.2.1 q.1 q.2) = true := by decide +kernel
theorem kq83 : plainName kM83.1.cls = true ∧ ∀ (pc : Nat) (i : am_I), kM83.2.2.2.2.2 pc = some i → am_ok lw_tbl kCl kTy kG kM83.1 kM83.2.1 kM83.2.2.2.1 kM83.2.2.2.2.1 pc i = true := by
  refine ⟨by decide +kernel, fun pc i h => ?_⟩
  obtain ⟨q, h1, h2⟩ := kLks_mem (l := km83) h
  simp only [km83, List.mem_cons, List.not_mem_nil, or_false] at h1
  rcases h1 with rfl
  have z := List.all_eq_true.mp kk83_0 (pc, i) h2
  exact z
theorem kk84_0 : kc84_0.all (fun q => am_ok lw_tbl kCl kTy kG kM84.1 kM84.2.1 kM84.2.2.2.1 kM84.2.2.2.2.1 q.1 q.2) = true := by decide +kernel
theorem kk84_1 : kc84_1.all (fun q => am_ok lw_tbl kCl kTy kG kM84.1 kM84.2.1 kM84.2.2.2.1 kM84.2.2.2.2.1 q.1 q.2) = true := by decide +kernel
theorem kk84_2 : kc84_2.all (fun q => am_ok lw_tbl kCl kTy kG kM84.1 kM84.2.1 kM84.2.2.2.1 kM84.2.2.2.2.1 q.1 q.2) = true := by decide +kernel
theorem kk84_3 : kc84_3.all (fun q => am_ok lw_tbl kCl kTy kG kM84.1 kM84.2.1 kM84.2.2.2.1 kM84.2.2.2.2.1 q.1 q.2) = true := by decide +kernel
theorem kk84_4 : kc84_4.all (fun q => am_ok lw_tbl kCl kTy kG kM84.1 kM84.2.1 kM84.2.2.2.1 kM84.2.2.2.2.1 q.1 q.2) = true := by decide +kernel
theorem kq84 : plainName kM84.1.cls = true ∧ ∀ (pc : Nat) (i : am_I), kM84.2.2.2.2.2 pc = some i → am_ok lw_tbl kCl kTy kG kM84.1 kM84.2.1 kM84.2.2.2.1 kM84.2.2.2.2.1 pc i = true := by
  refine ⟨by decide +kernel, fun pc i h => ?_⟩
  obtain ⟨q, h1, h2⟩ := kLks_mem (l := km84) h
  simp only [km84, List.mem_cons, List.not_mem_nil, or_false] at h1
  rcases h1 with rfl | rfl | rfl | rfl | rfl
  · have z := List.all_eq_true.mp kk84_0 (pc, i) h2
    exact z
  · have z := List.all_eq_true.mp kk84_1 (pc, i) h2
    exact z
  · have z := List.all_eq_true.mp kk84_2 (pc, i) h2
    exact z
  · have z := List.all_eq_true.mp kk84_3 (pc, i) h2
    exact z
  · have z := List.all_eq_true.mp kk84_4 (pc, i) h2
    exact z
theorem kk85_0 : kc85_0.all (fun q => am_ok lw_tbl kCl kTy kG kM85.1 kM85.2.1 kM85.2.2.2.1 kM85.2.2.2.2.1 q.1 q.2) = true := by decide +kernel
theorem kq85 : plainName kM85.1.cls = true ∧ ∀ (pc : Nat) (i : am_I), kM85.2.2.2.2.2 pc = some i → am_ok lw_tbl kCl kTy kG kM85.1 kM85.2.1 kM85.2.2.2.1 kM85.2.2.2.2.1 pc i = true := by
  refine ⟨by decide +kernel, fun pc i h => ?_⟩
  obtain ⟨q, h1, h2⟩ := kLks_mem (l := km85) h
  simp only [km85, List.mem_cons, List.not_mem_nil, or_false] at h1
  rcases h1 with rfl
  have z := List.all_eq_true.mp kk85_0 (pc, i) h2
  exact z
theorem kk86_0 : kc86_0.all (fun q => am_ok lw_tbl kCl kTy kG kM86.1 kM86.2.1 kM86.2.2.2.1 kM86.2.2.2.2.1 q.1 q.2) = true := by decide +kernel
theorem kq86 : plainName kM86.1.cls = true ∧ ∀ (pc : Nat) (i : am_I), kM86.2.2.2.2.2 pc = some i → am_ok lw_tbl kCl kTy kG kM86.1 kM86.2.1 kM86.2.2.2.1 kM86.2.2.2.2.1 pc i = true := by
  refine ⟨by decide +kernel, fun pc i h => ?_⟩
  obtain ⟨q, h1, h2⟩ := kLks_mem (l := km86) h
  simp only [km86, List.mem_cons, List.not_mem_nil, or_false] at h1
  rcases h1 with rfl
  have z := List.all_eq_true.mp kk86_0 (pc, i) h2
  exact z
theorem kk87_0 : kc87_0.all (fun q => am_ok lw_tbl kCl kTy kG kM87.1 kM87.2.1 kM87.2.2.2.1 kM87.2.2.2.2.1 q.1 q.2) = true := by decide +kernel
theorem kk87_1 : kc87_1.all (fun q => am_ok lw_tbl kCl kTy kG kM87.1 kM87.2.1 kM87.2.2.2.1 kM87.2.2.2.2.1 q.1 q.2) = true := by decide +kernel
theorem kq87 : plainName kM87.1.cls = true ∧ ∀ (pc : Nat) (i : am_I), kM87.2.2.2.2.2 pc = some i → am_ok lw_tbl kCl kTy kG kM87.1 kM87.2.1 kM87.2.2.2.1 kM87.2.2.2.2.1 pc i = true := by
  refine ⟨by decide +kernel, fun pc i h => ?_⟩
  obtain ⟨q, h1, h2⟩ := kLks_mem (l := km87) h
  simp only [km87, List.mem_cons, List.not_mem_nil, or_false] at h1
  rcases h1 with rfl | rfl
  · have z := List.all_eq_true.mp kk87_0 (pc, i) h2
    exact z
  · have z := List.all_eq_true.mp kk87_1 (pc, i) h2
    exact z
theorem kk88_0 : kc88_0.all (fun q => am_ok lw_tbl kCl kTy kG kM88.1 kM88.2.1 kM88.2.2.2.1 kM88.2.2.2.2.1 q.1 q.2) = true := by decide +kernel
theorem kq88 : plainName kM88.1.cls = true ∧ ∀ (pc : Nat) (i : am_I), kM88.2.2.2.2.2 pc = some i → am_ok lw_tbl kCl kTy kG kM88.1 kM88.2.1 kM88.2.2.2.1 kM88.2.2.2.2.1 pc i = true := by
  refine ⟨by decide +kernel, fun pc i h => ?_⟩
  obtain ⟨q, h1, h2⟩ := kLks_mem (l := km88) h
  simp only [km88, List.mem_cons, List.not_mem_nil, or_false] at h1
  rcases h1 with rfl
  have z := List.all_eq_true.mp kk88_0 (pc, i) h2
  exact z
theorem kk89_0 : kc89_0.all (fun q => am_ok lw_tbl kCl kTy kG kM89.1 kM89.2.1 kM89.2.2.2.1 kM89.2.2.2.2.1 q.1 q.2) = true := by decide +kernel
theorem kk89_1 : kc89_1.all (fun q => am_ok lw_tbl kCl kTy kG kM89.1 kM89.2.1 kM89.2.2.2.1 kM89.2.2.2.2.1 q.1 q.2) = true := by decide +kernel
theorem kq89 : plainName kM89.1.cls = true ∧ ∀ (pc : Nat) (i : am_I), kM89.2.2.2.2.2 pc = some i → am_ok lw_tbl kCl kTy kG kM89.1 kM89.2.1 kM89.2.2.2.1 kM89.2.2.2.2.1 pc i = true := by
  refine ⟨by decide +kernel, fun pc i h => ?_⟩
  obtain ⟨q, h1, h2⟩ := kLks_mem (l := km89) h
  simp only [km89, List.mem_cons, List.not_mem_nil, or_false] at h1
  rcases h1 with rfl | rfl
  · have z := List.all_eq_true.mp kk89_0 (pc, i) h2
    exact z
  · have z := List.all_eq_true.mp kk89_1 (pc, i) h2
    exact z
theorem kk90_0 : kc90_0.all (fun q => am_ok lw_tbl kCl kTy kG kM90.1 kM90.2.1 kM90.2.2.2.1 kM90.2.2.2.2.1 q.1 q.2) = true := by decide +kernel
theorem kq90 : plainName kM90.1.cls = true ∧ ∀ (pc : Nat) (i : am_I), kM90.2.2.2.2.2 pc = some i → am_ok lw_tbl kCl kTy kG kM90.1 kM90.2.1 kM90.2.2.2.1 kM90.2.2.2.2.1 pc i = true := by
  refine ⟨by decide +kernel, fun pc i h => ?_⟩
  obtain ⟨q, h1, h2⟩ := kLks_mem (l := km90) h
  simp only [km90, List.mem_cons, List.not_mem_nil, or_false] at h1
  rcases h1 with rfl
  have z := List.all_eq_true.mp kk90_0 (pc, i) h2
  exact z
theorem kk91_0 : kc91_0.all (fun q => am_ok lw_tbl kCl kTy kG kM91.1 kM91.2.1 kM91.2.2.2.1 kM91.2.2.2.2.1 q.1 q.2) = true := by decide +kernel
theorem kq91 : plainName kM91.1.cls = true ∧ ∀ (pc : Nat) (i : am_I), kM91.2.2.2.2.2 pc = some i → am_ok lw_tbl kCl kTy kG kM91.1 kM91.2.1 kM91.2.2.2.1 kM91.2.2.2.2.1 pc i = true := by
  refine ⟨by decide +kernel, fun pc i h => ?_⟩
  obtain ⟨q, h1, h2⟩ := kLks_mem (l := km91) h
  simp only [km91, List.mem_cons, List.not_mem_nil, or_false] at h1
  rcases h1 with rfl
  have z := List.all_eq_true.mp kk91_0 (pc, i) h2
  exact z
theorem kk92_0 : kc92_0.all (fun q => am_ok lw_tbl kCl kTy kG kM92.1 kM92.2.1 kM92.2.2.2.1 kM92.2.2.2.2.1 q.1 q.2) = true := by decide +kernel
theorem kq92 : plainName kM92.1.cls = true ∧ ∀ (pc : Nat) (i : am_I), kM92.2.2.2.2.2 pc = some i → am_ok lw_tbl kCl kTy kG kM92.1 kM92.2.1 kM92.2.2.2.1 kM92.2.2.2.2.1 pc i = true := by
  refine ⟨by decide +kernel, fun pc i h => ?_⟩
  obtain ⟨q, h1, h2⟩ := kLks_mem (l := km92) h
  simp only [km92, List.mem_cons, List.not_mem_nil, or_false] at h1
  rcases h1 with rfl
  have z := List.all_eq_true.mp kk92_0 (pc, i) h2
  exact z
theorem kk93_0 : kc93_0.all (fun q => am_ok lw_tbl kCl kTy kG kM93.1 kM93.2.1 kM93.2.2.2.1 kM93.2.2.2.2.1 q.1 q.2) = true := by decide +kernel
theorem kq93 : plainName kM93.1.cls = true ∧ ∀ (pc : Nat) (i : am_I), kM93.2.2.2.2.2 pc = some i → am_ok lw_tbl kCl kTy kG kM93.1 kM93.2.1 kM93.2.2.2.1 kM93.2.2.2.2.1 pc i = true := by
  refine ⟨by decide +kernel, fun pc i h => ?_⟩
  obtain ⟨q, h1, h2⟩ := kLks_mem (l := km93) h
  simp only [km93, List.mem_cons, List.not_mem_nil, or_false] at h1
  rcases h1 with rfl
  have z := List.all_eq_true.mp kk93_0 (pc, i) h2
  exact z
theorem kk94_0 : kc94_0.all (fun q => am_ok lw_tbl kCl kTy kG kM94.1 kM94.2.1 kM94.2.2.2.1 kM94.2.2.2.2.1 q.1 q.2) = true := by decide +kernel
theorem kq94 : plainName kM94.1.cls = true ∧ ∀ (pc : Nat) (i : am_I), kM94.2.2.2.2.2 pc = some i → am_ok lw_tbl kCl kTy kG kM94.1 kM94.2.1 kM94.2.2.2.1 kM94.2.2.2.2.1 pc i = true := by
  refine ⟨by decide +kernel, fun pc i h => ?_⟩
  obtain ⟨q, h1, h2⟩ := kLks_mem (l := km94) h
  simp only [km94, List.mem_cons, List.not_mem_nil, or_false] at h1
  rcases h1 with rfl
  have z := List.all_eq_true.mp kk94_0 (pc, i) h2
  exact z
theorem kk95_0 : kc95_0.all (fun q => am_ok lw_tbl kCl kTy kG kM95.1 kM95.2.1 kM95.2.2.2.1 kM95.2.2.2.2.1 q.1 q.2) = true := by decide +kernel
theorem kq95 : plainName kM95.1.cls = true ∧ ∀ (pc : Nat) (i : am_I), kM95.2.2.2.2.2 pc = some i → am_ok lw_tbl kCl kTy kG kM95.1 kM95.2.1 kM95.2.2.2.1 kM95.2.2.2.2.1 pc i = true := by
  refine ⟨by decide +kernel, fun pc i h => ?_⟩
  obtain ⟨q, h1, h2⟩ := kLks_mem (l := km95) h
  simp only [km95, List.mem_cons, List.not_mem_nil, or_false] at h1
  rcases h1 with rfl
  have z := List.all_eq_true.mp kk95_0 (pc, i) h2
  exact z
theorem kk96_0 : kc96_0.all (fun q => am_ok lw_tbl kCl kTy kG kM96.1 kM96.2.1 kM96.2.2.2.1 kM96.2.2.2.2.1 q.1 q.2) = true := by decide +kernel
theorem kq96 : plainName kM96.1.cls = true ∧ ∀ (pc : Nat) (i : am_I), kM96.2.2.2.2.2 pc = some i → am_ok lw_tbl kCl kTy kG kM96.1 kM96.2.1 kM96.2.2.2.1 kM96.2.2.2.2.1 pc i = true := by
  refine ⟨by decide +kernel, fun pc i h => ?_⟩
  obtain ⟨q, h1, h2⟩ := kLks_mem (l := km96) h
  simp only [km96, List.mem_cons, List.not_mem_nil, or_false] at h1
  rcases h1 with rfl
  have z := List.all_eq_true.mp kk96_0 (pc, i) h2
  exact z
theorem kk97_0 : kc97_0.all (fun q => am_ok lw_tbl kCl kTy kG kM97.1 kM97.2.1 kM97.2.2.2.1 kM97.2.2.2.2.1 q.1 q.2) = true := by decide +kernel
theorem kk97_1 : kc97_1.all (fun q => am_ok lw_tbl kCl kTy kG kM97.1 kM97.2.1 kM97.2.2.2.1 kM97.2.2.2.2.1 q.1 q.2) = true := by decide +kernel
theorem kq97 : plainName kM97.1.cls = true ∧ ∀ (pc : Nat) (i : am_I), kM97.2.2.2.2.2 pc = some i → am_ok lw_tbl kCl kTy kG kM97.1 kM97.2.1 kM97.2.2.2.1 kM97.2.2.2.2.1 pc i = true := by
  refine ⟨by decide +kernel, fun pc i h => ?_⟩
  obtain ⟨q, h1, h2⟩ := kLks_mem (l := km97) h
  simp only [km97, List.mem_cons, List.not_mem_nil, or_false] at h1
  rcases h1 with rfl | rfl
  · have z := List.all_eq_true.mp kk97_0 (pc, i) h2
    exact z
  · have z := List.all_eq_true.mp kk97_1 (pc, i) h2
    exact z
theorem kk98_0 : kc98_0.all (fun q => am_ok lw_tbl kCl kTy kG kM98.1 kM98.2.1 kM98.2.2.2.1 kM98.2.2.2.2.1 q.1 q.2) = true := by decide +kernel
theorem kk98_1 : kc98_1.all (fun q => am_ok lw_tbl kCl kTy kG kM98.1 kM98.2.1 kM98.2.2.2.1 kM98.2.2.2.2.1 q.1 q.2) = true := by decide +kernel
theorem kk98_2 : kc98_2.all (fun q => am_ok lw_tbl kCl kTy kG kM98.1 kM98.2.1 kM98.2.2.2.1 kM98.2.2.2.2.1 q.1 q.2) = true := by decide +kernel
theorem kq98 : plainName kM98.1.cls = true ∧ ∀ (pc : Nat) (i : am_I), kM98.2.2.2.2.2 pc = some i → am_ok lw_tbl kCl kTy kG kM98.1 kM98.2.1 kM98.2.2.2.1 kM98.2.2.2.2.1 pc i = true := by
  refine ⟨by decide +kernel, fun pc i h => ?_⟩
  obtain ⟨q, h1, h2⟩ := kLks_mem (l := km98) h
  simp only [km98, List.mem_cons, List.not_mem_nil, or_false] at h1
  rcases h1 with rfl | rfl | rfl
  · have z := List.all_eq_true.mp kk98_0 (pc, i) h2
    exact z
  · have z := List.all_eq_true.mp kk98_1 (pc, i) h2
    exact z
  · have z := List.all_eq_true.mp kk98_2 (pc, i) h2
    exact z
theorem kk99_0 : kc99_0.all (fun q => am_ok lw_tbl kCl kTy kG kM99.1 kM99.2.1 kM99.2.2.2.1 kM99.2.2.2.2.1 q.1 q.2) = true := by decide +kernel
theorem kq99 : plainName kM99.1.cls = true ∧ ∀ (pc : Nat) (i : am_I), kM99.2.2.2.2.2 pc = some i → am_ok lw_tbl kCl kTy kG kM99.1 kM99.2.1 kM99.2.2.2.1 kM99.2.2.2.2.1 pc i = true := by
  refine ⟨by decide +kernel, fun pc i h => ?_⟩
  obtain ⟨q, h1, h2⟩ := kLks_mem (l := km99) h
  simp only [km99, List.mem_cons, List.not_mem_nil, or_false] at h1
  rcases h1 with rfl
  have z := List.all_eq_true.mp kk99_0 (pc, i) h2
  exact z
theorem kk100_0 : kc100_0.all (fun q => am_ok lw_tbl kCl kTy kG kM100.1 kM100.2.1 kM100.2.2.2.1 kM100.2.2.2.2.1 q.1 q.2) = true := by decide +kernel
theorem kk100_1 : kc100_1.all (fun q => am_ok lw_tbl kCl kTy kG kM100.1 kM100.2.1 kM100.2.2.2.1 kM100.2.2.2.2.1 q.1 q.2) = true := by decide +kernel
theorem kq100 : plainName kM100.1.cls = true ∧ ∀ (pc : Nat) (i : am_I), kM100.2.2.2.2.2 pc = some i → am_ok lw_tbl kCl kTy kG kM100.1 kM100.2.1 kM100.2.2.2.1 kM100.2.2.2.2.1 pc i = true := by
  refine ⟨by decide +kernel, fun pc i h => ?_⟩
  obtain ⟨q, h1, h2⟩ := kLks_mem (l := km100) h
  simp only [km100, List.mem_cons, List.not_mem_nil, or_false] at h1
  rcases h1 with rfl | rfl
  · have z := List.all_eq_true.mp kk100_0 (pc, i) h2
    exact z
  · have z := List.all_eq_true.mp kk100_1 (pc, i) h2
    exact z
theorem kk101_0 : kc101_0.all (fun q => am_ok lw_tbl kCl kTy kG kM101.1 kM101.2.1 kM101.2.2.2.1 kM101.2.2.2.2.1 q.1 q.2) = true := by decide +kernel
theorem kk101_1 : kc101_1.all (fun q => am_ok lw_tbl kCl kTy kG kM101.1 kM101.2.1 kM101.2.2.2.1 kM101.2.2.2.2.1 q.1 q.2) = true := by decide +kernel
theorem kk101_2 : kc101_2.all (fun q => am_ok lw_tbl kCl kTy kG kM101.1 kM101.2.1 kM101.2.2.2.1 kM101.2.2.2.2.1 q.1 q.2) = true := by decide +kernel
theorem kq101 : plainName kM101.1.cls = true ∧ ∀ (pc : Nat) (i : am_I), kM101.2.2.2.2.2 pc = some i → am_ok lw_tbl kCl kTy kG kM101.1 kM101.2.1 kM101.2.2.2.1 kM101.2.2.2.2.1 pc i = true := by
  refine ⟨by decide +kernel, fun pc i h => ?_⟩
  obtain ⟨q, h1, h2⟩ := kLks_mem (l := km101) h
  simp only [km101, List.mem_cons, List.not_mem_nil, or_false] at h1
  rcases h1 with rfl | rfl | rfl
  · have z := List.all_eq_true.mp kk101_0 (pc, i) h2
    exact z
  · have z := List.all_eq_true.mp kk101_1 (pc, i) h2
    exact z
  · have z := List.all_eq_true.mp kk101_2 (pc, i) h2
    exact z
theorem kk102_0 : kc102_0.all (fun q => am_ok lw_tbl kCl kTy kG kM102.1 kM102.2.1 kM102.2.2.2.1 kM102.2.2.2.2.1 q.1 q.2) = true := by decide +kernel
theorem kk102_1 : kc102_1.all (fun q => am_ok lw_tbl kCl kTy kG kM102.1 kM102.2.1 kM102.2.2.2.1 kM102.2.2.2.2.1 q.1 q.2) = true := by decide +kernel
theorem kk102_2 : kc102_2.all (fun q => am_ok lw_tbl kCl kTy kG kM102.1 kM102.2.1 kM102.2.2.2.1 kM102.2.2.2.2.1 q.1 q.2) = true := by decide +kernel
theorem kq102 : plainName kM102.1.cls = true ∧ ∀ (pc : Nat) (i : am_I), kM102.2.2.2.2.2 pc = some i → am_ok lw_tbl kCl kTy kG kM102.1 kM102.2.1 kM102.2.2.2.1 kM102.2.2.2.2.1 pc i = true := by
  refine ⟨by decide +kernel, fun pc i h => ?_⟩
  obtain ⟨q, h1, h2⟩ := kLks_mem (l := km102) h
  simp only [km102, List.mem_cons, List.not_mem_nil, or_false] at h1
  rcases h1 with rfl | rfl | rfl
  · have z := List.all_eq_true.mp kk102_0 (pc, i) h2
    exact z
  · have z := List.all_eq_true.mp kk102_1 (pc, i) h2
    exact z
  · have z := List.all_eq_true.mp kk102_2 (pc, i) h2
    exact z
theorem kk103_0 : kc103_0.all (fun q => am_ok lw_tbl kCl kTy kG kM103.1 kM103.2.1 kM103.2.2.2.1 kM103.2.2.2.2.1 q.1 q.2) = true := by decide +kernel
theorem kk103_1 : kc103_1.all (fun q => am_ok lw_tbl kCl kTy kG kM103.1 kM103.2.1 kM103.2.2.2.1 kM103.2.2.2.2.1 q.1 q.2) = true := by decide +kernel
theorem kk103_2 : kc103_2.all (fun q => am_ok lw_tbl kCl kTy kG kM103.1 kM103.2.1 kM103.2.2.2.1 kM103.2.2.2.2.1 q.1 q.2) = true := by decide +kernel
theorem kq103 : plainName kM103.1.cls = true ∧ ∀ (pc : Nat) (i : am_I), kM103.2.2.2.2.2 pc = some i → am_ok lw_tbl kCl kTy kG kM103.1 kM103.2.1 kM103.2.2.2.1 kM103.2.2.2.2.1 pc i = true := by
  refine ⟨by decide +kernel, fun pc i h => ?_⟩
  obtain ⟨q, h1, h2⟩ := kLks_mem (l := km103) h
  simp only [km103, List.mem_cons, List.not_mem_nil, or_false] at h1
  rcases h1 with rfl | rfl | rfl
  · have z := List.all_eq_true.mp kk103_0 (pc, i) h2
    exact z
  · have z := List.all_eq_true.mp kk103_1 (pc, i) h2
    exact z
  · have z := List.all_eq_true.mp kk103_2 (pc, i) h2
    exact z
theorem kk104_0 : kc104_0.all (fun q => am_ok lw_tbl kCl kTy kG kM104.1 kM104.2.1 kM104.2.2.2.1 kM104.2.2.2.2.1 q.1 q.2) = true := by decide +kernel
theorem kk104_1 : kc104_1.all (fun q => am_ok lw_tbl kCl kTy kG kM104.1 kM104.2.1 kM104.2.2.2.1 kM104.2.2.2.2.1 q.1 q.2) = true := by decide +kernel
theorem kk104_2 : kc104_2.all (fun q => am_ok lw_tbl kCl kTy kG kM104.1 kM104.2.1 kM104.2.2.2.1 kM104.2.2.2.2.1 q.1 q.2) = true := by decide +kernel
theorem kq104 : plainName kM104.1.cls = true ∧ ∀ (pc : Nat) (i : am_I), kM104.2.2.2.2.2 pc = some i → am_ok lw_tbl kCl kTy kG kM104.1 kM104.2.1 kM104.2.2.2.1 kM104.2.2.2.2.1 pc i = true := by
  refine ⟨by decide +kernel, fun pc i h => ?_⟩
  obtain ⟨q, h1, h2⟩ := kLks_mem (l := km104) h
  simp only [km104, List.mem_cons, List.not_mem_nil, or_false] at h1
  rcases h1 with rfl | rfl | rfl
  · have z := List.all_eq_true.mp kk104_0 (pc, i) h2
    exact z
  · have z := List.all_eq_true.mp kk104_1 (pc, i) h2
    exact z
  · have z := List.all_eq_true.mp kk104_2 (pc, i) h2
    exact z
theorem kk105_0 : kc105_0.all (fun q => am_ok lw_tbl kCl kTy kG kM105.1 kM105.2.1 kM105.2.2.2.1 kM105.2.2.2.2.1 q.1 q.2) = true := by decide +kernel
theorem kk105_1 : kc105_1.all (fun q => am_ok lw_tbl kCl kTy kG kM105.1 kM105.2.1 kM105.2.2.2.1 kM105.2.2.2.2.1 q.1 q.2) = true := by decide +kernel
theorem kq105 : plainName kM105.1.cls = true ∧ ∀ (pc : Nat) (i : am_I), kM105.2.2.2.2.2 pc = some i → am_ok lw_tbl kCl kTy kG kM105.1 kM105.2.1 kM105.2.2.2.1 kM105.2.2.2.2.1 pc i = true := by
  refine ⟨by decide +kernel, fun pc i h => ?_⟩
  obtain ⟨q, h1, h2⟩ := kLks_mem (l := km105) h
  simp only [km105, List.mem_cons, List.not_mem_nil, or_false] at h1
  rcases h1 with rfl | rfl
  · have z := List.all_eq_true.mp kk105_0 (pc, i) h2
    exact z
  · have z := List.all_eq_true.mp kk105_1 (pc, i) h2
    exact z
theorem kk106_0 : kc106_0.all (fun q => am_ok lw_tbl kCl kTy kG kM106.1 kM106.2.1 kM106.2.2.2.1 kM106.2.2.2.2.1 q.1 q.2) = true := by decide +kernel
theorem kq106 : plainName kM106.1.cls = true ∧ ∀ (pc : Nat) (i : am_I), kM106.2.2.2.2.2 pc = some i → am_ok lw_tbl kCl kTy kG kM106.1 kM106.2.1 kM106.2.2.2.1 kM106.2.2.2.2.1 pc i = true := by
  refine ⟨by decide +kernel, fun pc i h => ?_⟩
  obtain ⟨q, h1, h2⟩ := kLks_mem (l := km106) h
  simp only [km106, List.mem_cons, List.not_mem_nil, or_false] at h1
  rcases h1 with rfl
  have z := List.all_eq_true.mp kk106_0 (pc, i) h2
  exact z
theorem kk107_0 : kc107_0.all (fun q => am_ok lw_tbl kCl kTy kG kM107.1 kM107.2.1 kM107.2.2.2.1 kM107.2.2.2.2.1 q.1 q.2) = true := by decide +kernel
theorem kk107_1 : kc107_1.all (fun q => am_ok lw_tbl kCl kTy kG kM107.1 kM107.2.1 kM107.2.2.2.1 kM107.2.2.2.2.1 q.1 q.2) = true := by decide +kernel
theorem kk107_2 : kc107_2.all (fun q => am_ok lw_tbl kCl kTy kG kM107.1 kM107.2.1 kM107.2.2.2.1 kM107.2.2.2.2.1 q.1 q.2) = true := by decide +kernel
theorem kq107 : plainName kM107.1.cls = true ∧ ∀ (pc : Nat) (i : am_I), kM107.2.2.2.2.2 pc = some i → am_ok lw_tbl kCl kTy kG kM107.1 kM107.2.1 kM107.2.2.2.1 kM107.2.2.2.2.1 pc i = true := by
  refine ⟨by decide +kernel, fun pc i h => ?_⟩
  obtain ⟨q, h1, h2⟩ := kLks_mem (l := km107) h
  simp only [km107, List.mem_cons, List.not_mem_nil, or_false] at h1
  rcases h1 with rfl | rfl | rfl
  · have z := List.all_eq_true.mp kk107_0 (pc, i) h2
    exact z
  · have z := List.all_eq_true.mp kk107_1 (pc, i) h2
    exact z
  · have z := List.all_eq_true.mp kk107_2 (pc, i) h2
    exact z
theorem kk108_0 : kc108_0.all (fun q => am_ok lw_tbl kCl kTy kG kM108.1 kM108.2.1 kM108.2.2.2.1 kM108.2.2.2.2.1 q.1 q.2) = true := by decide +kernel
theorem kq108 : plainName kM108.1.cls = true ∧ ∀ (pc : Nat) (i : am_I), kM108.2.2.2.2.2 pc = some i → am_ok lw_tbl kCl kTy kG kM108.1 kM108.2.1 kM108.2.2.2.1 kM108.2.2.2.2.1 pc i = true := by
  refine ⟨by decide +kernel, fun pc i h => ?_⟩
  obtain ⟨q, h1, h2⟩ := kLks_mem (l := km108) h
  simp only [km108, List.mem_cons, List.not_mem_nil, or_false] at h1
  rcases h1 with rfl
  have z := List.all_eq_true.mp kk108_0 (pc, i) h2
  exact z
theorem kk109_0 : kc109_0.all (fun q => am_ok lw_tbl kCl kTy kG kM109.1 kM109.2.1 kM109.2.2.2.1 kM109.2.2.2.2.1 q.1 q.2) = true := by decide +kernel
theorem kq109 : plainName kM109.1.cls = true ∧ ∀ (pc : Nat) (i : am_I), kM109.2.2.2.2.2 pc = some i → am_ok lw_tbl kCl kTy kG kM109.1 kM109.2.1 kM109.2.2.2.1 kM109.2.2.2.2.1 pc i = true := by
  refine ⟨by decide +kernel, fun pc i h => ?_⟩
  obtain ⟨q, h1, h2⟩ := kLks_mem (l := km109) h
  simp only [km109, List.mem_cons, List.not_mem_nil, or_false] at h1
  rcases h1 with rfl
  have z := List.all_eq_true.mp kk109_0 (pc, i) h2
  exact z
theorem kk110_0 : kc110_0.all (fun q => am_ok lw_tbl kCl kTy kG kM110.1 kM110.2.1 kM110.2.2.2.1 kM110.2.2.2.2.1 q.1 q.2) = true := by decide +kernel
theorem kq110 : plainName kM110.1.cls = true ∧ ∀ (pc : Nat) (i : am_I), kM110.2.2.2.2.2 pc = some i → am_ok lw_tbl kCl kTy kG kM110.1 kM110.2.1 kM110.2.2.2.1 kM110.2.2.2.2.1 pc i = true := by
  refine ⟨by decide +kernel, fun pc i h => ?_⟩
  obtain ⟨q, h1, h2⟩ := kLks_mem (l := km110) h
  simp only [km110, List.mem_cons, List.not_mem_nil, or_false] at h1
  rcases h1 with rfl
  have z := List.all_eq_true.mp kk110_0 (pc, i) h2
  exact z
theorem kk111_0 : kc111_0.all (fun q => am_ok lw_tbl kCl kTy kG kM111.1 kM111.2.1 kM111.2.2.2.1 kM111.2.2.2.2.1 q.1 q.2) = true := by decide +kernel
theorem kk111_1 : kc111_1.all (fun q => am_ok lw_tbl kCl kTy kG kM111.1 kM111.2.1 kM111.2.2.2.1 kM111.2.2.2.2.1 q.1 q.2) = true := by decide +kernel
theorem kk111_2 : kc111_2.all (fun q => am_ok lw_tbl kCl kTy kG kM111.1 kM111.2.1 kM111.2.2.2.1 kM111.2.2.2.2.1 q.1 q.2) = true := by decide +kernel
theorem kq111 : plainName kM111.1.cls = true ∧ ∀ (pc : Nat) (i : am_I), kM111.2.2.2.2.2 pc = some i → am_ok lw_tbl kCl kTy kG kM111.1 kM111.2.1 kM111.2.2.2.1 kM111.2.2.2.2.1 pc i = true := by
  refine ⟨by decide +kernel, fun pc i h => ?_⟩
  obtain ⟨q, h1, h2⟩ := kLks_mem (l := km111) h
  simp only [km111, List.mem_cons, List.not_mem_nil, or_false] at h1
  rcases h1 with rfl | rfl | rfl
  · have z := List.all_eq_true.mp kk111_0 (pc, i) h2
    exact z
  · have z := List.all_eq_true.mp kk111_1 (pc, i) h2
    exact z
  · have z := List.all_eq_true.mp kk111_2 (pc, i) h2
    exact z
theorem kk112_0 : kc112_0.all (fun q => am_ok lw_tbl kCl kTy kG kM112.1 kM112.2.1 kM112.2.2.2.1 kM112.2.2.2.2.1 q.1 q.2) = true := by decide +kernel
theorem kk112_1 : kc112_1.all (fun q => am_ok lw_tbl kCl kTy kG kM112.1 kM112.2.1 kM112.2.2.2.1 kM112.2.2.2.2.1 q.1 q.2) = true := by decide +kernel
theorem kq112 : plainName kM112.1.cls = true ∧ ∀ (pc : Nat) (i : am_I), kM112.2.2.2.2.2 pc = some i → am_ok lw_tbl kCl kTy kG kM112.1 kM112.2.1 kM112.2.2.2.1 kM112.2.2.2.2.1 pc i = true := by
  refine ⟨by decide +kernel, fun pc i h => ?_⟩
  obtain ⟨q, h1, h2⟩ := kLks_mem (l := km112) h
  simp only [km112, List.mem_cons, List.not_mem_nil, or_false] at h1
  rcases h1 with rfl | rfl
  · have z := List.all_eq_true.mp kk112_0 (pc, i) h2
    exact z
  · have z := List.all_eq_true.mp kk112_1 (pc, i) h2
    exact z
theorem kk113_0 : kc113_0.all (fun q => am_ok lw_tbl kCl kTy kG kM113.1 kM113.2.1 kM113.2.2.2.1 kM113.2.2.2.2.1 q.1 q.2) = true := by decide +kernel
theorem kk113_1 : kc113_1.all (fun q => am_ok lw_tbl kCl kTy kG kM113.1 kM113.2.1 kM113.2.2.2.1 kM113.2.2.2.2.1 q.1 q.2) = true := by decide +kernel
theorem kq113 : plainName kM113.1.cls = true ∧ ∀ (pc : Nat) (i : am_I), kM113.2.2.2.2.2 pc = some i → am_ok lw_tbl kCl kTy kG kM113.1 kM113.2.1 kM113.2.2.2.1 kM113.2.2.2.2.1 pc i = true := by
  refine ⟨by decide +kernel, fun pc i h => ?_⟩
  obtain ⟨q, h1, h2⟩ := kLks_mem (l := km113) h
  simp only [km113, List.mem_cons, List.not_mem_nil, or_false] at h1
  rcases h1 with rfl | rfl
  · have z := List.all_eq_true.mp kk113_0 (pc, i) h2
    exact z
  · have z := List.all_eq_true.mp kk113_1 (pc, i) h2
    exact z
theorem kk114_0 : kc114_0.all (fun q => am_ok lw_tbl kCl kTy kG kM114.1 kM114.2.1 kM114.2.2.2.1 kM114.2.2.2.2.1 q.1 q.2) = true := by decide +kernel
theorem kk114_1 : kc114_1.all (fun q => am_ok lw_tbl kCl kTy kG kM114.1 kM114.2.1 kM114.2.2.2.1 kM114.2.2.2.2.1 q.1 q.2) = true := by decide +kernel
theorem kq114 : plainName kM114.1.cls = true ∧ ∀ (pc : Nat) (i : am_I), kM114.2.2.2.2.2 pc = some i → am_ok lw_tbl kCl kTy kG kM114.1 kM114.2.1 kM114.2.2.2.1 kM114.2.2.2.2.1 pc i = true := by
  refine ⟨by decide +kernel, fun pc i h => ?_⟩
  obtain ⟨q, h1, h2⟩ := kLks_mem (l := km114) h
  simp only [km114, List.mem_cons, List.not_mem_nil, or_false] at h1
  rcases h1 with rfl | rfl
  · have z := List.all_eq_true.mp kk114_0 (pc, i) h2
    exact z
  · have z := List.all_eq_true.mp kk114_1 (pc, i) h2
    exact z
theorem kk115_0 : kc115_0.all (fun q => am_ok lw_tbl kCl kTy kG kM115.1 kM115.2.1 kM115.2.2.2.1 kM115.2.2.2.2.1 q.1 q.2) = true := by decide +kernel
theorem kk115_1 : kc115_1.all (fun q => am_ok lw_tbl kCl kTy kG kM115.1 kM115.2.1 kM115.2.2.2.1 kM115.2.2.2.2.1 q.1 q.2) = true := by decide +kernel
theorem kq115 : plainName kM115.1.cls = true ∧ ∀ (pc : Nat) (i : am_I), kM115.2.2.2.2.2 pc = some i → am_ok lw_tbl kCl kTy kG kM115.1 kM115.2.1 kM115.2.2.2.1 kM115.2.2.2.2.1 pc i = true := by
  refine ⟨by decide +kernel, fun pc i h => ?_⟩
  obtain ⟨q, h1, h2⟩ := kLks_mem (l := km115) h
  simp only [km115, List.mem_cons, List.not_mem_nil, or_false] at h1
  rcases h1 with rfl | rfl
  · have z := List.all_eq_true.mp kk115_0 (pc, i) h2
    exact z
  · have z := List.all_eq_true.mp kk115_1 (pc, i) h2
    exact z
theorem kk116_0 : kc116_0.all (fun q => am_ok lw_tbl kCl kTy kG kM116.1 kM116.2.1 kM116.2.2.2.1 kM116.2.2.2.2.1 q.1 q.2) = true := by decide +kernel
theorem kk116_1 : kc116_1.all (fun q => am_ok lw_tbl kCl kTy kG kM116.1 kM116.2.1 kM116.2.2.2.1 kM116.2.2.2.2.1 q.1 q.2) = true := by decide +kernel
theorem kq116 : plainName kM116.1.cls = true ∧ ∀ (pc : Nat) (i : am_I), kM116.2.2.2.2.2 pc = some i → am_ok lw_tbl kCl kTy kG kM116.1 kM116.2.1 kM116.2.2.2.1 kM116.2.2.2.2.1 pc i = true := by
  refine ⟨by decide +kernel, fun pc i h => ?_⟩
  obtain ⟨q, h1, h2⟩ := kLks_mem (l := km116) h
  simp only [km116, List.mem_cons, List.not_mem_nil, or_false] at h1
  rcases h1 with rfl | rfl
  · have z := List.all_eq_true.mp kk116_0 (pc, i) h2
    exact z
  · have z := List.all_eq_true.mp kk116_1 (pc, i) h2
    exact z
theorem kk117_0 : kc117_0.all (fun q => am_ok lw_tbl kCl kTy kG kM117.1 kM117.2.1 kM117.2.2.2.1 kM117.2.2.2.2.1 q.1 q.2) = true := by decide +kernel
theorem kk117_1 : kc117_1.all (fun q => am_ok lw_tbl kCl kTy kG kM117.1 kM117.2.1 kM117.2.2.2.1 kM117.2.2.2.2.1 q.1 q.2) = true := by decide +kernel
theorem kq117 : plainName kM117.1.cls = true ∧ ∀ (pc : Nat) (i : am_I), kM117.2.2.2.2.2 pc = some i → am_ok lw_tbl kCl kTy kG kM117.1 kM117.2.1 kM117.2.2.2.1 kM117.2.2.2.2.1 pc i = true := by
  refine ⟨by decide +kernel, fun pc i h => ?_⟩
  obtain ⟨q, h1, h2⟩ := kLks_mem (l := km117) h
  simp only [km117, List.mem_cons, List.not_mem_nil, or_false] at h1
  rcases h1 with rfl | rfl
  · have z := List.all_eq_true.mp kk117_0 (pc, i) h2
    exact z
  · have z := List.all_eq_true.mp kk117_1 (pc, i) h2
    exact z
theorem kk118_0 : kc118_0.all (fun q => am_ok lw_tbl kCl kTy kG kM118.1 kM118.2.1 kM118.2.2.2.1 kM118.2.2.2.2.1 q.1 q.2) = true := by decide +kernel
theorem kk118_1 : kc118_1.all (fun q => am_ok lw_tbl kCl kTy kG kM118.1 kM118.2.1 kM118.2.2.2.1 kM118.2.2.2.2.1 q.1 q.2) = true := by decide +kernel
theorem kq118 : plainName kM118.1.cls = true ∧ ∀ (pc : Nat) (i : am_I), kM118.2.2.2.2.2 pc = some i → am_ok lw_tbl kCl kTy kG kM118.1 kM118.2.1 kM118.2.2.2.1 kM118.2.2.2.2.1 pc i = true := by
  refine ⟨by decide +kernel, fun pc i h => ?_⟩
  obtain ⟨q, h1, h2⟩ := kLks_mem (l := km118) h
  simp only [km118, List.mem_cons, List.not_mem_nil, or_false] at h1
  rcases h1 with rfl | rfl
  · have z := List.all_eq_true.mp kk118_0 (pc, i) h2
    exact z
  · have z := List.all_eq_true.mp kk118_1 (pc, i) h2
    exact z
theorem kk119_0 : kc119_0.all (fun q => am_ok lw_tbl kCl kTy kG kM119.1 kM119.2.1 kM119.2.2.2.1 kM119.2.2.2.2.1 q.1 q.2) = true := by decide +kernel
theorem kk119_1 : kc119_1.all (fun q => am_ok lw_tbl kCl kTy kG kM119.1 kM119.2.1 kM119.2.2.2.1 kM119.2.2.2.2.1 q.1 q.2) = true := by decide +kernel
theorem kk119_2 : kc119_2.all (fun q => am_ok lw_tbl kCl kTy kG kM119.1 kM119.2.1 kM119.2.2.2.1 kM119.2.2.2.2.1 q.1 q.2) = true := by decide +kernel
theorem kq119 : plainName kM119.1.cls = true ∧ ∀ (pc : Nat) (i : am_I), kM119.2.2.2.2.2 pc = some i → am_ok lw_tbl kCl kTy kG kM119.1 kM119.2.1 kM119.2.2.2.1 kM119.2.2.2.2.1 pc i = true := by
  refine ⟨by decide +kernel, fun pc i h => ?_⟩
  obtain ⟨q, h1, h2⟩ := kLks_mem (l := km119) h
  simp only [km119, List.mem_cons, List.not_mem_nil, or_false] at h1
  rcases h1 with rfl | rfl | rfl
  · have z := List.all_eq_true.mp kk119_0 (pc, i) h2
    exact z
  · have z := List.all_eq_true.mp kk119_1 (pc, i) h2
    exact z
  · have z := List.all_eq_true.mp kk119_2 (pc, i) h2
    exact z
theorem kk120_0 : kc120_0.all (fun q => am_ok lw_tbl kCl kTy kG kM120.1 kM120.2.1 kM120.2.2.2.1 kM120.2.2.2.2.1 q.1 q.2) = true := by decide +kernel
theorem kk120_1 : kc120_1.all (fun q => am_ok lw_tbl kCl kTy kG kM120.1 kM120.2.1 kM120.2.2.2.1 kM120.2.2.2.2.1 q.1 q.2) = true := by decide +kernel
theorem kq120 : plainName kM120.1.cls = true ∧ ∀ (pc : Nat) (i : am_I), kM120.2.2.2.2.2 pc = some i → am_ok lw_tbl kCl kTy kG kM120.1 kM120.2.1 kM120.2.2.2.1 kM120.2.2.2.2.1 pc i = true := by
  refine ⟨by decide +kernel, fun pc i h => ?_⟩
  obtain ⟨q, h1, h2⟩ := kLks_mem (l := km120) h
  simp only [km120, List.mem_cons, List.not_mem_nil, or_false] at h1
  rcases h1 with rfl | rfl
  · have z := List.all_eq_true.mp kk120_0 (pc, i) h2
    exact z
  · have z := List.all_eq_true.mp kk120_1 (pc, i) h2
    exact z
theorem kk121_0 : kc121_0.all (fun q => am_ok lw_tbl kCl kTy kG kM121.1 kM121.2.1 kM121.2.2.2.1 kM121.2.2.2.2.1 q.1 q.2) = true := by decide +kernel
theorem kk121_1 : kc121_1.all (fun q => am_ok lw_tbl kCl kTy kG kM121.1 kM121.2.1 kM121.2.2.2.1 kM121.2.2.2.2.1 q.1 q.2) = true := by decide +kernel
theorem kk121_2 : kc121_2.all (fun q => am_ok lw_tbl kCl kTy kG kM121.1 kM121.2.1 kM121.2.2.2.1 kM121.2.2.2.2.1 q.1 q.2) = true := by decide +kernel
theorem kk121_3 : kc121_3.all (fun q => am_ok lw_tbl kCl kTy kG kM121.1 kM121.2.1 kM121.2.2.2.1 kM121.2.2.2.2.1 q.1 q.2) = true := by decide +kernel
theorem kk121_4 : kc121_4.all (fun q => am_ok lw_tbl kCl kTy kG kM121.1 kM121.2.1 kM121.2.2.2.1 kM121.2.2.2.2.1 q.1 q.2) = true := by decide +kernel
theorem kk121_5 : kc121_5.all (fun q => am_ok lw_tbl kCl kTy kG kM121.1 kM121.2.1 kM121.2.2.2.1 kM121.2.2.2.2.1 q.1 q.2) = true := by decide +kernel
theorem kq121 : plainName kM121.1.cls = true ∧ ∀ (pc : Nat) (i : am_I), kM121.2.2.2.2.2 pc = some i → am_ok lw_tbl kCl kTy kG kM121.1 kM121.2.1 kM121.2.2.2.1 kM121.2.2.2.2.1 pc i = true := by
  refine ⟨by decide +kernel, fun pc i h => ?_⟩
  obtain ⟨q, h1, h2⟩ := kLks_mem (l := km121) h
  simp only [km121, List.mem_cons, List.not_mem_nil, or_false] at h1
  rcases h1 with rfl | rfl | rfl | rfl | rfl | rfl
  · have z := List.all_eq_true.mp kk121_0 (pc, i) h2
    exact z
  · have z := List.all_eq_true.mp kk121_1 (pc, i) h2
    exact z
  · have z := List.all_eq_true.mp kk121_2 (pc, i) h2
    exact z
  · have z := List.all_eq_true.mp kk121_3 (pc, i) h2
    exact z
  · have z := List.all_eq_true.mp kk121_4 (pc, i) h2
    exact z
  · have z := List.all_eq_true.mp kk121_5 (pc, i) h2
    exact z
theorem kk122_0 : kc122_0.all (fun q => am_ok lw_tbl kCl kTy kG kM122.1 kM122.2.1 kM122.2.2.2.1 kM122.2.2.2.2.1 q.1 q.2) = true := by decide +kernel
theorem kk122_1 : kc122_1.all (fun q => am_ok lw_tbl kCl kTy kG kM122.1 kM122.2.1 kM122.2.2.2.1 kM122.2.2.2.2.1 q.1 q.2) = true := by decide +kernel
theorem kk122_2 : kc122_2.all (fun q => am_ok lw_tbl kCl kTy kG kM122.1 kM122.2.1 kM122.2.2.2.1 kM122.2.2.2.2.1 q.1 q.2) = true := by decide +kernel
theorem kk122_3 : kc122_3.all (fun q => am_ok lw_tbl kCl kTy kG kM122.1 kM122.2.1 kM122.2.2.2.1 kM122.2.2.2.2.1 q.1 q.2) = true := by decide +kernel
theorem kk122_4 : kc122_4.all (fun q => am_ok lw_tbl kCl kTy kG kM122.1 kM122.2.1 kM122.2.2.2.1 kM122.2.2.2.2.1 q.1 q.2) = true := by decide +kernel
theorem kq122 : plainName kM122.1.cls = true ∧ ∀ (pc : Nat) (i : am_I), kM122.2.2.2.2.2 pc = some i → am_ok lw_tbl kCl kTy kG kM122.1 kM122.2.1 kM122.2.2.2.1 kM122.2.2.2.2.1 pc i = true := by
  refine ⟨by decide +kernel, fun pc i h => ?_⟩
  obtain ⟨q, h1, h2⟩ := kLks_mem (l := km122) h
  simp only [km122, List.mem_cons, List.not_mem_nil, or_false] at h1
  rcases h1 with rfl | rfl | rfl | rfl | rfl
  · have z := List.all_eq_true.mp kk122_0 (pc, i) h2
    exact z
  · have z := List.all_eq_true.mp kk122_1 (pc, i) h2
    exact z
  · have z := List.all_eq_true.mp kk122_2 (pc, i) h2
    exact z
  · have z := List.all_eq_true.mp kk122_3 (pc, i) h2
    exact z
  · have z := List.all_eq_true.mp kk122_4 (pc, i) h2
    exact z
theorem kk123_0 : kc123_0.all (fun q => am_ok lw_tbl kCl kTy kG kM123.1 kM123.2.1 kM123.2.2.2.1 kM123.2.2.2.2.1 q.1 q.2) = true := by decide +kernel
theorem kq123 : plainName kM123.1.cls = true ∧ ∀ (pc : Nat) (i : am_I), kM123.2.2.2.2.2 pc = some i → am_ok lw_tbl kCl kTy kG kM123.1 kM123.2.1 kM123.2.2.2.1 kM123.2.2.2.2.1 pc i = true := by
  refine ⟨by decide +kernel, fun pc i h => ?_⟩
  obtain ⟨q, h1, h2⟩ := kLks_mem (l := km123) h
  simp only [km123, List.mem_cons, List.not_mem_nil, or_false] at h1
  rcases h1 with rfl
  have z := List.all_eq_true.mp kk123_0 (pc, i) h2
  exact z
theorem kk124_0 : kc124_0.all (fun q => am_ok lw_tbl kCl kTy kG kM124.1 kM124.2.1 kM124.2.2.2.1 kM124.2.2.2.2.1 q.1 q.2) = true := by decide +kernel
theorem kq124 : plainName kM124.1.cls = true ∧ ∀ (pc : Nat) (i : am_I), kM124.2.2.2.2.2 pc = some i → am_ok lw_tbl kCl kTy kG kM124.1 kM124.2.1 kM124.2.2.2.1 kM124.2.2.2.2.1 pc i = true := by
  refine ⟨by decide +kernel, fun pc i h => ?_⟩
  obtain ⟨q, h1, h2⟩ := kLks_mem (l := km124) h
  simp only [km124, List.mem_cons, List.not_mem_nil, or_false] at h1
  rcases h1 with rfl
  have z := List.all_eq_true.mp kk124_0 (pc, i) h2
  exact z
theorem kk125_0 : kc125_0.all (fun q => am_ok lw_tbl kCl kTy kG kM125.1 kM125.2.1 kM125.2.2.2.1 kM125.2.2.2.2.1 q.1 q.2) = true := by decide +kernel
theorem kq125 : plainName kM125.1.cls = true ∧ ∀ (pc : Nat) (i : am_I), kM125.2.2.2.2.2 pc = some i → am_ok lw_tbl kCl kTy kG kM125.1 kM125.2.1 kM125.2.2.2.1 kM125.2.2.2.2.1 pc i = true := by
  refine ⟨by decide +kernel, fun pc i h => ?_⟩
  obtain ⟨q, h1, h2⟩ := kLks_mem (l := km125) h
  simp only [km125, List.mem_cons, List.not_mem_nil, or_false] at h1
  rcases h1 with rfl
  have z := List.all_eq_true.mp kk125_0 (pc, i) h2
  exact z
theorem kk126_0 : kc126_0.all (fun q => am_ok lw_tbl kCl kTy kG kM126.1 kM126.2.1 kM126.2.2.2.1 kM126.2.2.2.2.1 q.1 q.2) = true := by decide +kernel
theorem kq126 : plainName kM126.1.cls = true ∧ ∀ (pc : Nat) (i : am_I), kM126.2.2.2.2.2 pc = some i → am_ok lw_tbl kCl kTy kG kM126.1 kM126.2.1 kM126.2.2.2.1 kM126.2.2.2.2.1 pc i = true := by
  refine ⟨by decide +kernel, fun pc i h => ?_⟩
  obtain ⟨q, h1, h2⟩ := kLks_mem (l := km126) h
  simp only [km126, List.mem_cons, List.not_mem_nil, or_false] at h1
  rcases h1 with rfl
  have z := List.all_eq_true.mp kk126_0 (pc, i) h2
  exact z
theorem kk127_0 : kc127_0.all (fun q => am_ok lw_tbl kCl kTy kG kM127.1 kM127.2.1 kM127.2.2.2.1 kM127.2.2.2.2.1 q.1 q.2) = true := by decide +kernel
theorem kq127 : plainName kM127.1.cls = true ∧ ∀ (pc : Nat) (i : am_I), kM127.2.2.2.2.2 pc = some i → am_ok lw_tbl kCl kTy kG kM127.1 kM127.2.1 kM127.2.2.2.1 kM127.2.2.2.2.1 pc i = true := by
  refine ⟨by decide +kernel, fun pc i h => ?_⟩
  obtain ⟨q, h1, h2⟩ := kLks_mem (l := km127) h
  simp only [km127, List.mem_cons, List.not_mem_nil, or_false] at h1
  rcases h1 with rfl
  have z := List.all_eq_true.mp kk127_0 (pc, i) h2
  exact z
theorem kk128_0 : kc128_0.all (fun q => am_ok lw_tbl kCl kTy kG kM128.1 kM128.2.1 kM128.2.2.2.1 kM128.2.2.2.2.1 q.1 q.2) = true := by decide +kernel
theorem kq128 : plainName kM128.1.cls = true ∧ ∀ (pc : Nat) (i : am_I), kM128.2.2.2.2.2 pc = some i → am_ok lw_tbl kCl kTy kG kM128.1 kM128.2.1 kM128.2.2.2.1 kM128.2.2.2.2.1 pc i = true := by
  refine ⟨by decide +kernel, fun pc i h => ?_⟩
  obtain ⟨q, h1, h2⟩ := kLks_mem (l := km128) h
  simp only [km128, List.mem_cons, List.not_mem_nil, or_false] at h1
  rcases h1 with rfl
  have z := List.all_eq_true.mp kk128_0 (pc, i) h2
  exact z
theorem kk129_0 : kc129_0.all (fun q => am_ok lw_tbl kCl kTy kG kM129.1 kM129.2.1 kM129.2.2.2.1 kM129.2.2.2.2.1 q.1 q.2) = true := by decide +kernel
theorem kq129 : plainName kM129.1.cls = true ∧ ∀ (pc : Nat) (i : am_I), kM129.2.2.2.2.2 pc = some i → am_ok lw_tbl kCl kTy kG kM129.1 kM129.2.1 kM129.2.2.2.1 kM129.2.2.2.2.1 pc i = true := by
  refine ⟨by decide +kernel, fun pc i h => ?_⟩
  obtain ⟨q, h1, h2⟩ := kLks_mem (l := km129) h
  simp only [km129, List.mem_cons, List.not_mem_nil, or_false] at h1
  rcases h1 with rfl
  have z := List.all_eq_true.mp kk129_0 (pc, i) h2
  exact z
theorem kk130_0 : kc130_0.all (fun q => am_ok lw_tbl kCl kTy kG kM130.1 kM130.2.1 kM130.2.2.2.1 kM130.2.2.2.2.1 q.1 q.2) = true := by decide +kernel
theorem kq130 : plainName kM130.1.cls = true ∧ ∀ (pc : Nat) (i : am_I), kM130.2.2.2.2.2 pc = some i → am_ok lw_tbl kCl kTy kG kM130.1 kM130.2.1 kM130.2.2.2.1 kM130.2.2.2.2.1 pc i = true := by
  refine ⟨by decide +kernel, fun pc i h => ?_⟩
  obtain ⟨q, h1, h2⟩ := kLks_mem (l := km130) h
  simp only [km130, List.mem_cons, List.not_mem_nil, or_false] at h1
  rcases h1 with rfl
  have z := List.all_eq_true.mp kk130_0 (pc, i) h2
  exact z
theorem kk131_0 : kc131_0.all (fun q => am_ok lw_tbl kCl kTy kG kM131.1 kM131.2.1 kM131.2.2.2.1 kM131.2.2.2.2.1 q.1 q.2) = true := by decide +kernel
theorem kq131 : plainName kM131.1.cls = true ∧ ∀ (pc : Nat) (i : am_I), kM131.2.2.2.2.2 pc = some i → am_ok lw_tbl kCl kTy kG kM131.1 kM131.2.1 kM131.2.2.2.1 kM131.2.2.2.2.1 pc i = true := by
  refine ⟨by decide +kernel, fun pc i h => ?_⟩
  obtain ⟨q, h1, h2⟩ := kLks_mem (l := km131) h
  simp only [km131, List.mem_cons, List.not_mem_nil, or_false] at h1
  rcases h1 with rfl
  have z := List.all_eq_true.mp kk131_0 (pc, i) h2
  exact z
theorem kk132_0 : kc132_0.all (fun q => am_ok lw_tbl kCl kTy kG kM132.1 kM132.2.1 kM132.2.2.2.1 kM132.2.2.2.2.1 q.1 q.2) = true := by decide +kernel
theorem kq132 : plainName kM132.1.cls = true ∧ ∀ (pc : Nat) (i : am_I), kM132.2.2.2.2.2 pc = some i → am_ok lw_tbl kCl kTy kG kM132.1 kM132.2.1 kM132.2.2.2.1 kM132.2.2.2.2.1 pc i = true := by
  refine ⟨by decide +kernel, fun pc i h => ?_⟩
  obtain ⟨q, h1, h2⟩ := kLks_mem (l := km132) h
  simp only [km132, List.mem_cons, List.not_mem_nil, or_false] at h1
  rcases h1 with rfl
  have z := List.all_eq_true.mp kk132_0 (pc, i) h2
  exact z
theorem kk133_0 : kc133_0.all (fun q => am_ok lw_tbl kCl kTy kG kM133.1 kM133.2.1 kM133.2.2.2.1 kM133.2.2.2.2.1 q.1 q.2) = true := by decide +kernel
theorem kq133 : plainName kM133.1.cls = true ∧ ∀ (pc : Nat) (i : am_I), kM133.2.2.2.2.2 pc = some i → am_ok lw_tbl kCl kTy kG kM133.1 kM133.2.1 kM133.2.2.2.1 kM133.2.2.2.2.1 pc i = true := by
  refine ⟨by decide +kernel, fun pc i h => ?_⟩
  obtain ⟨q, h1, h2⟩ := kLks_mem (l := km133) h
  simp only [km133, List.mem_cons, List.not_mem_nil, or_false] at h1
  rcases h1 with rfl
  have z := List.all_eq_true.mp kk133_0 (pc, i) h2
  exact z
theorem kk134_0 : kc134_0.all (fun q => am_ok lw_tbl kCl kTy kG kM134.1 kM134.2.1 kM134.2.2.2.1 kM134.2.2.2.2.1 q.1 q.2) = true := by decide +kernel
theorem kq134 : plainName kM134.1.cls = true ∧ ∀ (pc : Nat) (i : am_I), kM134.2.2.2.2.2 pc = some i → am_ok lw_tbl kCl kTy kG kM134.1 kM134.2.1 kM134.2.2.2.1 kM134.2.2.2.2.1 pc i = true := by
  refine ⟨by decide +kernel, fun pc i h => ?_⟩
  obtain ⟨q, h1, h2⟩ := kLks_mem (l := km134) h
  simp only [km134, List.mem_cons, List.not_mem_nil, or_false] at h1
  rcases h1 with rfl
  have z := List.all_eq_true.mp kk134_0 (pc, i) h2
  exact z
theorem kk135_0 : kc135_0.all (fun q => am_ok lw_tbl kCl kTy kG kM135.1 kM135.2.1 kM135.2.2.2.1 kM135.2.2.2.2.1 q.1 q.2) = true := by decide +kernel
theorem kq135 : plainName kM135.1.cls = true ∧ ∀ (pc : Nat) (i : am_I), kM135.2.2.2.2.2 pc = some i → am_ok lw_tbl kCl kTy kG kM135.1 kM135.2.1 kM135.2.2.2.1 kM135.2.2.2.2.1 pc i = true := by
  refine ⟨by decide +kernel, fun pc i h => ?_⟩
  obtain ⟨q, h1, h2⟩ := kLks_mem (l := km135) h
  simp only [km135, List.mem_cons, List.not_mem_nil, or_false] at h1
  rcases h1 with rfl
  have z := List.all_eq_true.mp kk135_0 (pc, i) h2
  exact z
theorem kk136_0 : kc136_0.all (fun q => am_ok lw_tbl kCl kTy kG kM136.1 kM136.2.1 kM136.2.2.2.1 kM136.2.2.2.2.1 q.1 q.2) = true := by decide +kernel
theorem kq136 : plainName kM136.1.cls = true ∧ ∀ (pc : Nat) (i : am_I), kM136.2.2.2.2.2 pc = some i → am_ok lw_tbl kCl kTy kG kM136.1 kM136.2.1 kM136.2.2.2.1 kM136.2.2.2.2.1 pc i = true := by
  refine ⟨by decide +kernel, fun pc i h => ?_⟩
  obtain ⟨q, h1, h2⟩ := kLks_mem (l := km136) h
  simp only [km136, List.mem_cons, List.not_mem_nil, or_false] at h1
  rcases h1 with rfl
  have z := List.all_eq_true.mp kk136_0 (pc, i) h2
  exact z
theorem kk137_0 : kc137_0.all (fun q => am_ok lw_tbl kCl kTy kG kM137.1 kM137.2.1 kM137.2.2.2.1 kM137.2.2.2.2.1 q.1 q.2) = true := by decide +kernel
theorem kq137 : plainName kM137.1.cls = true ∧ ∀ (pc : Nat) (i : am_I), kM137.2.2.2.2.2 pc = some i → am_ok lw_tbl kCl kTy kG kM137.1 kM137.2.1 kM137.2.2.2.1 kM137.2.2.2.2.1 pc i = true := by
  refine ⟨by decide +kernel, fun pc i h => ?_⟩
  obtain ⟨q, h1, h2⟩ := kLks_mem (l := km137) h
  simp only [km137, List.mem_cons, List.not_mem_nil, or_false] at h1
  rcases h1 with rfl
  have z := List.all_eq_true.mp kk137_0 (pc, i) h2
  exact z
