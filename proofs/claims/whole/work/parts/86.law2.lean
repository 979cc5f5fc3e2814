/-! the tables hold (the law, its second half) -/
theorem kk0_21 : kc0_21.all (fun q => am_ok lw_tbl kCl kTy kG kM0.1 kM0.2.1 kM0.2.2.2.1 kM0.2.2.2.2.1 q.1 q.2) = true := by decide +kernel
theorem kk0_22 : kc0_22.all (fun q => am_ok lw_tbl kCl kTy kG kM0.1 kM0.2.1 kM0.2.2.2.1 kM0.2.2.2.2.1 q.1 q.2) = true := by decide +kernel
theorem kk0_23 : kc0_23.all (fun q => am_ok lw_tbl kCl kTy kG kM0.1 kM0.2.1 kM0.2.2.2.1 kM0.2.2.2.2.1 q.1 q.2) = true := by decide +kernel
theorem kk0_24 : kc0_24.all (fun q => am_ok lw_tbl kCl kTy kG kM0.1 kM0.2.1 kM0.2.2.2.1 kM0.2.2.2.2.1 q.1 q.2) = true := by decide +kernel
theorem kk0_25 : kc0_25.all (fun q => am_ok lw_tbl kCl kTy kG kM0.1 kM0.2.1 kM0.2.2.2.1 kM0.2.2.2.2.1 q.1 q.2) = true := by decide +kernel
theorem kk0_26 : kc0_26.all (fun q => am_ok lw_tbl kCl kTy kG kM0.1 kM0.2.1 kM0.2.2.2.1 kM0.2.2.2.2.1 q.1 q.2) = true := by decide +kernel
theorem kk0_27 : kc0_27.all (fun q => am_ok lw_tbl kCl kTy kG kM0.1 kM0.2.1 kM0.2.2.2.1 kM0.2.2.2.2.1 q.1 q.2) = true := by decide +kernel
theorem kk0_28 : kc0_28.all (fun q => am_ok lw_tbl kCl kTy kG kM0.1 kM0.2.1 kM0.2.2.2.1 kM0.2.2.2.2.1 q.1 q.2) = true := by decide +kernel
theorem kk0_29 : kc0_29.all (fun q => am_ok lw_tbl kCl kTy kG kM0.1 kM0.2.1 kM0.2.2.2.1 kM0.2.2.2.2.1 q.1 q.2) = true := by decide +kernel
theorem kk0_30 : kc0_30.all (fun q => am_ok lw_tbl kCl kTy kG kM0.1 kM0.2.1 kM0.2.2.2.1 kM0.2.2.2.2.1 q.1 q.2) = true := by decide +kernel
theorem kk0_31 : kc0_31.all (fun q => am_ok lw_tbl kCl kTy kG kM0.1 kM0.2.1 kM0.2.2.2.1 kM0.2.2.2.2.1 q.1 q.2) = true := by decide +kernel
theorem kk0_32 : kc0_32.all (fun q => am_ok lw_tbl kCl kTy kG kM0.1 kM0.2.1 kM0.2.2.2.1 kM0.2.2.2.2.1 q.1 q.2) = true := by decide +kernel
theorem kk0_33 : kc0_33.all (fun q => am_ok lw_tbl kCl kTy kG kM0.1 kM0.2.1 kM0.2.2.2.1 kM0.2.2.2.2.1 q.1 q.2) = true := by decide +kernel
theorem kk0_34 : kc0_34.all (fun q => am_ok lw_tbl kCl kTy kG kM0.1 kM0.2.1 kM0.2.2.2.1 kM0.2.2.2.2.1 q.1 q.2) = true := by decide +kernel
theorem kk0_35 : kc0_35.all (fun q => am_ok lw_tbl kCl kTy kG kM0.1 kM0.2.1 kM0.2.2.2.1 kM0.2.2.2.2.1 q.1 q.2) = true := by decide +kernel
theorem kk0_36 : kc0_36.all (fun q => am_ok lw_tbl kCl kTy kG kM0.1 kM0.2.1 kM0.2.2.2.1 kM0.2.2.2.2.1 q.1 q.2) = true := by decide +kernel
theorem kk0_37 : kc0_37.all (fun q => am_ok lw_tbl kCl kTy kG kM0.1 kM0.2.1 kM0.2.2.2.1 kM0.2.2.2.2.1 q.1 q.2) = true := by decide +kernel
theorem kk0_38 : kc0_38.all (fun q => am_ok lw_tbl kCl kTy kG kM0.1 kM0.2.1 kM0.2.2.2.1 kM0.2.2.2.2.1 q.1 q.2) = true := by decide +kernel
theorem kk0_39 : kc0_39.all (fun q => am_ok lw_tbl kCl kTy kG kM0.1 kM0.2.1 kM0.2.2.2.1 kM0.2.2.2.2.1 q.1 q.2) = true := by decide +kernel
theorem kk0_40 : kc0_40.all (fun q => am_ok lw_tbl kCl kTy kG kM0.1 kM0.2.1 kM0.2.2.2.1 kM0.2.2.2.2.1 q.1 q.2) = true := by decide +kernel
theorem kk0_41 : kc0_41.all (fun q => am_ok lw_tbl kCl kTy kG kM0.1 kM0.2.1 kM0.2.2.2.1 kM0.2.2.2.2.1 q.1 q.2) = true := by decide +kernel
theorem kq0 : plainName kM0.1.cls = true ∧ ∀ (pc : Nat) (i : am_I), kM0.2.2.2.2.2 pc = some i → am_ok lw_tbl kCl kTy kG kM0.1 kM0.2.1 kM0.2.2.2.1 kM0.2.2.2.2.1 pc i = true := by
  refine ⟨by decide +kernel, fun pc i h => ?_⟩
  obtain ⟨q, h1, h2⟩ := kLks_mem (l := km0) h
  simp only [km0, List.mem_cons, List.not_mem_nil, or_false] at h1
  rcases h1 with rfl | rfl | rfl | rfl | rfl | rfl | rfl | rfl | rfl | rfl | rfl | rfl | rfl | rfl | rfl | rfl | rfl | rfl | rfl | rfl | rfl | rfl | rfl | rfl | rfl | rfl | rfl | rfl | rfl | rfl | rfl | rfl | rfl | rfl | rfl | rfl | rfl | rfl | rfl | rfl | rfl | rfl
  · have z := List.all_eq_true.mp kk0_0 (pc, i) h2
    exact z
  · have z := List.all_eq_true.mp kk0_1 (pc, i) h2
    exact z
  · have z := List.all_eq_true.mp kk0_2 (pc, i) h2
    exact z
  · have z := List.all_eq_true.mp kk0_3 (pc, i) h2
    exact z
  · have z := List.all_eq_true.mp kk0_4 (pc, i) h2
    exact z
  · have z := List.all_eq_true.mp kk0_5 (pc, i) h2
    exact z
  · have z := List.all_eq_true.mp kk0_6 (pc, i) h2
    exact z
  · have z := List.all_eq_true.mp kk0_7 (pc, i) h2
    exact z
  · have z := List.all_eq_true.mp kk0_8 (pc, i) h2
    exact z
  · have z := List.all_eq_true.mp kk0_9 (pc, i) h2
    exact z
  · have z := List.all_eq_true.mp kk0_10 (pc, i) h2
    exact z
  · have z := List.all_eq_true.mp kk0_11 (pc, i) h2
    exact z
  · have z := List.all_eq_true.mp kk0_12 (pc, i) h2
    exact z
  · have z := List.all_eq_true.mp kk0_13 (pc, i) h2
    exact z
  · have z := List.all_eq_true.mp kk0_14 (pc, i) h2
    exact z
  · have z := List.all_eq_true.mp kk0_15 (pc, i) h2
    exact z
  · have z := List.all_eq_true.mp kk0_16 (pc, i) h2
    exact z
  · have z := List.all_eq_true.mp kk0_17 (pc, i) h2
    exact z
  · have z := List.all_eq_true.mp kk0_18 (pc, i) h2
    exact z
  · have z := List.all_eq_true.mp kk0_19 (pc, i) h2
    exact z
  · have z := List.all_eq_true.mp kk0_20 (pc, i) h2
    exact z
  · have z := List.all_eq_true.mp kk0_21 (pc, i) h2
    exact z
  · have z := List.all_eq_true.mp kk0_22 (pc, i) h2
    exact z
  · have z := List.all_eq_true.mp kk0_23 (pc, i) h2
    exact z
  · have z := List.all_eq_true.mp kk0_24 (pc, i) h2
    exact z
  · have z := List.all_eq_true.mp kk0_25 (pc, i) h2
    exact z
  · have z := List.all_eq_true.mp kk0_26 (pc, i) h2
    exact z
  · have z := List.all_eq_true.mp kk0_27 (pc, i) h2
    exact z
  · have z := List.all_eq_true.mp kk0_28 (pc, i) h2
    exact z
  · have z := List.all_eq_true.mp kk0_29 (pc, i) h2
    exact z
  · have z := List.all_eq_true.mp kk0_30 (pc, i) h2
    exact z
  · have z := List.all_eq_true.mp kk0_31 (pc, i) h2
    exact z
  · have z := List.all_eq_true.mp kk0_32 (pc, i) h2
    exact z
  · have z := List.all_eq_true.mp kk0_33 (pc, i) h2
    exact z
  · have z := List.all_eq_true.mp kk0_34 (pc, i) h2
    exact z
  · have z := List.all_eq_true.mp kk0_35 (pc, i) h2
    exact z
  · have z := List.all_eq_true.mp kk0_36 (pc, i) h2
    exact z
  · have z := List.all_eq_true.mp kk0_37 (pc, i) h2
    exact z
  · have z := List.all_eq_true.mp kk0_38 (pc, i) h2
    exact z
  · have z := List.all_eq_true.mp kk0_39 (pc, i) h2
    exact z
  · have z := List.all_eq_true.mp kk0_40 (pc, i) h2
    exact z
  · have z := List.all_eq_true.mp kk0_41 (pc, i) h2
    exact z
