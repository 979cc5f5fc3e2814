/-! the tables hold (the reference), and all together -/
theorem kk138_0 : kc138_0.all (fun q => am_ok lw_tbl kCl kTy kG kM138.1 kM138.2.1 kM138.2.2.2.1 kM138.2.2.2.2.1 q.1 q.2) = true := by decide +kernel
theorem kk138_1 : kc138_1.all (fun q => am_ok lw_tbl kCl kTy kG kM138.1 kM138.2.1 kM138.2.2.2.1 kM138.2.2.2.2.1 q.1 q.2) = true := by decide +kernel
theorem kk138_2 : kc138_2.all (fun q => am_ok lw_tbl kCl kTy kG kM138.1 kM138.2.1 kM138.2.2.2.1 kM138.2.2.2.2.1 q.1 q.2) = true := by decide +kernel
theorem kk138_3 : kc138_3.all (fun q => am_ok lw_tbl kCl kTy kG kM138.1 kM138.2.1 kM138.2.2.2.1 kM138.2.2.2.2.1 q.1 q.2) = true := by decide +kernel
theorem kq138 : plainName kM138.1.cls = true ∧ ∀ (pc : Nat) (i : am_I), kM138.2.2.2.2.2 pc = some i → am_ok lw_tbl kCl kTy kG kM138.1 kM138.2.1 kM138.2.2.2.1 kM138.2.2.2.2.1 pc i = true := by
  refine ⟨by decide +kernel, fun pc i h => ?_⟩
  obtain ⟨q, h1, h2⟩ := kLks_mem (l := km138) h
  simp only [km138, List.mem_cons, List.not_mem_nil, or_false] at h1
  rcases h1 with rfl | rfl | rfl | rfl
  · have z := List.all_eq_true.mp kk138_0 (pc, i) h2
    exact z
  · have z := List.all_eq_true.mp kk138_1 (pc, i) h2
    exact z
  · have z := List.all_eq_true.mp kk138_2 (pc, i) h2
    exact z
  · have z := List.all_eq_true.mp kk138_3 (pc, i) h2
    exact z
theorem kk139_0 : kc139_0.all (fun q => am_ok lw_tbl kCl kTy kG kM139.1 kM139.2.1 kM139.2.2.2.1 kM139.2.2.2.2.1 q.1 q.2) = true := by decide +kernel
theorem kq139 : plainName kM139.1.cls = true ∧ ∀ (pc : Nat) (i : am_I), kM139.2.2.2.2.2 pc = some i → am_ok lw_tbl kCl kTy kG kM139.1 kM139.2.1 kM139.2.2.2.1 kM139.2.2.2.2.1 pc i = true := by
  refine ⟨by decide +kernel, fun pc i h => ?_⟩
  obtain ⟨q, h1, h2⟩ := kLks_mem (l := km139) h
  simp only [km139, List.mem_cons, List.not_mem_nil, or_false] at h1
  rcases h1 with rfl
  have z := List.all_eq_true.mp kk139_0 (pc, i) h2
  exact z
theorem kk140_0 : kc140_0.all (fun q => am_ok lw_tbl kCl kTy kG kM140.1 kM140.2.1 kM140.2.2.2.1 kM140.2.2.2.2.1 q.1 q.2) = true := by decide +kernel
theorem kq140 : plainName kM140.1.cls = true ∧ ∀ (pc : Nat) (i : am_I), kM140.2.2.2.2.2 pc = some i → am_ok lw_tbl kCl kTy kG kM140.1 kM140.2.1 kM140.2.2.2.1 kM140.2.2.2.2.1 pc i = true := by
  refine ⟨by decide +kernel, fun pc i h => ?_⟩
  obtain ⟨q, h1, h2⟩ := kLks_mem (l := km140) h
  simp only [km140, List.mem_cons, List.not_mem_nil, or_false] at h1
  rcases h1 with rfl
  have z := List.all_eq_true.mp kk140_0 (pc, i) h2
  exact z
theorem kk141_0 : kc141_0.all (fun q => am_ok lw_tbl kCl kTy kG kM141.1 kM141.2.1 kM141.2.2.2.1 kM141.2.2.2.2.1 q.1 q.2) = true := by decide +kernel
theorem kq141 : plainName kM141.1.cls = true ∧ ∀ (pc : Nat) (i : am_I), kM141.2.2.2.2.2 pc = some i → am_ok lw_tbl kCl kTy kG kM141.1 kM141.2.1 kM141.2.2.2.1 kM141.2.2.2.2.1 pc i = true := by
  refine ⟨by decide +kernel, fun pc i h => ?_⟩
  obtain ⟨q, h1, h2⟩ := kLks_mem (l := km141) h
  simp only [km141, List.mem_cons, List.not_mem_nil, or_false] at h1
  rcases h1 with rfl
  have z := List.all_eq_true.mp kk141_0 (pc, i) h2
  exact z
theorem kk142_0 : kc142_0.all (fun q => am_ok lw_tbl kCl kTy kG kM142.1 kM142.2.1 kM142.2.2.2.1 kM142.2.2.2.2.1 q.1 q.2) = true := by decide +kernel
theorem kq142 : plainName kM142.1.cls = true ∧ ∀ (pc : Nat) (i : am_I), kM142.2.2.2.2.2 pc = some i → am_ok lw_tbl kCl kTy kG kM142.1 kM142.2.1 kM142.2.2.2.1 kM142.2.2.2.2.1 pc i = true := by
  refine ⟨by decide +kernel, fun pc i h => ?_⟩
  obtain ⟨q, h1, h2⟩ := kLks_mem (l := km142) h
  simp only [km142, List.mem_cons, List.not_mem_nil, or_false] at h1
  rcases h1 with rfl
  have z := List.all_eq_true.mp kk142_0 (pc, i) h2
  exact z
theorem kk143_0 : kc143_0.all (fun q => am_ok lw_tbl kCl kTy kG kM143.1 kM143.2.1 kM143.2.2.2.1 kM143.2.2.2.2.1 q.1 q.2) = true := by decide +kernel
theorem kq143 : plainName kM143.1.cls = true ∧ ∀ (pc : Nat) (i : am_I), kM143.2.2.2.2.2 pc = some i → am_ok lw_tbl kCl kTy kG kM143.1 kM143.2.1 kM143.2.2.2.1 kM143.2.2.2.2.1 pc i = true := by
  refine ⟨by decide +kernel, fun pc i h => ?_⟩
  obtain ⟨q, h1, h2⟩ := kLks_mem (l := km143) h
  simp only [km143, List.mem_cons, List.not_mem_nil, or_false] at h1
  rcases h1 with rfl
  have z := List.all_eq_true.mp kk143_0 (pc, i) h2
  exact z
theorem kk144_0 : kc144_0.all (fun q => am_ok lw_tbl kCl kTy kG kM144.1 kM144.2.1 kM144.2.2.2.1 kM144.2.2.2.2.1 q.1 q.2) = true := by decide +kernel
theorem kk144_1 : kc144_1.all (fun q => am_ok lw_tbl kCl kTy kG kM144.1 kM144.2.1 kM144.2.2.2.1 kM144.2.2.2.2.1 q.1 q.2) = true := by decide +kernel
theorem kq144 : plainName kM144.1.cls = true ∧ ∀ (pc : Nat) (i : am_I), kM144.2.2.2.2.2 pc = some i → am_ok lw_tbl kCl kTy kG kM144.1 kM144.2.1 kM144.2.2.2.1 kM144.2.2.2.2.1 pc i = true := by
  refine ⟨by decide +kernel, fun pc i h => ?_⟩
  obtain ⟨q, h1, h2⟩ := kLks_mem (l := km144) h
  simp only [km144, List.mem_cons, List.not_mem_nil, or_false] at h1
  rcases h1 with rfl | rfl
  · have z := List.all_eq_true.mp kk144_0 (pc, i) h2
    exact z
  · have z := List.all_eq_true.mp kk144_1 (pc, i) h2
    exact z
theorem kk145_0 : kc145_0.all (fun q => am_ok lw_tbl kCl kTy kG kM145.1 kM145.2.1 kM145.2.2.2.1 kM145.2.2.2.2.1 q.1 q.2) = true := by decide +kernel
theorem kq145 : plainName kM145.1.cls = true ∧ ∀ (pc : Nat) (i : am_I), kM145.2.2.2.2.2 pc = some i → am_ok lw_tbl kCl kTy kG kM145.1 kM145.2.1 kM145.2.2.2.1 kM145.2.2.2.2.1 pc i = true := by
  refine ⟨by decide +kernel, fun pc i h => ?_⟩
  obtain ⟨q, h1, h2⟩ := kLks_mem (l := km145) h
  simp only [km145, List.mem_cons, List.not_mem_nil, or_false] at h1
  rcases h1 with rfl
  have z := List.all_eq_true.mp kk145_0 (pc, i) h2
  exact z
theorem kk146_0 : kc146_0.all (fun q => am_ok lw_tbl kCl kTy kG kM146.1 kM146.2.1 kM146.2.2.2.1 kM146.2.2.2.2.1 q.1 q.2) = true := by decide +kernel
theorem kk146_1 : kc146_1.all (fun q => am_ok lw_tbl kCl kTy kG kM146.1 kM146.2.1 kM146.2.2.2.1 kM146.2.2.2.2.1 q.1 q.2) = true := by decide +kernel
theorem kq146 : plainName kM146.1.cls = true ∧ ∀ (pc : Nat) (i : am_I), kM146.2.2.2.2.2 pc = some i → am_ok lw_tbl kCl kTy kG kM146.1 kM146.2.1 kM146.2.2.2.1 kM146.2.2.2.2.1 pc i = true := by
  refine ⟨by decide +kernel, fun pc i h => ?_⟩
  obtain ⟨q, h1, h2⟩ := kLks_mem (l := km146) h
  simp only [km146, List.mem_cons, List.not_mem_nil, or_false] at h1
  rcases h1 with rfl | rfl
  · have z := List.all_eq_true.mp kk146_0 (pc, i) h2
    exact z
  · have z := List.all_eq_true.mp kk146_1 (pc, i) h2
    exact z
theorem kk147_0 : kc147_0.all (fun q => am_ok lw_tbl kCl kTy kG kM147.1 kM147.2.1 kM147.2.2.2.1 kM147.2.2.2.2.1 q.1 q.2) = true := by decide +kernel
theorem kq147 : plainName kM147.1.cls = true ∧ ∀ (pc : Nat) (i : am_I), kM147.2.2.2.2.2 pc = some i → am_ok lw_tbl kCl kTy kG kM147.1 kM147.2.1 kM147.2.2.2.1 kM147.2.2.2.2.1 pc i = true := by
  refine ⟨by decide +kernel, fun pc i h => ?_⟩
  obtain ⟨q, h1, h2⟩ := kLks_mem (l := km147) h
  simp only [km147, List.mem_cons, List.not_mem_nil, or_false] at h1
  rcases h1 with rfl
  have z := List.all_eq_true.mp kk147_0 (pc, i) h2
  exact z
theorem kk148_0 : kc148_0.all (fun q => am_ok lw_tbl kCl kTy kG kM148.1 kM148.2.1 kM148.2.2.2.1 kM148.2.2.2.2.1 q.1 q.2) = true := by decide +kernel
theorem kk148_1 : kc148_1.all (fun q => am_ok lw_tbl kCl kTy kG kM148.1 kM148.2.1 kM148.2.2.2.1 kM148.2.2.2.2.1 q.1 q.2) = true := by decide +kernel
theorem kq148 : plainName kM148.1.cls = true ∧ ∀ (pc : Nat) (i : am_I), kM148.2.2.2.2.2 pc = some i → am_ok lw_tbl kCl kTy kG kM148.1 kM148.2.1 kM148.2.2.2.1 kM148.2.2.2.2.1 pc i = true := by
  refine ⟨by decide +kernel, fun pc i h => ?_⟩
  obtain ⟨q, h1, h2⟩ := kLks_mem (l := km148) h
  simp only [km148, List.mem_cons, List.not_mem_nil, or_false] at h1
  rcases h1 with rfl | rfl
  · have z := List.all_eq_true.mp kk148_0 (pc, i) h2
    exact z
  · have z := List.all_eq_true.mp kk148_1 (pc, i) h2
    exact z
theorem kk149_0 : kc149_0.all (fun q => am_ok lw_tbl kCl kTy kG kM149.1 kM149.2.1 kM149.2.2.2.1 kM149.2.2.2.2.1 q.1 q.2) = true := by decide +kernel
theorem kk149_1 : kc149_1.all (fun q => am_ok lw_tbl kCl kTy kG kM149.1 kM149.2.1 kM149.2.2.2.1 kM149.2.2.2.2.1 q.1 q.2) = true := by decide +kernel
theorem kq149 : plainName kM149.1.cls = true ∧ ∀ (pc : Nat) (i : am_I), kM149.2.2.2.2.2 pc = some i → am_ok lw_tbl kCl kTy kG kM149.1 kM149.2.1 kM149.2.2.2.1 kM149.2.2.2.2.1 pc i = true := by
  refine ⟨by decide +kernel, fun pc i h => ?_⟩
  obtain ⟨q, h1, h2⟩ := kLks_mem (l := km149) h
  simp only [km149, List.mem_cons, List.not_mem_nil, or_false] at h1
  rcases h1 with rfl | rfl
  · have z := List.all_eq_true.mp kk149_0 (pc, i) h2
    exact z
  · have z := List.all_eq_true.mp kk149_1 (pc, i) h2
    exact z
theorem kk150_0 : kc150_0.all (fun q => am_ok lw_tbl kCl kTy kG kM150.1 kM150.2.1 kM150.2.2.2.1 kM150.2.2.2.2.1 q.1 q.2) = true := by decide +kernel
theorem kk150_1 : kc150_1.all (fun q => am_ok lw_tbl kCl kTy kG kM150.1 kM150.2.1 kM150.2.2.2.1 kM150.2.2.2.2.1 q.1 q.2) = true := by decide +kernel
theorem kk150_2 : kc150_2.all (fun q => am_ok lw_tbl kCl kTy kG kM150.1 kM150.2.1 kM150.2.2.2.1 kM150.2.2.2.2.1 q.1 q.2) = true := by decide +kernel
theorem kk150_3 : kc150_3.all (fun q => am_ok lw_tbl kCl kTy kG kM150.1 kM150.2.1 kM150.2.2.2.1 kM150.2.2.2.2.1 q.1 q.2) = true := by decide +kernel
theorem kk150_4 : kc150_4.all (fun q => am_ok lw_tbl kCl kTy kG kM150.1 kM150.2.1 kM150.2.2.2.1 kM150.2.2.2.2.1 q.1 q.2) = true := by decide +kernel
theorem kq150 : plainName kM150.1.cls = true ∧ ∀ (pc : Nat) (i : am_I), kM150.2.2.2.2.2 pc = some i → am_ok lw_tbl kCl kTy kG kM150.1 kM150.2.1 kM150.2.2.2.1 kM150.2.2.2.2.1 pc i = true := by
  refine ⟨by decide +kernel, fun pc i h => ?_⟩
  obtain ⟨q, h1, h2⟩ := kLks_mem (l := km150) h
  simp only [km150, List.mem_cons, List.not_mem_nil, or_false] at h1
  rcases h1 with rfl | rfl | rfl | rfl | rfl
  · have z := List.all_eq_true.mp kk150_0 (pc, i) h2
    exact z
  · have z := List.all_eq_true.mp kk150_1 (pc, i) h2
    exact z
  · have z := List.all_eq_true.mp kk150_2 (pc, i) h2
    exact z
  · have z := List.all_eq_true.mp kk150_3 (pc, i) h2
    exact z
  · have z := List.all_eq_true.mp kk150_4 (pc, i) h2
    exact z
theorem kk151_0 : kc151_0.all (fun q => am_ok lw_tbl kCl kTy kG kM151.1 kM151.2.1 kM151.2.2.2.1 kM151.2.2.2.2.1 q.1 q.2) = true := by decide +kernel
theorem kk151_1 : kc151_1.all (fun q => am_ok lw_tbl kCl kTy kG kM151.1 kM151.2.1 kM151.2.2.2.1 kM151.2.2.2.2.1 q.1 q.2) = true := by decide +kernel
theorem kq151 : plainName kM151.1.cls = true ∧ ∀ (pc : Nat) (i : am_I), kM151.2.2.2.2.2 pc = some i → am_ok lw_tbl kCl kTy kG kM151.1 kM151.2.1 kM151.2.2.2.1 kM151.2.2.2.2.1 pc i = true := by
  refine ⟨by decide +kernel, fun pc i h => ?_⟩
  obtain ⟨q, h1, h2⟩ := kLks_mem (l := km151) h
  simp only [km151, List.mem_cons, List.not_mem_nil, or_false] at h1
  rcases h1 with rfl | rfl
  · have z := List.all_eq_true.mp kk151_0 (pc, i) h2
    exact z
  · have z := List.all_eq_true.mp kk151_1 (pc, i) h2
    exact z
theorem kk152_0 : kc152_0.all (fun q => am_ok lw_tbl kCl kTy kG kM152.1 kM152.2.1 kM152.2.2.2.1 kM152.2.2.2.2.1 q.1 q.2) = true := by decide +kernel
theorem kq152 : plainName kM152.1.cls = true ∧ ∀ (pc : Nat) (i : am_I), kM152.2.2.2.2.2 pc = some i → am_ok lw_tbl kCl kTy kG kM152.1 kM152.2.1 kM152.2.2.2.1 kM152.2.2.2.2.1 pc i = true := by
  refine ⟨by decide +kernel, fun pc i h => ?_⟩
  obtain ⟨q, h1, h2⟩ := kLks_mem (l := km152) h
  simp only [km152, List.mem_cons, List.not_mem_nil, or_false] at h1
  rcases h1 with rfl
  have z := List.all_eq_true.mp kk152_0 (pc, i) h2
  exact z
theorem kk153_0 : kc153_0.all (fun q => am_ok lw_tbl kCl kTy kG kM153.1 kM153.2.1 kM153.2.2.2.1 kM153.2.2.2.2.1 q.1 q.2) = true := by decide +kernel
theorem kk153_1 : kc153_1.all (fun q => am_ok lw_tbl kCl kTy kG kM153.1 kM153.2.1 kM153.2.2.2.1 kM153.2.2.2.2.1 q.1 q.2) = true := by decide +kernel
theorem kq153 : plainName kM153.1.cls = true ∧ ∀ (pc : Nat) (i : am_I), kM153.2.2.2.2.2 pc = some i → am_ok lw_tbl kCl kTy kG kM153.1 kM153.2.1 kM153.2.2.2.1 kM153.2.2.2.2.1 pc i = true := by
  refine ⟨by decide +kernel, fun pc i h => ?_⟩
  obtain ⟨q, h1, h2⟩ := kLks_mem (l := km153) h
  simp only [km153, List.mem_cons, List.not_mem_nil, or_false] at h1
  rcases h1 with rfl | rfl
  · have z := List.all_eq_true.mp kk153_0 (pc, i) h2
    exact z
  · have z := List.all_eq_true.mp kk153_1 (pc, i) h2
    exact z
theorem kk154_0 : kc154_0.all (fun q => am_ok lw_tbl kCl kTy kG kM154.1 kM154.2.1 kM154.2.2.2.1 kM154.2.2.2.2.1 q.1 q.2) = true := by decide +kernel
theorem kq154 : plainName kM154.1.cls = true ∧ ∀ (pc : Nat) (i : am_I), kM154.2.2.2.2.2 pc = some i → am_ok lw_tbl kCl kTy kG kM154.1 kM154.2.1 kM154.2.2.2.1 kM154.2.2.2.2.1 pc i = true := by
  refine ⟨by decide +kernel, fun pc i h => ?_⟩
  obtain ⟨q, h1, h2⟩ := kLks_mem (l := km154) h
  simp only [km154, List.mem_cons, List.not_mem_nil, or_false] at h1
  rcases h1 with rfl
  have z := List.all_eq_true.mp kk154_0 (pc, i) h2
  exact z
theorem kk155_0 : kc155_0.all (fun q => am_ok lw_tbl kCl kTy kG kM155.1 kM155.2.1 kM155.2.2.2.1 kM155.2.2.2.2.1 q.1 q.2) = true := by decide +kernel
theorem kq155 : plainName kM155.1.cls = true ∧ ∀ (pc : Nat) (i : am_I), kM155.2.2.2.2.2 pc = some i → am_ok lw_tbl kCl kTy kG kM155.1 kM155.2.1 kM155.2.2.2.1 kM155.2.2.2.2.1 pc i = true := by
  refine ⟨by decide +kernel, fun pc i h => ?_⟩
  obtain ⟨q, h1, h2⟩ := kLks_mem (l := km155) h
  simp only [km155, List.mem_cons, List.not_mem_nil, or_false] at h1
  rcases h1 with rfl
  have z := List.all_eq_true.mp kk155_0 (pc, i) h2
  exact z
theorem kk156_0 : kc156_0.all (fun q => am_ok lw_tbl kCl kTy kG kM156.1 kM156.2.1 kM156.2.2.2.1 kM156.2.2.2.2.1 q.1 q.2) = true := by decide +kernel
theorem kq156 : plainName kM156.1.cls = true ∧ ∀ (pc : Nat) (i : am_I), kM156.2.2.2.2.2 pc = some i → am_ok lw_tbl kCl kTy kG kM156.1 kM156.2.1 kM156.2.2.2.1 kM156.2.2.2.2.1 pc i = true := by
  refine ⟨by decide +kernel, fun pc i h => ?_⟩
  obtain ⟨q, h1, h2⟩ := kLks_mem (l := km156) h
  simp only [km156, List.mem_cons, List.not_mem_nil, or_false] at h1
  rcases h1 with rfl
  have z := List.all_eq_true.mp kk156_0 (pc, i) h2
  exact z
theorem kk157_0 : kc157_0.all (fun q => am_ok lw_tbl kCl kTy kG kM157.1 kM157.2.1 kM157.2.2.2.1 kM157.2.2.2.2.1 q.1 q.2) = true := by decide +kernel
theorem kq157 : plainName kM157.1.cls = true ∧ ∀ (pc : Nat) (i : am_I), kM157.2.2.2.2.2 pc = some i → am_ok lw_tbl kCl kTy kG kM157.1 kM157.2.1 kM157.2.2.2.1 kM157.2.2.2.2.1 pc i = true := by
  refine ⟨by decide +kernel, fun pc i h => ?_⟩
  obtain ⟨q, h1, h2⟩ := kLks_mem (l := km157) h
  simp only [km157, List.mem_cons, List.not_mem_nil, or_false] at h1
  rcases h1 with rfl
  have z := List.all_eq_true.mp kk157_0 (pc, i) h2
  exact z
theorem kk158_0 : kc158_0.all (fun q => am_ok lw_tbl kCl kTy kG kM158.1 kM158.2.1 kM158.2.2.2.1 kM158.2.2.2.2.1 q.1 q.2) = true := by decide +kernel
theorem kk158_1 : kc158_1.all (fun q => am_ok lw_tbl kCl kTy kG kM158.1 kM158.2.1 kM158.2.2.2.1 kM158.2.2.2.2.1 q.1 q.2) = true := by decide +kernel
theorem kq158 : plainName kM158.1.cls = true ∧ ∀ (pc : Nat) (i : am_I), kM158.2.2.2.2.2 pc = some i → am_ok lw_tbl kCl kTy kG kM158.1 kM158.2.1 kM158.2.2.2.1 kM158.2.2.2.2.1 pc i = true := by
  refine ⟨by decide +kernel, fun pc i h => ?_⟩
  obtain ⟨q, h1, h2⟩ := kLks_mem (l := km158) h
  simp only [km158, List.mem_cons, List.not_mem_nil, or_false] at h1
  rcases h1 with rfl | rfl
  · have z := List.all_eq_true.mp kk158_0 (pc, i) h2
    exact z
  · have z := List.all_eq_true.mp kk158_1 (pc, i) h2
    exact z
theorem kk159_0 : kc159_0.all (fun q => am_ok lw_tbl kCl kTy kG kM159.1 kM159.2.1 kM159.2.2.2.1 kM159.2.2.2.2.1 q.1 q.2) = true := by decide +kernel
theorem kq159 : plainName kM159.1.cls = true ∧ ∀ (pc : Nat) (i : am_I), kM159.2.2.2.2.2 pc = some i → am_ok lw_tbl kCl kTy kG kM159.1 kM159.2.1 kM159.2.2.2.1 kM159.2.2.2.2.1 pc i = true := by
  refine ⟨by decide +kernel, fun pc i h => ?_⟩
  obtain ⟨q, h1, h2⟩ := kLks_mem (l := km159) h
  simp only [km159, List.mem_cons, List.not_mem_nil, or_false] at h1
  rcases h1 with rfl
  have z := List.all_eq_true.mp kk159_0 (pc, i) h2
  exact z
theorem kk160_0 : kc160_0.all (fun q => am_ok lw_tbl kCl kTy kG kM160.1 kM160.2.1 kM160.2.2.2.1 kM160.2.2.2.2.1 q.1 q.2) = true := by decide +kernel
theorem kk160_1 : kc160_1.all (fun q => am_ok lw_tbl kCl kTy kG kM160.1 kM160.2.1 kM160.2.2.2.1 kM160.2.2.2.2.1 q.1 q.2) = true := by decide +kernel
theorem kq160 : plainName kM160.1.cls = true ∧ ∀ (pc : Nat) (i : am_I), kM160.2.2.2.2.2 pc = some i → am_ok lw_tbl kCl kTy kG kM160.1 kM160.2.1 kM160.2.2.2.1 kM160.2.2.2.2.1 pc i = true := by
  refine ⟨by decide +kernel, fun pc i h => ?_⟩
  obtain ⟨q, h1, h2⟩ := kLks_mem (l := km160) h
  simp only [km160, List.mem_cons, List.not_mem_nil, or_false] at h1
  rcases h1 with rfl | rfl
  · have z := List.all_eq_true.mp kk160_0 (pc, i) h2
    exact z
  · have z := List.all_eq_true.mp kk160_1 (pc, i) h2
    exact z
theorem kk161_0 : kc161_0.all (fun q => am_ok lw_tbl kCl kTy kG kM161.1 kM161.2.1 kM161.2.2.2.1 kM161.2.2.2.2.1 q.1 q.2) = true := by decide +kernel
theorem kk161_1 : kc161_1.all (fun q => am_ok lw_tbl kCl kTy kG kM161.1 kM161.2.1 kM161.2.2.2.1 kM161.2.2.2.2.1 q.1 q.2) = true := by decide +kernel
theorem kq161 : plainName kM161.1.cls = true ∧ ∀ (pc : Nat) (i : am_I), kM161.2.2.2.2.2 pc = some i → am_ok lw_tbl kCl kTy kG kM161.1 kM161.2.1 kM161.2.2.2.1 kM161.2.2.2.2.1 pc i = true := by
  refine ⟨by decide +kernel, fun pc i h => ?_⟩
  obtain ⟨q, h1, h2⟩ := kLks_mem (l := km161) h
  simp only [km161, List.mem_cons, List.not_mem_nil, or_false] at h1
  rcases h1 with rfl | rfl
  · have z := List.all_eq_true.mp kk161_0 (pc, i) h2
    exact z
  · have z := List.all_eq_true.mp kk161_1 (pc, i) h2
    exact z
theorem kk162_0 : kc162_0.all (fun q => am_ok lw_tbl kCl kTy kG kM162.1 kM162.2.1 kM162.2.2.2.1 kM162.2.2.2.2.1 q.1 q.2) = true := by decide +kernel
theorem kq162 : plainName kM162.1.cls = true ∧ ∀ (pc : Nat) (i : am_I), kM162.2.2.2.2.2 pc = some i → am_ok lw_tbl kCl kTy kG kM162.1 kM162.2.1 kM162.2.2.2.1 kM162.2.2.2.2.1 pc i = true := by
  refine ⟨by decide +kernel, fun pc i h => ?_⟩
  obtain ⟨q, h1, h2⟩ := kLks_mem (l := km162) h
  simp only [km162, List.mem_cons, List.not_mem_nil, or_false] at h1
  rcases h1 with rfl
  have z := List.all_eq_true.mp kk162_0 (pc, i) h2
  exact z
theorem kk163_0 : kc163_0.all (fun q => am_ok lw_tbl kCl kTy kG kM163.1 kM163.2.1 kM163.2.2.2.1 kM163.2.2.2.2.1 q.1 q.2) = true := by decide +kernel
theorem kq163 : plainName kM163.1.cls = true ∧ ∀ (pc : Nat) (i : am_I), kM163.2.2.2.2.2 pc = some i → am_ok lw_tbl kCl kTy kG kM163.1 kM163.2.1 kM163.2.2.2.1 kM163.2.2.2.2.1 pc i = true := by
  refine ⟨by decide +kernel, fun pc i h => ?_⟩
  obtain ⟨q, h1, h2⟩ := kLks_mem (l := km163) h
  simp only [km163, List.mem_cons, List.not_mem_nil, or_false] at h1
  rcases h1 with rfl
  have z := List.all_eq_true.mp kk163_0 (pc, i) h2
  exact z
theorem kk164_0 : kc164_0.all (fun q => am_ok lw_tbl kCl kTy kG kM164.1 kM164.2.1 kM164.2.2.2.1 kM164.2.2.2.2.1 q.1 q.2) = true := by decide +kernel
theorem kk164_1 : kc164_1.all (fun q => am_ok lw_tbl kCl kTy kG kM164.1 kM164.2.1 kM164.2.2.2.1 kM164.2.2.2.2.1 q.1 q.2) = true := by decide +kernel
theorem kk164_2 : kc164_2.all (fun q => am_ok lw_tbl kCl kTy kG kM164.1 kM164.2.1 kM164.2.2.2.1 kM164.2.2.2.2.1 q.1 q.2) = true := by decide +kernel
theorem kk164_3 : kc164_3.all (fun q => am_ok lw_tbl kCl kTy kG kM164.1 kM164.2.1 kM164.2.2.2.1 kM164.2.2.2.2.1 q.1 q.2) = true := by decide +kernel
theorem kq164 : plainName kM164.1.cls = true ∧ ∀ (pc : Nat) (i : am_I), kM164.2.2.2.2.2 pc = some i → am_ok lw_tbl kCl kTy kG kM164.1 kM164.2.1 kM164.2.2.2.1 kM164.2.2.2.2.1 pc i = true := by
  refine ⟨by decide +kernel, fun pc i h => ?_⟩
  obtain ⟨q, h1, h2⟩ := kLks_mem (l := km164) h
  simp only [km164, List.mem_cons, List.not_mem_nil, or_false] at h1
  rcases h1 with rfl | rfl | rfl | rfl
  · have z := List.all_eq_true.mp kk164_0 (pc, i) h2
    exact z
  · have z := List.all_eq_true.mp kk164_1 (pc, i) h2
    exact z
  · have z := List.all_eq_true.mp kk164_2 (pc, i) h2
    exact z
  · have z := List.all_eq_true.mp kk164_3 (pc, i) h2
    exact z
theorem kk165_0 : kc165_0.all (fun q => am_ok lw_tbl kCl kTy kG kM165.1 kM165.2.1 kM165.2.2.2.1 kM165.2.2.2.2.1 q.1 q.2) = true := by decide +kernel
theorem kq165 : plainName kM165.1.cls = true ∧ ∀ (pc : Nat) (i : am_I), kM165.2.2.2.2.2 pc = some i → am_ok lw_tbl kCl kTy kG kM165.1 kM165.2.1 kM165.2.2.2.1 kM165.2.2.2.2.1 pc i = true := by
  refine ⟨by decide +kernel, fun pc i h => ?_⟩
  obtain ⟨q, h1, h2⟩ := kLks_mem (l := km165) h
  simp only [km165, List.mem_cons, List.not_mem_nil, or_false] at h1
  rcases h1 with rfl
  have z := List.all_eq_true.mp kk165_0 (pc, i) h2
  exact z
theorem kk166_0 : kc166_0.all (fun q => am_ok lw_tbl kCl kTy kG kM166.1 kM166.2.1 kM166.2.2.2.1 kM166.2.2.2.2.1 q.1 q.2) = true := by decide +kernel
theorem kk166_1 : kc166_1.all (fun q => am_ok lw_tbl kCl kTy kG kM166.1 kM166.2.1 kM166.2.2.2.1 kM166.2.2.2.2.1 q.1 q.2) = true := by decide +kernel
theorem kk166_2 : kc166_2.all (fun q => am_ok lw_tbl kCl kTy kG kM166.1 kM166.2.1 kM166.2.2.2.1 kM166.2.2.2.2.1 q.1 q.2) = true := by decide +kernel
theorem kq166 : plainName kM166.1.cls = true ∧ ∀ (pc : Nat) (i : am_I), kM166.2.2.2.2.2 pc = some i → am_ok lw_tbl kCl kTy kG kM166.1 kM166.2.1 kM166.2.2.2.1 kM166.2.2.2.2.1 pc i = true := by
  refine ⟨by decide +kernel, fun pc i h => ?_⟩
  obtain ⟨q, h1, h2⟩ := kLks_mem (l := km166) h
  simp only [km166, List.mem_cons, List.not_mem_nil, or_false] at h1
  rcases h1 with rfl | rfl | rfl
  · have z := List.all_eq_true.mp kk166_0 (pc, i) h2
    exact z
  · have z := List.all_eq_true.mp kk166_1 (pc, i) h2
    exact z
  · have z := List.all_eq_true.mp kk166_2 (pc, i) h2
    exact z
theorem kk167_0 : kc167_0.all (fun q => am_ok lw_tbl kCl kTy kG kM167.1 kM167.2.1 kM167.2.2.2.1 kM167.2.2.2.2.1 q.1 q.2) = true := by decide +kernel
theorem kq167 : plainName kM167.1.cls = true ∧ ∀ (pc : Nat) (i : am_I), kM167.2.2.2.2.2 pc = some i → am_ok lw_tbl kCl kTy kG kM167.1 kM167.2.1 kM167.2.2.2.1 kM167.2.2.2.2.1 pc i = true := by
  refine ⟨by decide +kernel, fun pc i h => ?_⟩
  obtain ⟨q, h1, h2⟩ := kLks_mem (l := km167) h
  simp only [km167, List.mem_cons, List.not_mem_nil, or_false] at h1
  rcases h1 with rfl
  have z := List.all_eq_true.mp kk167_0 (pc, i) h2
  exact z
theorem kk168_0 : kc168_0.all (fun q => am_ok lw_tbl kCl kTy kG kM168.1 kM168.2.1 kM168.2.2.2.1 kM168.2.2.2.2.1 q.1 q.2) = true := by decide +kernel
theorem kq168 : plainName kM168.1.cls = true ∧ ∀ (pc : Nat) (i : am_I), kM168.2.2.2.2.2 pc = some i → am_ok lw_tbl kCl kTy kG kM168.1 kM168.2.1 kM168.2.2.2.1 kM168.2.2.2.2.1 pc i = true := by
  refine ⟨by decide +kernel, fun pc i h => ?_⟩
  obtain ⟨q, h1, h2⟩ := kLks_mem (l := km168) h
  simp only [km168, List.mem_cons, List.not_mem_nil, or_false] at h1
  rcases h1 with rfl
  have z := List.all_eq_true.mp kk168_0 (pc, i) h2
  exact z
theorem kk169_0 : kc169_0.all (fun q => am_ok lw_tbl kCl kTy kG kM169.1 kM169.2.1 kM169.2.2.2.1 kM169.2.2.2.2.1 q.1 q.2) = true := by decide +kernel
theorem kq169 : plainName kM169.1.cls = true ∧ ∀ (pc : Nat) (i : am_I), kM169.2.2.2.2.2 pc = some i → am_ok lw_tbl kCl kTy kG kM169.1 kM169.2.1 kM169.2.2.2.1 kM169.2.2.2.2.1 pc i = true := by
  refine ⟨by decide +kernel, fun pc i h => ?_⟩
  obtain ⟨q, h1, h2⟩ := kLks_mem (l := km169) h
  simp only [km169, List.mem_cons, List.not_mem_nil, or_false] at h1
  rcases h1 with rfl
  have z := List.all_eq_true.mp kk169_0 (pc, i) h2
  exact z
theorem kk170_0 : kc170_0.all (fun q => am_ok lw_tbl kCl kTy kG kM170.1 kM170.2.1 kM170.2.2.2.1 kM170.2.2.2.2.1 q.1 q.2) = true := by decide +kernel
theorem kq170 : plainName kM170.1.cls = true ∧ ∀ (pc : Nat) (i : am_I), kM170.2.2.2.2.2 pc = some i → am_ok lw_tbl kCl kTy kG kM170.1 kM170.2.1 kM170.2.2.2.1 kM170.2.2.2.2.1 pc i = true := by
  refine ⟨by decide +kernel, fun pc i h => ?_⟩
  obtain ⟨q, h1, h2⟩ := kLks_mem (l := km170) h
  simp only [km170, List.mem_cons, List.not_mem_nil, or_false] at h1
  rcases h1 with rfl
  have z := List.all_eq_true.mp kk170_0 (pc, i) h2
  exact z
theorem kk171_0 : kc171_0.all (fun q => am_ok lw_tbl kCl kTy kG kM171.1 kM171.2.1 kM171.2.2.2.1 kM171.2.2.2.2.1 q.1 q.2) = true := by decide +kernel
theorem kq171 : plainName kM171.1.cls = true ∧ ∀ (pc : Nat) (i : am_I), kM171.2.2.2.2.2 pc = some i → am_ok lw_tbl kCl kTy kG kM171.1 kM171.2.1 kM171.2.2.2.1 kM171.2.2.2.2.1 pc i = true := by
  refine ⟨by decide +kernel, fun pc i h => ?_⟩
  obtain ⟨q, h1, h2⟩ := kLks_mem (l := km171) h
  simp only [km171, List.mem_cons, List.not_mem_nil, or_false] at h1
  rcases h1 with rfl
  have z := List.all_eq_true.mp kk171_0 (pc, i) h2
  exact z
theorem kk172_0 : kc172_0.all (fun q => am_ok lw_tbl kCl kTy kG kM172.1 kM172.2.1 kM172.2.2.2.1 kM172.2.2.2.2.1 q.1 q.2) = true := by decide +kernel
theorem kk172_1 : kc172_1.all (fun q => am_ok lw_tbl kCl kTy kG kM172.1 kM172.2.1 kM172.2.2.2.1 kM172.2.2.2.2.1 q.1 q.2) = true := by decide +kernel
theorem kk172_2 : kc172_2.all (fun q => am_ok lw_tbl kCl kTy kG kM172.1 kM172.2.1 kM172.2.2.2.1 kM172.2.2.2.2.1 q.1 q.2) = true := by decide +kernel
theorem kq172 : plainName kM172.1.cls = true ∧ ∀ (pc : Nat) (i : am_I), kM172.2.2.2.2.2 pc = some i → am_ok lw_tbl kCl kTy kG kM172.1 kM172.2.1 kM172.2.2.2.1 kM172.2.2.2.2.1 pc i = true := by
  refine ⟨by decide +kernel, fun pc i h => ?_⟩
  obtain ⟨q, h1, h2⟩ := kLks_mem (l := km172) h
  simp only [km172, List.mem_cons, List.not_mem_nil, or_false] at h1
  rcases h1 with rfl | rfl | rfl
  · have z := List.all_eq_true.mp kk172_0 (pc, i) h2
    exact z
  · have z := List.all_eq_true.mp kk172_1 (pc, i) h2
    exact z
  · have z := List.all_eq_true.mp kk172_2 (pc, i) h2
    exact z
theorem kk173_0 : kc173_0.all (fun q => am_ok lw_tbl kCl kTy kG kM173.1 kM173.2.1 kM173.2.2.2.1 kM173.2.2.2.2.1 q.1 q.2) = true := by decide +kernel
theorem kk173_1 : kc173_1.all (fun q => am_ok lw_tbl kCl kTy kG kM173.1 kM173.2.1 kM173.2.2.2.1 kM173.2.2.2.2.1 q.1 q.2) = true := by decide +kernel
theorem kk173_2 : kc173_2.all (fun q => am_ok lw_tbl kCl kTy kG kM173.1 kM173.2.1 kM173.2.2.2.1 kM173.2.2.2.2.1 q.1 q.2) = true := by decide +kernel
theorem kq173 : plainName kM173.1.cls = true ∧ ∀ (pc : Nat) (i : am_I), kM173.2.2.2.2.2 pc = some i → am_ok lw_tbl kCl kTy kG kM173.1 kM173.2.1 kM173.2.2.2.1 kM173.2.2.2.2.1 pc i = true := by
  refine ⟨by decide +kernel, fun pc i h => ?_⟩
  obtain ⟨q, h1, h2⟩ := kLks_mem (l := km173) h
  simp only [km173, List.mem_cons, List.not_mem_nil, or_false] at h1
  rcases h1 with rfl | rfl | rfl
  · have z := List.all_eq_true.mp kk173_0 (pc, i) h2
    exact z
  · have z := List.all_eq_true.mp kk173_1 (pc, i) h2
    exact z
  · have z := List.all_eq_true.mp kk173_2 (pc, i) h2
    exact z
theorem kk174_0 : kc174_0.all (fun q => am_ok lw_tbl kCl kTy kG kM174.1 kM174.2.1 kM174.2.2.2.1 kM174.2.2.2.2.1 q.1 q.2) = true := by decide +kernel
theorem kq174 : plainName kM174.1.cls = true ∧ ∀ (pc : Nat) (i : am_I), kM174.2.2.2.2.2 pc = some i → am_ok lw_tbl kCl kTy kG kM174.1 kM174.2.1 kM174.2.2.2.1 kM174.2.2.2.2.1 pc i = true := by
  refine ⟨by decide +kernel, fun pc i h => ?_⟩
  obtain ⟨q, h1, h2⟩ := kLks_mem (l := km174) h
  simp only [km174, List.mem_cons, List.not_mem_nil, or_false] at h1
  rcases h1 with rfl
  have z := List.all_eq_true.mp kk174_0 (pc, i) h2
  exact z
theorem kk175_0 : kc175_0.all (fun q => am_ok lw_tbl kCl kTy kG kM175.1 kM175.2.1 kM175.2.2.2.1 kM175.2.2.2.2.1 q.1 q.2) = true := by decide +kernel
theorem kk175_1 : kc175_1.all (fun q => am_ok lw_tbl kCl kTy kG kM175.1 kM175.2.1 kM175.2.2.2.1 kM175.2.2.2.2.1 q.1 q.2) = true := by decide +kernel
theorem kk175_2 : kc175_2.all (fun q => am_ok lw_tbl kCl kTy kG kM175.1 kM175.2.1 kM175.2.2.2.1 kM175.2.2.2.2.1 q.1 q.2) = true := by decide +kernel
theorem kq175 : plainName kM175.1.cls = true ∧ ∀ (pc : Nat) (i : am_I), kM175.2.2.2.2.2 pc = some i → am_ok lw_tbl kCl kTy kG kM175.1 kM175.2.1 kM175.2.2.2.1 kM175.2.2.2.2.1 pc i = true := by
  refine ⟨by decide +kernel, fun pc i h => ?_⟩
  obtain ⟨q, h1, h2⟩ := kLks_mem (l := km175) h
  simp only [km175, List.mem_cons, List.not_mem_nil, or_false] at h1
  rcases h1 with rfl | rfl | rfl
  · have z := List.all_eq_true.mp kk175_0 (pc, i) h2
    exact z
  · have z := List.all_eq_true.mp kk175_1 (pc, i) h2
    exact z
  · have z := List.all_eq_true.mp kk175_2 (pc, i) h2
    exact z
theorem kk176_0 : kc176_0.all (fun q => am_ok lw_tbl kCl kTy kG kM176.1 kM176.2.1 kM176.2.2.2.1 kM176.2.2.2.2.1 q.1 q.2) = true := by decide +kernel
theorem kk176_1 : kc176_1.all (fun q => am_ok lw_tbl kCl kTy kG kM176.1 kM176.2.1 kM176.2.2.2.1 kM176.2.2.2.2.1 q.1 q.2) = true := by decide +kernel
theorem kq176 : plainName kM176.1.cls = true ∧ ∀ (pc : Nat) (i : am_I), kM176.2.2.2.2.2 pc = some i → am_ok lw_tbl kCl kTy kG kM176.1 kM176.2.1 kM176.2.2.2.1 kM176.2.2.2.2.1 pc i = true := by
  refine ⟨by decide +kernel, fun pc i h => ?_⟩
  obtain ⟨q, h1, h2⟩ := kLks_mem (l := km176) h
  simp only [km176, List.mem_cons, List.not_mem_nil, or_false] at h1
  rcases h1 with rfl | rfl
  · have z := List.all_eq_true.mp kk176_0 (pc, i) h2
    exact z
  · have z := List.all_eq_true.mp kk176_1 (pc, i) h2
    exact z
theorem kk177_0 : kc177_0.all (fun q => am_ok lw_tbl kCl kTy kG kM177.1 kM177.2.1 kM177.2.2.2.1 kM177.2.2.2.2.1 q.1 q.2) = true := by decide +kernel
theorem kq177 : plainName kM177.1.cls = true ∧ ∀ (pc : Nat) (i : am_I), kM177.2.2.2.2.2 pc = some i → am_ok lw_tbl kCl kTy kG kM177.1 kM177.2.1 kM177.2.2.2.1 kM177.2.2.2.2.1 pc i = true := by
  refine ⟨by decide +kernel, fun pc i h => ?_⟩
  obtain ⟨q, h1, h2⟩ := kLks_mem (l := km177) h
  simp only [km177, List.mem_cons, List.not_mem_nil, or_false] at h1
  rcases h1 with rfl
  have z := List.all_eq_true.mp kk177_0 (pc, i) h2
  exact z
theorem kk178_0 : kc178_0.all (fun q => am_ok lw_tbl kCl kTy kG kM178.1 kM178.2.1 kM178.2.2.2.1 kM178.2.2.2.2.1 q.1 q.2) = true := by decide +kernel
theorem kq178 : plainName kM178.1.cls = true ∧ ∀ (pc : Nat) (i : am_I), kM178.2.2.2.2.2 pc = some i → am_ok lw_tbl kCl kTy kG kM178.1 kM178.2.1 kM178.2.2.2.1 kM178.2.2.2.2.1 pc i = true := by
  refine ⟨by decide +kernel, fun pc i h => ?_⟩
  obtain ⟨q, h1, h2⟩ := kLks_mem (l := km178) h
  simp only [km178, List.mem_cons, List.not_mem_nil, or_false] at h1
  rcases h1 with rfl
  have z := List.all_eq_true.mp kk178_0 (pc, i) h2
  exact z
theorem kk179_0 : kc179_0.all (fun q => am_ok lw_tbl kCl kTy kG kM179.1 kM179.2.1 kM179.2.2.2.1 kM179.2.2.2.2.1 q.1 q.2) = true := by decide +kernel
theorem kk179_1 : kc179_1.all (fun q => am_ok lw_tbl kCl kTy kG kM179.1 kM179.2.1 kM179.2.2.2.1 kM179.2.2.2.2.1 q.1 q.2) = true := by decide +kernel
theorem kk179_2 : kc179_2.all (fun q => am_ok lw_tbl kCl kTy kG kM179.1 kM179.2.1 kM179.2.2.2.1 kM179.2.2.2.2.1 q.1 q.2) = true := by decide +kernel
theorem kk179_3 : kc179_3.all (fun q => am_ok lw_tbl kCl kTy kG kM179.1 kM179.2.1 kM179.2.2.2.1 kM179.2.2.2.2.1 q.1 q.2) = true := by decide +kernel
theorem kk179_4 : kc179_4.all (fun q => am_ok lw_tbl kCl kTy kG kM179.1 kM179.2.1 kM179.2.2.2.1 kM179.2.2.2.2.1 q.1 q.2) = true := by decide +kernel
theorem kq179 : plainName kM179.1.cls = true ∧ ∀ (pc : Nat) (i : am_I), kM179.2.2.2.2.2 pc = some i → am_ok lw_tbl kCl kTy kG kM179.1 kM179.2.1 kM179.2.2.2.1 kM179.2.2.2.2.1 pc i = true := by
  refine ⟨by decide +kernel, fun pc i h => ?_⟩
  obtain ⟨q, h1, h2⟩ := kLks_mem (l := km179) h
  simp only [km179, List.mem_cons, List.not_mem_nil, or_false] at h1
  rcases h1 with rfl | rfl | rfl | rfl | rfl
  · have z := List.all_eq_true.mp kk179_0 (pc, i) h2
    exact z
  · have z := List.all_eq_true.mp kk179_1 (pc, i) h2
    exact z
  · have z := List.all_eq_true.mp kk179_2 (pc, i) h2
    exact z
  · have z := List.all_eq_true.mp kk179_3 (pc, i) h2
    exact z
  · have z := List.all_eq_true.mp kk179_4 (pc, i) h2
    exact z
theorem kk180_0 : kc180_0.all (fun q => am_ok lw_tbl kCl kTy kG kM180.1 kM180.2.1 kM180.2.2.2.1 kM180.2.2.2.2.1 q.1 q.2) = true := by decide +kernel
theorem kk180_1 : kc180_1.all (fun q => am_ok lw_tbl kCl kTy kG kM180.1 kM180.2.1 kM180.2.2.2.1 kM180.2.2.2.2.1 q.1 q.2) = true := by decide +kernel
theorem kq180 : plainName kM180.1.cls = true ∧ ∀ (pc : Nat) (i : am_I), kM180.2.2.2.2.2 pc = some i → am_ok lw_tbl kCl kTy kG kM180.1 kM180.2.1 kM180.2.2.2.1 kM180.2.2.2.2.1 pc i = true := by
  refine ⟨by decide +kernel, fun pc i h => ?_⟩
  obtain ⟨q, h1, h2⟩ := kLks_mem (l := km180) h
  simp only [km180, List.mem_cons, List.not_mem_nil, or_false] at h1
  rcases h1 with rfl | rfl
  · have z := List.all_eq_true.mp kk180_0 (pc, i) h2
    exact z
  · have z := List.all_eq_true.mp kk180_1 (pc, i) h2
    exact z
theorem kk181_0 : kc181_0.all (fun q => am_ok lw_tbl kCl kTy kG kM181.1 kM181.2.1 kM181.2.2.2.1 kM181.2.2.2.2.1 q.1 q.2) = true := by decide +kernel
theorem kq181 : plainName kM181.1.cls = true ∧ ∀ (pc : Nat) (i : am_I), kM181.2.2.2.2.2 pc = some i → am_ok lw_tbl kCl kTy kG kM181.1 kM181.2.1 kM181.2.2.2.1 kM181.2.2.2.2.1 pc i = true := by
  refine ⟨by decide +kernel, fun pc i h => ?_⟩
  obtain ⟨q, h1, h2⟩ := kLks_mem (l := km181) h
  simp only [km181, List.mem_cons, List.not_mem_nil, or_false] at h1
  rcases h1 with rfl
  have z := List.all_eq_true.mp kk181_0 (pc, i) h2
  exact z
theorem kk182_0 : kc182_0.all (fun q => am_ok lw_tbl kCl kTy kG kM182.1 kM182.2.1 kM182.2.2.2.1 kM182.2.2.2.2.1 q.1 q.2) = true := by decide +kernel
theorem kk182_1 : kc182_1.all (fun q => am_ok lw_tbl kCl kTy kG kM182.1 kM182.2.1 kM182.2.2.2.1 kM182.2.2.2.2.1 q.1 q.2) = true := by decide +kernel
theorem kq182 : plainName kM182.1.cls = true ∧ ∀ (pc : Nat) (i : am_I), kM182.2.2.2.2.2 pc = some i → am_ok lw_tbl kCl kTy kG kM182.1 kM182.2.1 kM182.2.2.2.1 kM182.2.2.2.2.1 pc i = true := by
  refine ⟨by decide +kernel, fun pc i h => ?_⟩
  obtain ⟨q, h1, h2⟩ := kLks_mem (l := km182) h
  simp only [km182, List.mem_cons, List.not_mem_nil, or_false] at h1
  rcases h1 with rfl | rfl
  · have z := List.all_eq_true.mp kk182_0 (pc, i) h2
    exact z
  · have z := List.all_eq_true.mp kk182_1 (pc, i) h2
    exact z
theorem kk183_0 : kc183_0.all (fun q => am_ok lw_tbl kCl kTy kG kM183.1 kM183.2.1 kM183.2.2.2.1 kM183.2.2.2.2.1 q.1 q.2) = true := by decide +kernel
theorem kk183_1 : kc183_1.all (fun q => am_ok lw_tbl kCl kTy kG kM183.1 kM183.2.1 kM183.2.2.2.1 kM183.2.2.2.2.1 q.1 q.2) = true := by decide +kernel
theorem kk183_2 : kc183_2.all (fun q => am_ok lw_tbl kCl kTy kG kM183.1 kM183.2.1 kM183.2.2.2.1 kM183.2.2.2.2.1 q.1 q.2) = true := by decide +kernel
theorem kk183_3 : kc183_3.all (fun q => am_ok lw_tbl kCl kTy kG kM183.1 kM183.2.1 kM183.2.2.2.1 kM183.2.2.2.2.1 q.1 q.2) = true := by decide +kernel
theorem kq183 : plainName kM183.1.cls = true ∧ ∀ (pc : Nat) (i : am_I), kM183.2.2.2.2.2 pc = some i → am_ok lw_tbl kCl kTy kG kM183.1 kM183.2.1 kM183.2.2.2.1 kM183.2.2.2.2.1 pc i = true := by
  refine ⟨by decide +kernel, fun pc i h => ?_⟩
  obtain ⟨q, h1, h2⟩ := kLks_mem (l := km183) h
  simp only [km183, List.mem_cons, List.not_mem_nil, or_false] at h1
  rcases h1 with rfl | rfl | rfl | rfl
  · have z := List.all_eq_true.mp kk183_0 (pc, i) h2
    exact z
  · have z := List.all_eq_true.mp kk183_1 (pc, i) h2
    exact z
  · have z := List.all_eq_true.mp kk183_2 (pc, i) h2
    exact z
  · have z := List.all_eq_true.mp kk183_3 (pc, i) h2
    exact z
theorem kk184_0 : kc184_0.all (fun q => am_ok lw_tbl kCl kTy kG kM184.1 kM184.2.1 kM184.2.2.2.1 kM184.2.2.2.2.1 q.1 q.2) = true := by decide +kernel
theorem kq184 : plainName kM184.1.cls = true ∧ ∀ (pc : Nat) (i : am_I), kM184.2.2.2.2.2 pc = some i → am_ok lw_tbl kCl kTy kG kM184.1 kM184.2.1 kM184.2.2.2.1 kM184.2.2.2.2.1 pc i = true := by
  refine ⟨by decide +kernel, fun pc i h => ?_⟩
  obtain ⟨q, h1, h2⟩ := kLks_mem (l := km184) h
  simp only [km184, List.mem_cons, List.not_mem_nil, or_false] at h1
  rcases h1 with rfl
  have z := List.all_eq_true.mp kk184_0 (pc, i) h2
  exact z
theorem kk185_0 : kc185_0.all (fun q => am_ok lw_tbl kCl kTy kG kM185.1 kM185.2.1 kM185.2.2.2.1 kM185.2.2.2.2.1 q.1 q.2) = true := by decide +kernel
theorem kk185_1 : kc185_1.all (fun q => am_ok lw_tbl kCl kTy kG kM185.1 kM185.2.1 kM185.2.2.2.1 kM185.2.2.2.2.1 q.1 q.2) = true := by decide +kernel
theorem kk185_2 : kc185_2.all (fun q => am_ok lw_tbl kCl kTy kG kM185.1 kM185.2.1 kM185.2.2.2.1 kM185.2.2.2.2.1 q.1 q.2) = true := by decide +kernel
theorem kk185_3 : kc185_3.all (fun q => am_ok lw_tbl kCl kTy kG kM185.1 kM185.2.1 kM185.2.2.2.1 kM185.2.2.2.2.1 q.1 q.2) = true := by decide +kernel
theorem kk185_4 : kc185_4.all (fun q => am_ok lw_tbl kCl kTy kG kM185.1 kM185.2.1 kM185.2.2.2.1 kM185.2.2.2.2.1 q.1 q.2) = true := by decide +kernel
theorem kk185_5 : kc185_5.all (fun q => am_ok lw_tbl kCl kTy kG kM185.1 kM185.2.1 kM185.2.2.2.1 kM185.2.2.2.2.1 q.1 q.2) = true := by decide +kernel
theorem kq185 : plainName kM185.1.cls = true ∧ ∀ (pc : Nat) (i : am_I), kM185.2.2.2.2.2 pc = some i → am_ok lw_tbl kCl kTy kG kM185.1 kM185.2.1 kM185.2.2.2.1 kM185.2.2.2.2.1 pc i = true := by
  refine ⟨by decide +kernel, fun pc i h => ?_⟩
  obtain ⟨q, h1, h2⟩ := kLks_mem (l := km185) h
  simp only [km185, List.mem_cons, List.not_mem_nil, or_false] at h1
  rcases h1 with rfl | rfl | rfl | rfl | rfl | rfl
  · have z := List.all_eq_true.mp kk185_0 (pc, i) h2
    exact z
  · have z := List.all_eq_true.mp kk185_1 (pc, i) h2
    exact z
  · have z := List.all_eq_true.mp kk185_2 (pc, i) h2
    exact z
  · have z := List.all_eq_true.mp kk185_3 (pc, i) h2
    exact z
  · have z := List.all_eq_true.mp kk185_4 (pc, i) h2
    exact z
  · have z := List.all_eq_true.mp kk185_5 (pc, i) h2
    exact z
theorem kk186_0 : kc186_0.all (fun q => am_ok lw_tbl kCl kTy kG kM186.1 kM186.2.1 kM186.2.2.2.1 kM186.2.2.2.2.1 q.1 q.2) = true := by decide +kernel
theorem kk186_1 : kc186_1.all (fun q => am_ok lw_tbl kCl kTy kG kM186.1 kM186.2.1 kM186.2.2.2.1 kM186.2.2.2.2.1 q.1 q.2) = true := by decide +kernel
theorem kk186_2 : kc186_2.all (fun q => am_ok lw_tbl kCl kTy kG kM186.1 kM186.2.1 kM186.2.2.2.1 kM186.2.2.2.2.1 q.1 q.2) = true := by decide +kernel
theorem kq186 : plainName kM186.1.cls = true ∧ ∀ (pc : Nat) (i : am_I), kM186.2.2.2.2.2 pc = some i → am_ok lw_tbl kCl kTy kG kM186.1 kM186.2.1 kM186.2.2.2.1 kM186.2.2.2.2.1 pc i = true := by
  refine ⟨by decide +kernel, fun pc i h => ?_⟩
  obtain ⟨q, h1, h2⟩ := kLks_mem (l := km186) h
  simp only [km186, List.mem_cons, List.not_mem_nil, or_false] at h1
  rcases h1 with rfl | rfl | rfl
  · have z := List.all_eq_true.mp kk186_0 (pc, i) h2
    exact z
  · have z := List.all_eq_true.mp kk186_1 (pc, i) h2
    exact z
  · have z := List.all_eq_true.mp kk186_2 (pc, i) h2
    exact z
theorem kk187_0 : kc187_0.all (fun q => am_ok lw_tbl kCl kTy kG kM187.1 kM187.2.1 kM187.2.2.2.1 kM187.2.2.2.2.1 q.1 q.2) = true := by decide +kernel
theorem kk187_1 : kc187_1.all (fun q => am_ok lw_tbl kCl kTy kG kM187.1 kM187.2.1 kM187.2.2.2.1 kM187.2.2.2.2.1 q.1 q.2) = true := by decide +kernel
theorem kk187_2 : kc187_2.all (fun q => am_ok lw_tbl kCl kTy kG kM187.1 kM187.2.1 kM187.2.2.2.1 kM187.2.2.2.2.1 q.1 q.2) = true := by decide +kernel
theorem kk187_3 : kc187_3.all (fun q => am_ok lw_tbl kCl kTy kG kM187.1 kM187.2.1 kM187.2.2.2.1 kM187.2.2.2.2.1 q.1 q.2) = true := by decide +kernel
theorem kq187 : plainName kM187.1.cls = true ∧ ∀ (pc : Nat) (i : am_I), kM187.2.2.2.2.2 pc = some i → am_ok lw_tbl kCl kTy kG kM187.1 kM187.2.1 kM187.2.2.2.1 kM187.2.2.2.2.1 pc i = true := by
  refine ⟨by decide +kernel, fun pc i h => ?_⟩
  obtain ⟨q, h1, h2⟩ := kLks_mem (l := km187) h
  simp only [km187, List.mem_cons, List.not_mem_nil, or_false] at h1
  rcases h1 with rfl | rfl | rfl | rfl
  · have z := List.all_eq_true.mp kk187_0 (pc, i) h2
    exact z
  · have z := List.all_eq_true.mp kk187_1 (pc, i) h2
    exact z
  · have z := List.all_eq_true.mp kk187_2 (pc, i) h2
    exact z
  · have z := List.all_eq_true.mp kk187_3 (pc, i) h2
    exact z
theorem kk188_0 : kc188_0.all (fun q => am_ok lw_tbl kCl kTy kG kM188.1 kM188.2.1 kM188.2.2.2.1 kM188.2.2.2.2.1 q.1 q.2) = true := by decide +kernel
theorem kq188 : plainName kM188.1.cls = true ∧ ∀ (pc : Nat) (i : am_I), kM188.2.2.2.2.2 pc = some i → am_ok lw_tbl kCl kTy kG kM188.1 kM188.2.1 kM188.2.2.2.1 kM188.2.2.2.2.1 pc i = true := by
  refine ⟨by decide +kernel, fun pc i h => ?_⟩
  obtain ⟨q, h1, h2⟩ := kLks_mem (l := km188) h
  simp only [km188, List.mem_cons, List.not_mem_nil, or_false] at h1
  rcases h1 with rfl
  have z := List.all_eq_true.mp kk188_0 (pc, i) h2
  exact z
theorem kk189_0 : kc189_0.all (fun q => am_ok lw_tbl kCl kTy kG kM189.1 kM189.2.1 kM189.2.2.2.1 kM189.2.2.2.2.1 q.1 q.2) = true := by decide +kernel
theorem kq189 : plainName kM189.1.cls = true ∧ ∀ (pc : Nat) (i : am_I), kM189.2.2.2.2.2 pc = some i → am_ok lw_tbl kCl kTy kG kM189.1 kM189.2.1 kM189.2.2.2.1 kM189.2.2.2.2.1 pc i = true := by
  refine ⟨by decide +kernel, fun pc i h => ?_⟩
  obtain ⟨q, h1, h2⟩ := kLks_mem (l := km189) h
  simp only [km189, List.mem_cons, List.not_mem_nil, or_false] at h1
  rcases h1 with rfl
  have z := List.all_eq_true.mp kk189_0 (pc, i) h2
  exact z
theorem kk190_0 : kc190_0.all (fun q => am_ok lw_tbl kCl kTy kG kM190.1 kM190.2.1 kM190.2.2.2.1 kM190.2.2.2.2.1 q.1 q.2) = true := by decide +kernel
theorem kk190_1 : kc190_1.all (fun q => am_ok lw_tbl kCl kTy kG kM190.1 kM190.2.1 kM190.2.2.2.1 kM190.2.2.2.2.1 q.1 q.2) = true := by decide +kernel
theorem kk190_2 : kc190_2.all (fun q => am_ok lw_tbl kCl kTy kG kM190.1 kM190.2.1 kM190.2.2.2.1 kM190.2.2.2.2.1 q.1 q.2) = true := by decide +kernel
theorem kk190_3 : kc190_3.all (fun q => am_ok lw_tbl kCl kTy kG kM190.1 kM190.2.1 kM190.2.2.2.1 kM190.2.2.2.2.1 q.1 q.2) = true := by decide +kernel
theorem kq190 : plainName kM190.1.cls = true ∧ ∀ (pc : Nat) (i : am_I), kM190.2.2.2.2.2 pc = some i → am_ok lw_tbl kCl kTy kG kM190.1 kM190.2.1 kM190.2.2.2.1 kM190.2.2.2.2.1 pc i = true := by
  refine ⟨by decide +kernel, fun pc i h => ?_⟩
  obtain ⟨q, h1, h2⟩ := kLks_mem (l := km190) h
  simp only [km190, List.mem_cons, List.not_mem_nil, or_false] at h1
  rcases h1 with rfl | rfl | rfl | rfl
  · have z := List.all_eq_true.mp kk190_0 (pc, i) h2
    exact z
  · have z := List.all_eq_true.mp kk190_1 (pc, i) h2
    exact z
  · have z := List.all_eq_true.mp kk190_2 (pc, i) h2
    exact z
  · have z := List.all_eq_true.mp kk190_3 (pc, i) h2
    exact z
theorem kk191_0 : kc191_0.all (fun q => am_ok lw_tbl kCl kTy kG kM191.1 kM191.2.1 kM191.2.2.2.1 kM191.2.2.2.2.1 q.1 q.2) = true := by decide +kernel
theorem kq191 : plainName kM191.1.cls = true ∧ ∀ (pc : Nat) (i : am_I), kM191.2.2.2.2.2 pc = some i → am_ok lw_tbl kCl kTy kG kM191.1 kM191.2.1 kM191.2.2.2.1 kM191.2.2.2.2.1 pc i = true := by
  refine ⟨by decide +kernel, fun pc i h => ?_⟩
  obtain ⟨q, h1, h2⟩ := kLks_mem (l := km191) h
  simp only [km191, List.mem_cons, List.not_mem_nil, or_false] at h1
  rcases h1 with rfl
  have z := List.all_eq_true.mp kk191_0 (pc, i) h2
  exact z
theorem kk192_0 : kc192_0.all (fun q => am_ok lw_tbl kCl kTy kG kM192.1 kM192.2.1 kM192.2.2.2.1 kM192.2.2.2.2.1 q.1 q.2) = true := by decide +kernel
theorem kq192 : plainName kM192.1.cls = true ∧ ∀ (pc : Nat) (i : am_I), kM192.2.2.2.2.2 pc = some i → am_ok lw_tbl kCl kTy kG kM192.1 kM192.2.1 kM192.2.2.2.1 kM192.2.2.2.2.1 pc i = true := by
  refine ⟨by decide +kernel, fun pc i h => ?_⟩
  obtain ⟨q, h1, h2⟩ := kLks_mem (l := km192) h
  simp only [km192, List.mem_cons, List.not_mem_nil, or_false] at h1
  rcases h1 with rfl
  have z := List.all_eq_true.mp kk192_0 (pc, i) h2
  exact z
theorem kk193_0 : kc193_0.all (fun q => am_ok lw_tbl kCl kTy kG kM193.1 kM193.2.1 kM193.2.2.2.1 kM193.2.2.2.2.1 q.1 q.2) = true := by decide +kernel
theorem kk193_1 : kc193_1.all (fun q => am_ok lw_tbl kCl kTy kG kM193.1 kM193.2.1 kM193.2.2.2.1 kM193.2.2.2.2.1 q.1 q.2) = true := by decide +kernel
theorem kk193_2 : kc193_2.all (fun q => am_ok lw_tbl kCl kTy kG kM193.1 kM193.2.1 kM193.2.2.2.1 kM193.2.2.2.2.1 q.1 q.2) = true := by decide +kernel
theorem kq193 : plainName kM193.1.cls = true ∧ ∀ (pc : Nat) (i : am_I), kM193.2.2.2.2.2 pc = some i → am_ok lw_tbl kCl kTy kG kM193.1 kM193.2.1 kM193.2.2.2.1 kM193.2.2.2.2.1 pc i = true := by
  refine ⟨by decide +kernel, fun pc i h => ?_⟩
  obtain ⟨q, h1, h2⟩ := kLks_mem (l := km193) h
  simp only [km193, List.mem_cons, List.not_mem_nil, or_false] at h1
  rcases h1 with rfl | rfl | rfl
  · have z := List.all_eq_true.mp kk193_0 (pc, i) h2
    exact z
  · have z := List.all_eq_true.mp kk193_1 (pc, i) h2
    exact z
  · have z := List.all_eq_true.mp kk193_2 (pc, i) h2
    exact z
theorem kk194_0 : kc194_0.all (fun q => am_ok lw_tbl kCl kTy kG kM194.1 kM194.2.1 kM194.2.2.2.1 kM194.2.2.2.2.1 q.1 q.2) = true := by decide +kernel
theorem kq194 : plainName kM194.1.cls = true ∧ ∀ (pc : Nat) (i : am_I), kM194.2.2.2.2.2 pc = some i → am_ok lw_tbl kCl kTy kG kM194.1 kM194.2.1 kM194.2.2.2.1 kM194.2.2.2.2.1 pc i = true := by
  refine ⟨by decide +kernel, fun pc i h => ?_⟩
  obtain ⟨q, h1, h2⟩ := kLks_mem (l := km194) h
  simp only [km194, List.mem_cons, List.not_mem_nil, or_false] at h1
  rcases h1 with rfl
  have z := List.all_eq_true.mp kk194_0 (pc, i) h2
  exact z
theorem kk195_0 : kc195_0.all (fun q => am_ok lw_tbl kCl kTy kG kM195.1 kM195.2.1 kM195.2.2.2.1 kM195.2.2.2.2.1 q.1 q.2) = true := by decide +kernel
theorem kq195 : plainName kM195.1.cls = true ∧ ∀ (pc : Nat) (i : am_I), kM195.2.2.2.2.2 pc = some i → am_ok lw_tbl kCl kTy kG kM195.1 kM195.2.1 kM195.2.2.2.1 kM195.2.2.2.2.1 pc i = true := by
  refine ⟨by decide +kernel, fun pc i h => ?_⟩
  obtain ⟨q, h1, h2⟩ := kLks_mem (l := km195) h
  simp only [km195, List.mem_cons, List.not_mem_nil, or_false] at h1
  rcases h1 with rfl
  have z := List.all_eq_true.mp kk195_0 (pc, i) h2
  exact z
theorem kk196_0 : kc196_0.all (fun q => am_ok lw_tbl kCl kTy kG kM196.1 kM196.2.1 kM196.2.2.2.1 kM196.2.2.2.2.1 q.1 q.2) = true := by decide +kernel
theorem kq196 : plainName kM196.1.cls = true ∧ ∀ (pc : Nat) (i : am_I), kM196.2.2.2.2.2 pc = some i → am_ok lw_tbl kCl kTy kG kM196.1 kM196.2.1 kM196.2.2.2.1 kM196.2.2.2.2.1 pc i = true := by
  refine ⟨by decide +kernel, fun pc i h => ?_⟩
  obtain ⟨q, h1, h2⟩ := kLks_mem (l := km196) h
  simp only [km196, List.mem_cons, List.not_mem_nil, or_false] at h1
  rcases h1 with rfl
  have z := List.all_eq_true.mp kk196_0 (pc, i) h2
  exact z
theorem kk197_0 : kc197_0.all (fun q => am_ok lw_tbl kCl kTy kG kM197.1 kM197.2.1 kM197.2.2.2.1 kM197.2.2.2.2.1 q.1 q.2) = true := by decide +kernel
theorem kk197_1 : kc197_1.all (fun q => am_ok lw_tbl kCl kTy kG kM197.1 kM197.2.1 kM197.2.2.2.1 kM197.2.2.2.2.1 q.1 q.2) = true := by decide +kernel
theorem kk197_2 : kc197_2.all (fun q => am_ok lw_tbl kCl kTy kG kM197.1 kM197.2.1 kM197.2.2.2.1 kM197.2.2.2.2.1 q.1 q.2) = true := by decide +kernel
theorem kk197_3 : kc197_3.all (fun q => am_ok lw_tbl kCl kTy kG kM197.1 kM197.2.1 kM197.2.2.2.1 kM197.2.2.2.2.1 q.1 q.2) = true := by decide +kernel
theorem kq197 : plainName kM197.1.cls = true ∧ ∀ (pc : Nat) (i : am_I), kM197.2.2.2.2.2 pc = some i → am_ok lw_tbl kCl kTy kG kM197.1 kM197.2.1 kM197.2.2.2.1 kM197.2.2.2.2.1 pc i = true := by
  refine ⟨by decide +kernel, fun pc i h => ?_⟩
  obtain ⟨q, h1, h2⟩ := kLks_mem (l := km197) h
  simp only [km197, List.mem_cons, List.not_mem_nil, or_false] at h1
  rcases h1 with rfl | rfl | rfl | rfl
  · have z := List.all_eq_true.mp kk197_0 (pc, i) h2
    exact z
  · have z := List.all_eq_true.mp kk197_1 (pc, i) h2
    exact z
  · have z := List.all_eq_true.mp kk197_2 (pc, i) h2
    exact z
  · have z := List.all_eq_true.mp kk197_3 (pc, i) h2
    exact z
theorem kk198_0 : kc198_0.all (fun q => am_ok lw_tbl kCl kTy kG kM198.1 kM198.2.1 kM198.2.2.2.1 kM198.2.2.2.2.1 q.1 q.2) = true := by decide +kernel
theorem kk198_1 : kc198_1.all (fun q => am_ok lw_tbl kCl kTy kG kM198.1 kM198.2.1 kM198.2.2.2.1 kM198.2.2.2.2.1 q.1 q.2) = true := by decide +kernel
theorem kq198 : plainName kM198.1.cls = true ∧ ∀ (pc : Nat) (i : am_I), kM198.2.2.2.2.2 pc = some i → am_ok lw_tbl kCl kTy kG kM198.1 kM198.2.1 kM198.2.2.2.1 kM198.2.2.2.2.1 pc i = true := by
  refine ⟨by decide +kernel, fun pc i h => ?_⟩
  obtain ⟨q, h1, h2⟩ := kLks_mem (l := km198) h
  simp only [km198, List.mem_cons, List.not_mem_nil, or_false] at h1
  rcases h1 with rfl | rfl
  · have z := List.all_eq_true.mp kk198_0 (pc, i) h2
    exact z
  · have z := List.all_eq_true.mp kk198_1 (pc, i) h2
    exact z
theorem kk199_0 : kc199_0.all (fun q => am_ok lw_tbl kCl kTy kG kM199.1 kM199.2.1 kM199.2.2.2.1 kM199.2.2.2.2.1 q.1 q.2) = true := by decide +kernel
theorem kk199_1 : kc199_1.all (fun q => am_ok lw_tbl kCl kTy kG kM199.1 kM199.2.1 kM199.2.2.2.1 kM199.2.2.2.2.1 q.1 q.2) = true := by decide +kernel
theorem kk199_2 : kc199_2.all (fun q => am_ok lw_tbl kCl kTy kG kM199.1 kM199.2.1 kM199.2.2.2.1 kM199.2.2.2.2.1 q.1 q.2) = true := by decide +kernel
theorem kk199_3 : kc199_3.all (fun q => am_ok lw_tbl kCl kTy kG kM199.1 kM199.2.1 kM199.2.2.2.1 kM199.2.2.2.2.1 q.1 q.2) = true := by decide +kernel
theorem kk199_4 : kc199_4.all (fun q => am_ok lw_tbl kCl kTy kG kM199.1 kM199.2.1 kM199.2.2.2.1 kM199.2.2.2.2.1 q.1 q.2) = true := by decide +kernel
theorem kk199_5 : kc199_5.all (fun q => am_ok lw_tbl kCl kTy kG kM199.1 kM199.2.1 kM199.2.2.2.1 kM199.2.2.2.2.1 q.1 q.2) = true := by decide +kernel
theorem kq199 : plainName kM199.1.cls = true ∧ ∀ (pc : Nat) (i : am_I), kM199.2.2.2.2.2 pc = some i → am_ok lw_tbl kCl kTy kG kM199.1 kM199.2.1 kM199.2.2.2.1 kM199.2.2.2.2.1 pc i = true := by
  refine ⟨by decide +kernel, fun pc i h => ?_⟩
  obtain ⟨q, h1, h2⟩ := kLks_mem (l := km199) h
  simp only [km199, List.mem_cons, List.not_mem_nil, or_false] at h1
  rcases h1 with rfl | rfl | rfl | rfl | rfl | rfl
  · have z := List.all_eq_true.mp kk199_0 (pc, i) h2
    exact z
  · have z := List.all_eq_true.mp kk199_1 (pc, i) h2
    exact z
  · have z := List.all_eq_true.mp kk199_2 (pc, i) h2
    exact z
  · have z := List.all_eq_true.mp kk199_3 (pc, i) h2
    exact z
  · have z := List.all_eq_true.mp kk199_4 (pc, i) h2
    exact z
  · have z := List.all_eq_true.mp kk199_5 (pc, i) h2
    exact z
theorem kk200_0 : kc200_0.all (fun q => am_ok lw_tbl kCl kTy kG kM200.1 kM200.2.1 kM200.2.2.2.1 kM200.2.2.2.2.1 q.1 q.2) = true := by decide +kernel
theorem kq200 : plainName kM200.1.cls = true ∧ ∀ (pc : Nat) (i : am_I), kM200.2.2.2.2.2 pc = some i → am_ok lw_tbl kCl kTy kG kM200.1 kM200.2.1 kM200.2.2.2.1 kM200.2.2.2.2.1 pc i = true := by
  refine ⟨by decide +kernel, fun pc i h => ?_⟩
  obtain ⟨q, h1, h2⟩ := kLks_mem (l := km200) h
  simp only [km200, List.mem_cons, List.not_mem_nil, or_false] at h1
  rcases h1 with rfl
  have z := List.all_eq_true.mp kk200_0 (pc, i) h2
  exact z
theorem kk201_0 : kc201_0.all (fun q => am_ok lw_tbl kCl kTy kG kM201.1 kM201.2.1 kM201.2.2.2.1 kM201.2.2.2.2.1 q.1 q.2) = true := by decide +kernel
theorem kk201_1 : kc201_1.all (fun q => am_ok lw_tbl kCl kTy kG kM201.1 kM201.2.1 kM201.2.2.2.1 kM201.2.2.2.2.1 q.1 q.2) = true := by decide +kernel
theorem kk201_2 : kc201_2.all (fun q => am_ok lw_tbl kCl kTy kG kM201.1 kM201.2.1 kM201.2.2.2.1 kM201.2.2.2.2.1 q.1 q.2) = true := by decide +kernel
theorem kk201_3 : kc201_3.all (fun q => am_ok lw_tbl kCl kTy kG kM201.1 kM201.2.1 kM201.2.2.2.1 kM201.2.2.2.2.1 q.1 q.2) = true := by decide +kernel
theorem kk201_4 : kc201_4.all (fun q => am_ok lw_tbl kCl kTy kG kM201.1 kM201.2.1 kM201.2.2.2.1 kM201.2.2.2.2.1 q.1 q.2) = true := by decide +kernel
theorem kq201 : plainName kM201.1.cls = true ∧ ∀ (pc : Nat) (i : am_I), kM201.2.2.2.2.2 pc = some i → am_ok lw_tbl kCl kTy kG kM201.1 kM201.2.1 kM201.2.2.2.1 kM201.2.2.2.2.1 pc i = true := by
  refine ⟨by decide +kernel, fun pc i h => ?_⟩
  obtain ⟨q, h1, h2⟩ := kLks_mem (l := km201) h
  simp only [km201, List.mem_cons, List.not_mem_nil, or_false] at h1
  rcases h1 with rfl | rfl | rfl | rfl | rfl
  · have z := List.all_eq_true.mp kk201_0 (pc, i) h2
    exact z
  · have z := List.all_eq_true.mp kk201_1 (pc, i) h2
    exact z
  · have z := List.all_eq_true.mp kk201_2 (pc, i) h2
    exact z
  · have z := List.all_eq_true.mp kk201_3 (pc, i) h2
    exact z
  · have z := List.all_eq_true.mp kk201_4 (pc, i) h2
    exact z
theorem kk202_0 : kc202_0.all (fun q => am_ok lw_tbl kCl kTy kG kM202.1 kM202.2.1 kM202.2.2.2.1 kM202.2.2.2.2.1 q.1 q.2) = true := by decide +kernel
theorem kk202_1 : kc202_1.all (fun q => am_ok lw_tbl kCl kTy kG kM202.1 kM202.2.1 kM202.2.2.2.1 kM202.2.2.2.2.1 q.1 q.2) = true := by decide +kernel
theorem kq202 : plainName kM202.1.cls = true ∧ ∀ (pc : Nat) (i : am_I), kM202.2.2.2.2.2 pc = some i → am_ok lw_tbl kCl kTy kG kM202.1 kM202.2.1 kM202.2.2.2.1 kM202.2.2.2.2.1 pc i = true := by
  refine ⟨by decide +kernel, fun pc i h => ?_⟩
  obtain ⟨q, h1, h2⟩ := kLks_mem (l := km202) h
  simp only [km202, List.mem_cons, List.not_mem_nil, or_false] at h1
  rcases h1 with rfl | rfl
  · have z := List.all_eq_true.mp kk202_0 (pc, i) h2
    exact z
  · have z := List.all_eq_true.mp kk202_1 (pc, i) h2
    exact z
theorem kk203_0 : kc203_0.all (fun q => am_ok lw_tbl kCl kTy kG kM203.1 kM203.2.1 kM203.2.2.2.1 kM203.2.2.2.2.1 q.1 q.2) = true := by decide +kernel
theorem kq203 : plainName kM203.1.cls = true ∧ ∀ (pc : Nat) (i : am_I), kM203.2.2.2.2.2 pc = some i → am_ok lw_tbl kCl kTy kG kM203.1 kM203.2.1 kM203.2.2.2.1 kM203.2.2.2.2.1 pc i = true := by
  refine ⟨by decide +kernel, fun pc i h => ?_⟩
  obtain ⟨q, h1, h2⟩ := kLks_mem (l := km203) h
  simp only [km203, List.mem_cons, List.not_mem_nil, or_false] at h1
  rcases h1 with rfl
  have z := List.all_eq_true.mp kk203_0 (pc, i) h2
  exact z
theorem kk204_0 : kc204_0.all (fun q => am_ok lw_tbl kCl kTy kG kM204.1 kM204.2.1 kM204.2.2.2.1 kM204.2.2.2.2.1 q.1 q.2) = true := by decide +kernel
theorem kq204 : plainName kM204.1.cls = true ∧ ∀ (pc : Nat) (i : am_I), kM204.2.2.2.2.2 pc = some i → am_ok lw_tbl kCl kTy kG kM204.1 kM204.2.1 kM204.2.2.2.1 kM204.2.2.2.2.1 pc i = true := by
  refine ⟨by decide +kernel, fun pc i h => ?_⟩
  obtain ⟨q, h1, h2⟩ := kLks_mem (l := km204) h
  simp only [km204, List.mem_cons, List.not_mem_nil, or_false] at h1
  rcases h1 with rfl
  have z := List.all_eq_true.mp kk204_0 (pc, i) h2
  exact z
theorem kk205_0 : kc205_0.all (fun q => am_ok lw_tbl kCl kTy kG kM205.1 kM205.2.1 kM205.2.2.2.1 kM205.2.2.2.2.1 q.1 q.2) = true := by decide +kernel
theorem kk205_1 : kc205_1.all (fun q => am_ok lw_tbl kCl kTy kG kM205.1 kM205.2.1 kM205.2.2.2.1 kM205.2.2.2.2.1 q.1 q.2) = true := by decide +kernel
theorem kq205 : plainName kM205.1.cls = true ∧ ∀ (pc : Nat) (i : am_I), kM205.2.2.2.2.2 pc = some i → am_ok lw_tbl kCl kTy kG kM205.1 kM205.2.1 kM205.2.2.2.1 kM205.2.2.2.2.1 pc i = true := by
  refine ⟨by decide +kernel, fun pc i h => ?_⟩
  obtain ⟨q, h1, h2⟩ := kLks_mem (l := km205) h
  simp only [km205, List.mem_cons, List.not_mem_nil, or_false] at h1
  rcases h1 with rfl | rfl
  · have z := List.all_eq_true.mp kk205_0 (pc, i) h2
    exact z
  · have z := List.all_eq_true.mp kk205_1 (pc, i) h2
    exact z
theorem kk206_0 : kc206_0.all (fun q => am_ok lw_tbl kCl kTy kG kM206.1 kM206.2.1 kM206.2.2.2.1 kM206.2.2.2.2.1 q.1 q.2) = true := by decide +kernel
theorem kk206_1 : kc206_1.all (fun q => am_ok lw_tbl kCl kTy kG kM206.1 kM206.2.1 kM206.2.2.2.1 kM206.2.2.2.2.1 q.1 q.2) = true := by decide +kernel
theorem kq206 : plainName kM206.1.cls = true ∧ ∀ (pc : Nat) (i : am_I), kM206.2.2.2.2.2 pc = some i → am_ok lw_tbl kCl kTy kG kM206.1 kM206.2.1 kM206.2.2.2.1 kM206.2.2.2.2.1 pc i = true := by
  refine ⟨by decide +kernel, fun pc i h => ?_⟩
  obtain ⟨q, h1, h2⟩ := kLks_mem (l := km206) h
  simp only [km206, List.mem_cons, List.not_mem_nil, or_false] at h1
  rcases h1 with rfl | rfl
  · have z := List.all_eq_true.mp kk206_0 (pc, i) h2
    exact z
  · have z := List.all_eq_true.mp kk206_1 (pc, i) h2
    exact z
theorem kk207_0 : kc207_0.all (fun q => am_ok lw_tbl kCl kTy kG kM207.1 kM207.2.1 kM207.2.2.2.1 kM207.2.2.2.2.1 q.1 q.2) = true := by decide +kernel
theorem kq207 : plainName kM207.1.cls = true ∧ ∀ (pc : Nat) (i : am_I), kM207.2.2.2.2.2 pc = some i → am_ok lw_tbl kCl kTy kG kM207.1 kM207.2.1 kM207.2.2.2.1 kM207.2.2.2.2.1 pc i = true := by
  refine ⟨by decide +kernel, fun pc i h => ?_⟩
  obtain ⟨q, h1, h2⟩ := kLks_mem (l := km207) h
  simp only [km207, List.mem_cons, List.not_mem_nil, or_false] at h1
  rcases h1 with rfl
  have z := List.all_eq_true.mp kk207_0 (pc, i) h2
  exact z
theorem kk208_0 : kc208_0.all (fun q => am_ok lw_tbl kCl kTy kG kM208.1 kM208.2.1 kM208.2.2.2.1 kM208.2.2.2.2.1 q.1 q.2) = true := by decide +kernel
theorem kk208_1 : kc208_1.all (fun q => am_ok lw_tbl kCl kTy kG kM208.1 kM208.2.1 kM208.2.2.2.1 kM208.2.2.2.2.1 q.1 q.2) = true := by decide +kernel
theorem kq208 : plainName kM208.1.cls = true ∧ ∀ (pc : Nat) (i : am_I), kM208.2.2.2.2.2 pc = some i → am_ok lw_tbl kCl kTy kG kM208.1 kM208.2.1 kM208.2.2.2.1 kM208.2.2.2.2.1 pc i = true := by
  refine ⟨by decide +kernel, fun pc i h => ?_⟩
  obtain ⟨q, h1, h2⟩ := kLks_mem (l := km208) h
  simp only [km208, List.mem_cons, List.not_mem_nil, or_false] at h1
  rcases h1 with rfl | rfl
  · have z := List.all_eq_true.mp kk208_0 (pc, i) h2
    exact z
  · have z := List.all_eq_true.mp kk208_1 (pc, i) h2
    exact z
theorem kk209_0 : kc209_0.all (fun q => am_ok lw_tbl kCl kTy kG kM209.1 kM209.2.1 kM209.2.2.2.1 kM209.2.2.2.2.1 q.1 q.2) = true := by decide +kernel
theorem kk209_1 : kc209_1.all (fun q => am_ok lw_tbl kCl kTy kG kM209.1 kM209.2.1 kM209.2.2.2.1 kM209.2.2.2.2.1 q.1 q.2) = true := by decide +kernel
theorem kk209_2 : kc209_2.all (fun q => am_ok lw_tbl kCl kTy kG kM209.1 kM209.2.1 kM209.2.2.2.1 kM209.2.2.2.2.1 q.1 q.2) = true := by decide +kernel
theorem kk209_3 : kc209_3.all (fun q => am_ok lw_tbl kCl kTy kG kM209.1 kM209.2.1 kM209.2.2.2.1 kM209.2.2.2.2.1 q.1 q.2) = true := by decide +kernel
theorem kq209 : plainName kM209.1.cls = true ∧ ∀ (pc : Nat) (i : am_I), kM209.2.2.2.2.2 pc = some i → am_ok lw_tbl kCl kTy kG kM209.1 kM209.2.1 kM209.2.2.2.1 kM209.2.2.2.2.1 pc i = true := by
  refine ⟨by decide +kernel, fun pc i h => ?_⟩
  obtain ⟨q, h1, h2⟩ := kLks_mem (l := km209) h
  simp only [km209, List.mem_cons, List.not_mem_nil, or_false] at h1
  rcases h1 with rfl | rfl | rfl | rfl
  · have z := List.all_eq_true.mp kk209_0 (pc, i) h2
    exact z
  · have z := List.all_eq_true.mp kk209_1 (pc, i) h2
    exact z
  · have z := List.all_eq_true.mp kk209_2 (pc, i) h2
    exact z
  · have z := List.all_eq_true.mp kk209_3 (pc, i) h2
    exact z
theorem kk210_0 : kc210_0.all (fun q => am_ok lw_tbl kCl kTy kG kM210.1 kM210.2.1 kM210.2.2.2.1 kM210.2.2.2.2.1 q.1 q.2) = true := by decide +kernel
theorem kq210 : plainName kM210.1.cls = true ∧ ∀ (pc : Nat) (i : am_I), kM210.2.2.2.2.2 pc = some i → am_ok lw_tbl kCl kTy kG kM210.1 kM210.2.1 kM210.2.2.2.1 kM210.2.2.2.2.1 pc i = true := by
  refine ⟨by decide +kernel, fun pc i h => ?_⟩
  obtain ⟨q, h1, h2⟩ := kLks_mem (l := km210) h
  simp only [km210, List.mem_cons, List.not_mem_nil, or_false] at h1
  rcases h1 with rfl
  have z := List.all_eq_true.mp kk210_0 (pc, i) h2
  exact z
theorem kk211_0 : kc211_0.all (fun q => am_ok lw_tbl kCl kTy kG kM211.1 kM211.2.1 kM211.2.2.2.1 kM211.2.2.2.2.1 q.1 q.2) = true := by decide +kernel
theorem kk211_1 : kc211_1.all (fun q => am_ok lw_tbl kCl kTy kG kM211.1 kM211.2.1 kM211.2.2.2.1 kM211.2.2.2.2.1 q.1 q.2) = true := by decide +kernel
theorem kk211_2 : kc211_2.all (fun q => am_ok lw_tbl kCl kTy kG kM211.1 kM211.2.1 kM211.2.2.2.1 kM211.2.2.2.2.1 q.1 q.2) = true := by decide +kernel
theorem kk211_3 : kc211_3.all (fun q => am_ok lw_tbl kCl kTy kG kM211.1 kM211.2.1 kM211.2.2.2.1 kM211.2.2.2.2.1 q.1 q.2) = true := by decide +kernel
theorem kk211_4 : kc211_4.all (fun q => am_ok lw_tbl kCl kTy kG kM211.1 kM211.2.1 kM211.2.2.2.1 kM211.2.2.2.2.1 q.1 q.2) = true := by decide +kernel
theorem kq211 : plainName kM211.1.cls = true ∧ ∀ (pc : Nat) (i : am_I), kM211.2.2.2.2.2 pc = some i → am_ok lw_tbl kCl kTy kG kM211.1 kM211.2.1 kM211.2.2.2.1 kM211.2.2.2.2.1 pc i = true := by
  refine ⟨by decide +kernel, fun pc i h => ?_⟩
  obtain ⟨q, h1, h2⟩ := kLks_mem (l := km211) h
  simp only [km211, List.mem_cons, List.not_mem_nil, or_false] at h1
  rcases h1 with rfl | rfl | rfl | rfl | rfl
  · have z := List.all_eq_true.mp kk211_0 (pc, i) h2
    exact z
  · have z := List.all_eq_true.mp kk211_1 (pc, i) h2
    exact z
  · have z := List.all_eq_true.mp kk211_2 (pc, i) h2
    exact z
  · have z := List.all_eq_true.mp kk211_3 (pc, i) h2
    exact z
  · have z := List.all_eq_true.mp kk211_4 (pc, i) h2
    exact z
theorem kk212_0 : kc212_0.all (fun q => am_ok lw_tbl kCl kTy kG kM212.1 kM212.2.1 kM212.2.2.2.1 kM212.2.2.2.2.1 q.1 q.2) = true := by decide +kernel
theorem kk212_1 : kc212_1.all (fun q => am_ok lw_tbl kCl kTy kG kM212.1 kM212.2.1 kM212.2.2.2.1 kM212.2.2.2.2.1 q.1 q.2) = true := by decide +kernel
theorem kk212_2 : kc212_2.all (fun q => am_ok lw_tbl kCl kTy kG kM212.1 kM212.2.1 kM212.2.2.2.1 kM212.2.2.2.2.1 q.1 q.2) = true := by decide +kernel
theorem kq212 : plainName kM212.1.cls = true ∧ ∀ (pc : Nat) (i : am_I), kM212.2.2.2.2.2 pc = some i → am_ok lw_tbl kCl kTy kG kM212.1 kM212.2.1 kM212.2.2.2.1 kM212.2.2.2.2.1 pc i = true := by
  refine ⟨by decide +kernel, fun pc i h => ?_⟩
  obtain ⟨q, h1, h2⟩ := kLks_mem (l := km212) h
  simp only [km212, List.mem_cons, List.not_mem_nil, or_false] at h1
  rcases h1 with rfl | rfl | rfl
  · have z := List.all_eq_true.mp kk212_0 (pc, i) h2
    exact z
  · have z := List.all_eq_true.mp kk212_1 (pc, i) h2
    exact z
  · have z := List.all_eq_true.mp kk212_2 (pc, i) h2
    exact z
theorem kk213_0 : kc213_0.all (fun q => am_ok lw_tbl kCl kTy kG kM213.1 kM213.2.1 kM213.2.2.2.1 kM213.2.2.2.2.1 q.1 q.2) = true := by decide +kernel
theorem kk213_1 : kc213_1.all (fun q => am_ok lw_tbl kCl kTy kG kM213.1 kM213.2.1 kM213.2.2.2.1 kM213.2.2.2.2.1 q.1 q.2) = true := by decide +kernel
theorem kk213_2 : kc213_2.all (fun q => am_ok lw_tbl kCl kTy kG kM213.1 kM213.2.1 kM213.2.2.2.1 kM213.2.2.2.2.1 q.1 q.2) = true := by decide +kernel
theorem kk213_3 : kc213_3.all (fun q => am_ok lw_tbl kCl kTy kG kM213.1 kM213.2.1 kM213.2.2.2.1 kM213.2.2.2.2.1 q.1 q.2) = true := by decide +kernel
theorem kq213 : plainName kM213.1.cls = true ∧ ∀ (pc : Nat) (i : am_I), kM213.2.2.2.2.2 pc = some i → am_ok lw_tbl kCl kTy kG kM213.1 kM213.2.1 kM213.2.2.2.1 kM213.2.2.2.2.1 pc i = true := by
  refine ⟨by decide +kernel, fun pc i h => ?_⟩
  obtain ⟨q, h1, h2⟩ := kLks_mem (l := km213) h
  simp only [km213, List.mem_cons, List.not_mem_nil, or_false] at h1
  rcases h1 with rfl | rfl | rfl | rfl
  · have z := List.all_eq_true.mp kk213_0 (pc, i) h2
    exact z
  · have z := List.all_eq_true.mp kk213_1 (pc, i) h2
    exact z
  · have z := List.all_eq_true.mp kk213_2 (pc, i) h2
    exact z
  · have z := List.all_eq_true.mp kk213_3 (pc, i) h2
    exact z
theorem kk214_0 : kc214_0.all (fun q => am_ok lw_tbl kCl kTy kG kM214.1 kM214.2.1 kM214.2.2.2.1 kM214.2.2.2.2.1 q.1 q.2) = true := by decide +kernel
theorem kk214_1 : kc214_1.all (fun q => am_ok lw_tbl kCl kTy kG kM214.1 kM214.2.1 kM214.2.2.2.1 kM214.2.2.2.2.1 q.1 q.2) = true := by decide +kernel
theorem kk214_2 : kc214_2.all (fun q => am_ok lw_tbl kCl kTy kG kM214.1 kM214.2.1 kM214.2.2.2.1 kM214.2.2.2.2.1 q.1 q.2) = true := by decide +kernel
theorem kk214_3 : kc214_3.all (fun q => am_ok lw_tbl kCl kTy kG kM214.1 kM214.2.1 kM214.2.2.2.1 kM214.2.2.2.2.1 q.1 q.2) = true := by decide +kernel
theorem kk214_4 : kc214_4.all (fun q => am_ok lw_tbl kCl kTy kG kM214.1 kM214.2.1 kM214.2.2.2.1 kM214.2.2.2.2.1 q.1 q.2) = true := by decide +kernel
theorem kk214_5 : kc214_5.all (fun q => am_ok lw_tbl kCl kTy kG kM214.1 kM214.2.1 kM214.2.2.2.1 kM214.2.2.2.2.1 q.1 q.2) = true := by decide +kernel
theorem kk214_6 : kc214_6.all (fun q => am_ok lw_tbl kCl kTy kG kM214.1 kM214.2.1 kM214.2.2.2.1 kM214.2.2.2.2.1 q.1 q.2) = true := by decide +kernel
theorem kk214_7 : kc214_7.all (fun q => am_ok lw_tbl kCl kTy kG kM214.1 kM214.2.1 kM214.2.2.2.1 kM214.2.2.2.2.1 q.1 q.2) = true := by decide +kernel
theorem kk214_8 : kc214_8.all (fun q => am_ok lw_tbl kCl kTy kG kM214.1 kM214.2.1 kM214.2.2.2.1 kM214.2.2.2.2.1 q.1 q.2) = true := by decide +kernel
theorem kk214_9 : kc214_9.all (fun q => am_ok lw_tbl kCl kTy kG kM214.1 kM214.2.1 kM214.2.2.2.1 kM214.2.2.2.2.1 q.1 q.2) = true := by decide +kernel
theorem kq214 : plainName kM214.1.cls = true ∧ ∀ (pc : Nat) (i : am_I), kM214.2.2.2.2.2 pc = some i → am_ok lw_tbl kCl kTy kG kM214.1 kM214.2.1 kM214.2.2.2.1 kM214.2.2.2.2.1 pc i = true := by
  refine ⟨by decide +kernel, fun pc i h => ?_⟩
  obtain ⟨q, h1, h2⟩ := kLks_mem (l := km214) h
  simp only [km214, List.mem_cons, List.not_mem_nil, or_false] at h1
  rcases h1 with rfl | rfl | rfl | rfl | rfl | rfl | rfl | rfl | rfl | rfl
  · have z := List.all_eq_true.mp kk214_0 (pc, i) h2
    exact z
  · have z := List.all_eq_true.mp kk214_1 (pc, i) h2
    exact z
  · have z := List.all_eq_true.mp kk214_2 (pc, i) h2
    exact z
  · have z := List.all_eq_true.mp kk214_3 (pc, i) h2
    exact z
  · have z := List.all_eq_true.mp kk214_4 (pc, i) h2
    exact z
  · have z := List.all_eq_true.mp kk214_5 (pc, i) h2
    exact z
  · have z := List.all_eq_true.mp kk214_6 (pc, i) h2
    exact z
  · have z := List.all_eq_true.mp kk214_7 (pc, i) h2
    exact z
  · have z := List.all_eq_true.mp kk214_8 (pc, i) h2
    exact z
  · have z := List.all_eq_true.mp kk214_9 (pc, i) h2
    exact z
theorem kk215_0 : kc215_0.all (fun q => am_ok lw_tbl kCl kTy kG kM215.1 kM215.2.1 kM215.2.2.2.1 kM215.2.2.2.2.1 q.1 q.2) = true := by decide +kernel
theorem kq215 : True ∧ ∀ (pc : Nat) (i : am_I), kM215.2.2.2.2.2 pc = some i → am_ok lw_tbl kCl kTy kG kM215.1 kM215.2.1 kM215.2.2.2.1 kM215.2.2.2.2.1 pc i = true := by
  refine ⟨trivial, fun pc i h => ?_⟩
  obtain ⟨q, h1, h2⟩ := kLks_mem (l := km215) h
  simp only [km215, List.mem_cons, List.not_mem_nil, or_false] at h1
  rcases h1 with rfl
  have z := List.all_eq_true.mp kk215_0 (pc, i) h2
  exact z
theorem kk216_0 : kc216_0.all (fun q => am_ok lw_tbl kCl kTy kG kM216.1 kM216.2.1 kM216.2.2.2.1 kM216.2.2.2.2.1 q.1 q.2) = true := by decide +kernel
theorem kq216 : True ∧ ∀ (pc : Nat) (i : am_I), kM216.2.2.2.2.2 pc = some i → am_ok lw_tbl kCl kTy kG kM216.1 kM216.2.1 kM216.2.2.2.1 kM216.2.2.2.2.1 pc i = true := by
  refine ⟨trivial, fun pc i h => ?_⟩
  obtain ⟨q, h1, h2⟩ := kLks_mem (l := km216) h
  simp only [km216, List.mem_cons, List.not_mem_nil, or_false] at h1
  rcases h1 with rfl
  have z := List.all_eq_true.mp kk216_0 (pc, i) h2
  exact z
theorem kk217_0 : kc217_0.all (fun q => am_ok lw_tbl kCl kTy kG kM217.1 kM217.2.1 kM217.2.2.2.1 kM217.2.2.2.2.1 q.1 q.2) = true := by decide +kernel
theorem kq217 : True ∧ ∀ (pc : Nat) (i : am_I), kM217.2.2.2.2.2 pc = some i → am_ok lw_tbl kCl kTy kG kM217.1 kM217.2.1 kM217.2.2.2.1 kM217.2.2.2.2.1 pc i = true := by
  refine ⟨trivial, fun pc i h => ?_⟩
  obtain ⟨q, h1, h2⟩ := kLks_mem (l := km217) h
  simp only [km217, List.mem_cons, List.not_mem_nil, or_false] at h1
  rcases h1 with rfl
  have z := List.all_eq_true.mp kk217_0 (pc, i) h2
  exact z
theorem kk218_0 : kc218_0.all (fun q => am_ok lw_tbl kCl kTy kG kM218.1 kM218.2.1 kM218.2.2.2.1 kM218.2.2.2.2.1 q.1 q.2) = true := by decide +kernel
theorem kq218 : True ∧ ∀ (pc : Nat) (i : am_I), kM218.2.2.2.2.2 pc = some i → am_ok lw_tbl kCl kTy kG kM218.1 kM218.2.1 kM218.2.2.2.1 kM218.2.2.2.2.1 pc i = true := by
  refine ⟨trivial, fun pc i h => ?_⟩
  obtain ⟨q, h1, h2⟩ := kLks_mem (l := km218) h
  simp only [km218, List.mem_cons, List.not_mem_nil, or_false] at h1
  rcases h1 with rfl
  have z := List.all_eq_true.mp kk218_0 (pc, i) h2
  exact z
theorem kk219_0 : kc219_0.all (fun q => am_ok lw_tbl kCl kTy kG kM219.1 kM219.2.1 kM219.2.2.2.1 kM219.2.2.2.2.1 q.1 q.2) = true := by decide +kernel
theorem kq219 : plainName kM219.1.cls = true ∧ ∀ (pc : Nat) (i : am_I), kM219.2.2.2.2.2 pc = some i → am_ok lw_tbl kCl kTy kG kM219.1 kM219.2.1 kM219.2.2.2.1 kM219.2.2.2.2.1 pc i = true := by
  refine ⟨by decide +kernel, fun pc i h => ?_⟩
  obtain ⟨q, h1, h2⟩ := kLks_mem (l := km219) h
  simp only [km219, List.mem_cons, List.not_mem_nil, or_false] at h1
  rcases h1 with rfl
  have z := List.all_eq_true.mp kk219_0 (pc, i) h2
  exact z
theorem kOkC : am_okC lw_tbl kCl kTy := by
  intro ci q h
  match ci, h with
  | 0, h => cases h; exact ⟨by decide, by decide +kernel, by decide +kernel, by decide +kernel, List.mem_of_getElem? (i := 170) (by decide +kernel), List.mem_of_getElem? (i := 57) (by decide +kernel)⟩
  | 1, h => cases h; exact ⟨by decide, by decide +kernel, by decide +kernel, by decide +kernel, List.mem_of_getElem? (i := 227) (by decide +kernel), List.mem_of_getElem? (i := 60) (by decide +kernel)⟩
  | 2, h => cases h; exact ⟨by decide, by decide +kernel, by decide +kernel, by decide +kernel, List.mem_of_getElem? (i := 74) (by decide +kernel), List.mem_of_getElem? (i := 53) (by decide +kernel)⟩
  | 3, h => cases h; exact ⟨by decide, by decide +kernel, by decide +kernel, by decide +kernel, List.mem_of_getElem? (i := 106) (by decide +kernel), List.mem_of_getElem? (i := 55) (by decide +kernel)⟩
  | 4, h => cases h; exact ⟨by decide, by decide +kernel, by decide +kernel, by decide +kernel, List.mem_of_getElem? (i := 237) (by decide +kernel), List.mem_of_getElem? (i := 61) (by decide +kernel)⟩
  | 5, h => cases h; exact ⟨by decide, by decide +kernel, by decide +kernel, by decide +kernel, List.mem_of_getElem? (i := 98) (by decide +kernel), List.mem_of_getElem? (i := 54) (by decide +kernel)⟩
  | 6, h => cases h; exact ⟨by decide, by decide +kernel, by decide +kernel, by decide +kernel, List.mem_of_getElem? (i := 208) (by decide +kernel), List.mem_of_getElem? (i := 59) (by decide +kernel)⟩
  | 7, h => cases h; exact ⟨by decide, by decide +kernel, by decide +kernel, by decide +kernel, List.mem_of_getElem? (i := 148) (by decide +kernel), List.mem_of_getElem? (i := 56) (by decide +kernel)⟩
  | 8, h => cases h; exact ⟨by decide, by decide +kernel, by decide +kernel, by decide +kernel, List.mem_of_getElem? (i := 66) (by decide +kernel), List.mem_of_getElem? (i := 52) (by decide +kernel)⟩
  | 9, h => cases h; exact ⟨by decide, by decide +kernel, by decide +kernel, by decide +kernel, List.mem_of_getElem? (i := 842) (by decide +kernel), List.mem_of_getElem? (i := 62) (by decide +kernel)⟩
  | n + 10, h => simp [kCl] at h
theorem kArr : Cond.arrayClass .int ∈ lw_tbl ∧ Cond.arrayClass .long ∈ lw_tbl ∧ Cond.arrayClass .boolean ∈ lw_tbl := ⟨by decide +kernel, by decide +kernel, by decide +kernel⟩
