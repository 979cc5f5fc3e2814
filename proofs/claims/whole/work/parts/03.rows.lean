/-! EACH STEP of the abstract machine carried over -/
def am_K (p : Program) (l : Launch) (e : Env) (R : Room) (s : State) (m : MethodId) (args : Array Value) (below : List Frame) (meth : Method) (c : Code) (H0 : Heap) (cells slots : Nat) (Q : State → Prop) (D : va_G) (cl : List vw_C) (ty : Nat → Nat → FieldType) (cA : Nat → ClassId) (B b nL : Nat) (S0 : am_Sh) (t : am_St) : Prop :=
  ∀ (H : Heap) (locs : List Loc) (ls : Array Slot), am_Lh ls nL B b t.2.1 → am_Wd D cl ty cA B t.2.2.2.1 t.2.2.2.2 H0 H locs → W p l e R s m args below meth c H locs (cells + (t.2.2.2.1.1 - S0.1)) (slots + (t.2.2.2.1.2.1 - S0.2.1)) Q (F0 m t.1 ls (t.2.2.1.map (am_va B b)))
section AMR
variable {p : Program} {l : Launch} {e : Env} {R : Room} {s : State} {m : MethodId} {args : Array Value} {below : List Frame} {meth : Method} {c : Code} {H H0 : Heap} {locs : List Loc} {cells slots : Nat} {Q : State → Prop}
variable {cc : ByteArray} {ls : Array Slot} {D : va_G} {cl : List vw_C} {ty : Nat → Nat → FieldType} {cA : Nat → ClassId} {B b nL mi : Nat} {X : am_X} {y : MethodName} {Tb : List Cond} {dp : Nat × Nat} {G : am_G} {ret : Option FieldType}
variable {len : Nat} {ps : List Nat} {pc : Nat} {loc : am_Lo} {st : List Value} {S : am_Sh} {M : am_Me} {t : am_St}

theorem am_K.go {pc' : Nat} {loc' : am_Lo} {st' : List Value} {S' : am_Sh} {M' : am_Me} (k : am_K p l e R s m args below meth c H0 cells slots Q D cl ty cA B b nL S (pc', loc', st', S', M')) (hl : am_Lh ls nL B b loc') (hw : am_Wd D cl ty cA B S' M' H0 H locs) (h1 : S'.1 = S.1) (h2 : S'.2.1 = S.2.1) : W p l e R s m args below meth c H locs cells slots Q (F0 m pc' ls (st'.map (am_va B b))) :=
  W.cs (by simp [h1]) (by simp [h2]) (k H locs ls hl hw)
theorem am_ok_dec {ins : Instr} (h : am_ok Tb cl ty G y cc ret dp pc (ins, len, ps) = true) (hT : am_isT ins = false) : decode cc pc = .ok (ins, am_len ins) := by
  simp only [am_ok, Bool.and_eq_true, Bool.or_eq_true, decide_eq_true_eq, beq_iff_eq, hT] at h
  rcases h.1.2 with q | q
  · cases q
  · rw [h.1.1, q]
theorem am_ok_dec' {ins : Instr} (h : am_ok Tb cl ty G y cc ret dp pc (ins, len, ps) = true) : decode cc pc = .ok (ins, len) := by
  simp only [am_ok, Bool.and_eq_true, Bool.or_eq_true, decide_eq_true_eq, beq_iff_eq] at h
  exact h.1.1
theorem am_ok_l {ins : Instr} (h : am_ok Tb cl ty G y cc ret dp pc (ins, len, ps) = true) : am_okL Tb cl ty G y ret dp pc ins ps = true := by
  simp only [am_ok, Bool.and_eq_true] at h
  exact h.2
theorem am_ii_of {f : Int32 → Int32 → Int32} (h : am_ii pc loc st S M f = some (.inl t)) : ∃ x y r, st = .int y :: .int x :: r ∧ t = (pc + 1, loc, .int (f x y) :: r, S, M) := by
  unfold am_ii am_nx at h
  split at h
  · cases h; exact ⟨_, _, _, rfl, rfl⟩
  · cases h
theorem am_ll_of {f : Int64 → Int64 → Int64} (h : am_ll pc loc st S M f = some (.inl t)) : ∃ x y r, st = .long y :: .long x :: r ∧ t = (pc + 1, loc, .long (f x y) :: r, S, M) := by
  unfold am_ll am_nx at h
  split at h
  · cases h; exact ⟨_, _, _, rfl, rfl⟩
  · cases h
theorem am_load_of {k n : Nat} {ok : Option Value → Bool} (h : am_load pc n loc k ok st S M = some (.inl t)) : ∃ v, am_ld loc k = some v ∧ ok (some v) = true ∧ t = (pc + n, loc, v :: st, S, M) := by
  unfold am_load am_nx at h
  split at h
  · split at h
    · cases h; exact ⟨_, by assumption, by assumption, rfl⟩
    · cases h
  · cases h
theorem am_store_of {k n : Nat} {ok : Option Value → Bool} (h : am_store pc n ps loc k ok st S M = some (.inl t)) : ∃ v r l', st = v :: r ∧ ok (some v) = true ∧ (if am_c2 (some v) then am_put2 (am_kill ps loc) k v else am_put1 (am_kill ps loc) k v) = some l' ∧ t = (pc + n, l', r, S, M) := by
  unfold am_store am_nx at h
  split at h
  · split at h
    · split at h
      · cases h; exact ⟨_, _, _, rfl, by assumption, by assumption, rfl⟩
      · cases h
    · cases h
  · cases h
theorem am_ob_of {a k0 k : Nat} (h : am_ob S a k0 k = true) : a < S.1 ∧ S.2.2.1 a = k0 ∧ k < S.2.2.2.1 a := by
  simp only [am_ob, Bool.and_eq_true, decide_eq_true_eq, beq_iff_eq] at h
  exact ⟨h.1.1, h.1.2, h.2⟩
theorem am_ar_of {a k0 : Nat} {i : Int32} (h : am_ar S a k0 i = true) : a < S.1 ∧ S.2.2.1 a = k0 ∧ vp_in i (S.2.2.2.1 a) := by
  simp only [am_ar, Bool.and_eq_true, decide_eq_true_eq, beq_iff_eq, Bool.not_eq_true', decide_eq_false_iff_not] at h
  refine ⟨h.1.1.1, h.1.1.2, fun q => ?_⟩
  rcases q with q | q
  · exact h.1.2 q
  · omega
theorem am_en_ob {a k0 : Nat} (h : S.2.2.1 a = k0) (h1 : k0 < 100) : am_en ty cA B S M a = .inr (k0, (List.range (S.2.2.2.1 a)).map (am_fv ty B S M a)) := by
  subst h
  unfold am_en
  split <;> first | omega | rfl
theorem am_en_i {a : Nat} (h : S.2.2.1 a = 100) : am_en ty cA B S M a = .inl (cA 0, S.2.2.2.1 a, .inl (M.1 a)) := by unfold am_en; rw [h]; rfl
theorem am_en_l {a : Nat} (h : S.2.2.1 a = 101) : am_en ty cA B S M a = .inl (cA 1, S.2.2.2.1 a, .inr (.inl (M.2 a))) := by unfold am_en; rw [h]; rfl
theorem am_en_z {a : Nat} (h : S.2.2.1 a = 102) : am_en ty cA B S M a = .inl (cA 2, S.2.2.2.1 a, .inl (M.1 a)) := by unfold am_en; rw [h]; rfl
theorem am_en_a {a : Nat} (h : S.2.2.1 a = 103) : am_en ty cA B S M a = .inl (cA 3, S.2.2.2.1 a, .inr (.inr (.inr (.inr (fun k => (S.2.2.2.2 a k).map (fun r => B + r)))))) := by unfold am_en; rw [h]; rfl
theorem am_fv_set {a k : Nat} {S' : am_Sh} {M' : am_Me} {v : Value} {n : Nat} (hv : am_fv ty B S' M' a k = v) (h : ∀ j, j ≠ k → am_fv ty B S' M' a j = am_fv ty B S M a j) : ((List.range n).map (am_fv ty B S M a)).set k v = (List.range n).map (am_fv ty B S' M' a) := by
  apply List.ext_getElem?
  intro i
  by_cases e : i = k
  · subst e
    by_cases hl : i < n
    · rw [List.getElem?_set_self (by simpa using hl)]
      simp [hl, hv]
    · rw [List.getElem?_eq_none (by simp; omega), List.getElem?_eq_none (by simp; omega)]
  · rw [List.getElem?_set_ne (Ne.symm e)]
    by_cases hl : i < n
    · simp [hl, h i e]
    · rw [List.getElem?_eq_none (by simp; omega), List.getElem?_eq_none (by simp; omega)]
theorem am_in_b {w : Cond} {k : Nat} (hts : ∀ w ∈ Tb, w.before args s = true) (h : am_in? Tb k w = true) : w.before args s = true := hts _ (am_in_of h)
theorem am_r_iadd (C : am_Cx p R s m args meth c H0 Tb cl ty D cA B b nL X mi y cc dp) (hok : am_ok Tb cl ty G y cc ret dp pc (.iadd, len, ps) = true) (hl : am_Lh ls nL B b loc) (hw : am_Wd D cl ty cA B S M H0 H locs) (hn : am_ins X mi (.iadd) len ps pc loc st S M = some (.inl t)) (hc1 : cells + (t.2.2.2.1.1 - S.1) ≤ R.cells) (hc2 : slots + (t.2.2.2.1.2.1 - S.2.1) ≤ R.slots)
    (kk : am_K p l e R s m args below meth c H0 cells slots Q D cl ty cA B b nL S t) : W p l e R s m args below meth c H locs cells slots Q (F0 m pc ls (st.map (am_va B b))) := by
  obtain ⟨hx, hb, hml, hown, hts, hK, hBH, hnm, hX, hokC, hR, hAC⟩ := C
  have hdg := am_ok_dec hok rfl
  obtain ⟨x, y, r, rfl, rfl⟩ := am_ii_of hn
  exact lv_iadd hx hb hdg (kk.go hl hw rfl rfl)
theorem am_r_isub (C : am_Cx p R s m args meth c H0 Tb cl ty D cA B b nL X mi y cc dp) (hok : am_ok Tb cl ty G y cc ret dp pc (.isub, len, ps) = true) (hl : am_Lh ls nL B b loc) (hw : am_Wd D cl ty cA B S M H0 H locs) (hn : am_ins X mi (.isub) len ps pc loc st S M = some (.inl t)) (hc1 : cells + (t.2.2.2.1.1 - S.1) ≤ R.cells) (hc2 : slots + (t.2.2.2.1.2.1 - S.2.1) ≤ R.slots)
    (kk : am_K p l e R s m args below meth c H0 cells slots Q D cl ty cA B b nL S t) : W p l e R s m args below meth c H locs cells slots Q (F0 m pc ls (st.map (am_va B b))) := by
  obtain ⟨hx, hb, hml, hown, hts, hK, hBH, hnm, hX, hokC, hR, hAC⟩ := C
  have hdg := am_ok_dec hok rfl
  obtain ⟨x, y, r, rfl, rfl⟩ := am_ii_of hn
  exact lv_isub hx hb hdg (kk.go hl hw rfl rfl)
theorem am_r_imul (C : am_Cx p R s m args meth c H0 Tb cl ty D cA B b nL X mi y cc dp) (hok : am_ok Tb cl ty G y cc ret dp pc (.imul, len, ps) = true) (hl : am_Lh ls nL B b loc) (hw : am_Wd D cl ty cA B S M H0 H locs) (hn : am_ins X mi (.imul) len ps pc loc st S M = some (.inl t)) (hc1 : cells + (t.2.2.2.1.1 - S.1) ≤ R.cells) (hc2 : slots + (t.2.2.2.1.2.1 - S.2.1) ≤ R.slots)
    (kk : am_K p l e R s m args below meth c H0 cells slots Q D cl ty cA B b nL S t) : W p l e R s m args below meth c H locs cells slots Q (F0 m pc ls (st.map (am_va B b))) := by
  obtain ⟨hx, hb, hml, hown, hts, hK, hBH, hnm, hX, hokC, hR, hAC⟩ := C
  have hdg := am_ok_dec hok rfl
  obtain ⟨x, y, r, rfl, rfl⟩ := am_ii_of hn
  exact lv_imul hx hb hdg (kk.go hl hw rfl rfl)
theorem am_r_iand (C : am_Cx p R s m args meth c H0 Tb cl ty D cA B b nL X mi y cc dp) (hok : am_ok Tb cl ty G y cc ret dp pc (.iand, len, ps) = true) (hl : am_Lh ls nL B b loc) (hw : am_Wd D cl ty cA B S M H0 H locs) (hn : am_ins X mi (.iand) len ps pc loc st S M = some (.inl t)) (hc1 : cells + (t.2.2.2.1.1 - S.1) ≤ R.cells) (hc2 : slots + (t.2.2.2.1.2.1 - S.2.1) ≤ R.slots)
    (kk : am_K p l e R s m args below meth c H0 cells slots Q D cl ty cA B b nL S t) : W p l e R s m args below meth c H locs cells slots Q (F0 m pc ls (st.map (am_va B b))) := by
  obtain ⟨hx, hb, hml, hown, hts, hK, hBH, hnm, hX, hokC, hR, hAC⟩ := C
  have hdg := am_ok_dec hok rfl
  obtain ⟨x, y, r, rfl, rfl⟩ := am_ii_of hn
  exact lv_iand hx hb hdg (kk.go hl hw rfl rfl)
theorem am_r_ior (C : am_Cx p R s m args meth c H0 Tb cl ty D cA B b nL X mi y cc dp) (hok : am_ok Tb cl ty G y cc ret dp pc (.ior, len, ps) = true) (hl : am_Lh ls nL B b loc) (hw : am_Wd D cl ty cA B S M H0 H locs) (hn : am_ins X mi (.ior) len ps pc loc st S M = some (.inl t)) (hc1 : cells + (t.2.2.2.1.1 - S.1) ≤ R.cells) (hc2 : slots + (t.2.2.2.1.2.1 - S.2.1) ≤ R.slots)
    (kk : am_K p l e R s m args below meth c H0 cells slots Q D cl ty cA B b nL S t) : W p l e R s m args below meth c H locs cells slots Q (F0 m pc ls (st.map (am_va B b))) := by
  obtain ⟨hx, hb, hml, hown, hts, hK, hBH, hnm, hX, hokC, hR, hAC⟩ := C
  have hdg := am_ok_dec hok rfl
  obtain ⟨x, y, r, rfl, rfl⟩ := am_ii_of hn
  exact lv_ior hx hb hdg (kk.go hl hw rfl rfl)
theorem am_r_ishl (C : am_Cx p R s m args meth c H0 Tb cl ty D cA B b nL X mi y cc dp) (hok : am_ok Tb cl ty G y cc ret dp pc (.ishl, len, ps) = true) (hl : am_Lh ls nL B b loc) (hw : am_Wd D cl ty cA B S M H0 H locs) (hn : am_ins X mi (.ishl) len ps pc loc st S M = some (.inl t)) (hc1 : cells + (t.2.2.2.1.1 - S.1) ≤ R.cells) (hc2 : slots + (t.2.2.2.1.2.1 - S.2.1) ≤ R.slots)
    (kk : am_K p l e R s m args below meth c H0 cells slots Q D cl ty cA B b nL S t) : W p l e R s m args below meth c H locs cells slots Q (F0 m pc ls (st.map (am_va B b))) := by
  obtain ⟨hx, hb, hml, hown, hts, hK, hBH, hnm, hX, hokC, hR, hAC⟩ := C
  have hdg := am_ok_dec hok rfl
  obtain ⟨x, y, r, rfl, rfl⟩ := am_ii_of hn
  exact lv_ishl hx hb hdg (kk.go hl hw rfl rfl)
theorem am_r_ishr (C : am_Cx p R s m args meth c H0 Tb cl ty D cA B b nL X mi y cc dp) (hok : am_ok Tb cl ty G y cc ret dp pc (.ishr, len, ps) = true) (hl : am_Lh ls nL B b loc) (hw : am_Wd D cl ty cA B S M H0 H locs) (hn : am_ins X mi (.ishr) len ps pc loc st S M = some (.inl t)) (hc1 : cells + (t.2.2.2.1.1 - S.1) ≤ R.cells) (hc2 : slots + (t.2.2.2.1.2.1 - S.2.1) ≤ R.slots)
    (kk : am_K p l e R s m args below meth c H0 cells slots Q D cl ty cA B b nL S t) : W p l e R s m args below meth c H locs cells slots Q (F0 m pc ls (st.map (am_va B b))) := by
  obtain ⟨hx, hb, hml, hown, hts, hK, hBH, hnm, hX, hokC, hR, hAC⟩ := C
  have hdg := am_ok_dec hok rfl
  obtain ⟨x, y, r, rfl, rfl⟩ := am_ii_of hn
  exact lv_ishr hx hb hdg (kk.go hl hw rfl rfl)
theorem am_r_ladd (C : am_Cx p R s m args meth c H0 Tb cl ty D cA B b nL X mi y cc dp) (hok : am_ok Tb cl ty G y cc ret dp pc (.ladd, len, ps) = true) (hl : am_Lh ls nL B b loc) (hw : am_Wd D cl ty cA B S M H0 H locs) (hn : am_ins X mi (.ladd) len ps pc loc st S M = some (.inl t)) (hc1 : cells + (t.2.2.2.1.1 - S.1) ≤ R.cells) (hc2 : slots + (t.2.2.2.1.2.1 - S.2.1) ≤ R.slots)
    (kk : am_K p l e R s m args below meth c H0 cells slots Q D cl ty cA B b nL S t) : W p l e R s m args below meth c H locs cells slots Q (F0 m pc ls (st.map (am_va B b))) := by
  obtain ⟨hx, hb, hml, hown, hts, hK, hBH, hnm, hX, hokC, hR, hAC⟩ := C
  have hdg := am_ok_dec hok rfl
  obtain ⟨x, y, r, rfl, rfl⟩ := am_ll_of hn
  exact lv_ladd hx hb hdg (kk.go hl hw rfl rfl)
theorem am_r_lsub (C : am_Cx p R s m args meth c H0 Tb cl ty D cA B b nL X mi y cc dp) (hok : am_ok Tb cl ty G y cc ret dp pc (.lsub, len, ps) = true) (hl : am_Lh ls nL B b loc) (hw : am_Wd D cl ty cA B S M H0 H locs) (hn : am_ins X mi (.lsub) len ps pc loc st S M = some (.inl t)) (hc1 : cells + (t.2.2.2.1.1 - S.1) ≤ R.cells) (hc2 : slots + (t.2.2.2.1.2.1 - S.2.1) ≤ R.slots)
    (kk : am_K p l e R s m args below meth c H0 cells slots Q D cl ty cA B b nL S t) : W p l e R s m args below meth c H locs cells slots Q (F0 m pc ls (st.map (am_va B b))) := by
  obtain ⟨hx, hb, hml, hown, hts, hK, hBH, hnm, hX, hokC, hR, hAC⟩ := C
  have hdg := am_ok_dec hok rfl
  obtain ⟨x, y, r, rfl, rfl⟩ := am_ll_of hn
  exact lv_lsub hx hb hdg (kk.go hl hw rfl rfl)
theorem am_r_lmul (C : am_Cx p R s m args meth c H0 Tb cl ty D cA B b nL X mi y cc dp) (hok : am_ok Tb cl ty G y cc ret dp pc (.lmul, len, ps) = true) (hl : am_Lh ls nL B b loc) (hw : am_Wd D cl ty cA B S M H0 H locs) (hn : am_ins X mi (.lmul) len ps pc loc st S M = some (.inl t)) (hc1 : cells + (t.2.2.2.1.1 - S.1) ≤ R.cells) (hc2 : slots + (t.2.2.2.1.2.1 - S.2.1) ≤ R.slots)
    (kk : am_K p l e R s m args below meth c H0 cells slots Q D cl ty cA B b nL S t) : W p l e R s m args below meth c H locs cells slots Q (F0 m pc ls (st.map (am_va B b))) := by
  obtain ⟨hx, hb, hml, hown, hts, hK, hBH, hnm, hX, hokC, hR, hAC⟩ := C
  have hdg := am_ok_dec hok rfl
  obtain ⟨x, y, r, rfl, rfl⟩ := am_ll_of hn
  exact lv_lmul hx hb hdg (kk.go hl hw rfl rfl)
theorem am_r_iconst {n : Int} (C : am_Cx p R s m args meth c H0 Tb cl ty D cA B b nL X mi y cc dp) (hok : am_ok Tb cl ty G y cc ret dp pc (.iconst n, len, ps) = true) (hl : am_Lh ls nL B b loc) (hw : am_Wd D cl ty cA B S M H0 H locs) (hn : am_ins X mi (.iconst n) len ps pc loc st S M = some (.inl t)) (hc1 : cells + (t.2.2.2.1.1 - S.1) ≤ R.cells) (hc2 : slots + (t.2.2.2.1.2.1 - S.2.1) ≤ R.slots)
    (kk : am_K p l e R s m args below meth c H0 cells slots Q D cl ty cA B b nL S t) : W p l e R s m args below meth c H locs cells slots Q (F0 m pc ls (st.map (am_va B b))) := by
  obtain ⟨hx, hb, hml, hown, hts, hK, hBH, hnm, hX, hokC, hR, hAC⟩ := C
  have hdg := am_ok_dec hok rfl
  cases hn
  exact lv_iconst hx hb hdg rfl (kk.go hl hw rfl rfl)
theorem am_r_bipush {n : Int} (C : am_Cx p R s m args meth c H0 Tb cl ty D cA B b nL X mi y cc dp) (hok : am_ok Tb cl ty G y cc ret dp pc (.bipush n, len, ps) = true) (hl : am_Lh ls nL B b loc) (hw : am_Wd D cl ty cA B S M H0 H locs) (hn : am_ins X mi (.bipush n) len ps pc loc st S M = some (.inl t)) (hc1 : cells + (t.2.2.2.1.1 - S.1) ≤ R.cells) (hc2 : slots + (t.2.2.2.1.2.1 - S.2.1) ≤ R.slots)
    (kk : am_K p l e R s m args below meth c H0 cells slots Q D cl ty cA B b nL S t) : W p l e R s m args below meth c H locs cells slots Q (F0 m pc ls (st.map (am_va B b))) := by
  obtain ⟨hx, hb, hml, hown, hts, hK, hBH, hnm, hX, hokC, hR, hAC⟩ := C
  have hdg := am_ok_dec hok rfl
  cases hn
  exact lv_bipush hx hb hdg rfl (kk.go hl hw rfl rfl)
theorem am_r_sipush {n : Int} (C : am_Cx p R s m args meth c H0 Tb cl ty D cA B b nL X mi y cc dp) (hok : am_ok Tb cl ty G y cc ret dp pc (.sipush n, len, ps) = true) (hl : am_Lh ls nL B b loc) (hw : am_Wd D cl ty cA B S M H0 H locs) (hn : am_ins X mi (.sipush n) len ps pc loc st S M = some (.inl t)) (hc1 : cells + (t.2.2.2.1.1 - S.1) ≤ R.cells) (hc2 : slots + (t.2.2.2.1.2.1 - S.2.1) ≤ R.slots)
    (kk : am_K p l e R s m args below meth c H0 cells slots Q D cl ty cA B b nL S t) : W p l e R s m args below meth c H locs cells slots Q (F0 m pc ls (st.map (am_va B b))) := by
  obtain ⟨hx, hb, hml, hown, hts, hK, hBH, hnm, hX, hokC, hR, hAC⟩ := C
  have hdg := am_ok_dec hok rfl
  cases hn
  exact lv_sipush hx hb hdg rfl (kk.go hl hw rfl rfl)
theorem am_r_lconst {n : Fin 2} (C : am_Cx p R s m args meth c H0 Tb cl ty D cA B b nL X mi y cc dp) (hok : am_ok Tb cl ty G y cc ret dp pc (.lconst n, len, ps) = true) (hl : am_Lh ls nL B b loc) (hw : am_Wd D cl ty cA B S M H0 H locs) (hn : am_ins X mi (.lconst n) len ps pc loc st S M = some (.inl t)) (hc1 : cells + (t.2.2.2.1.1 - S.1) ≤ R.cells) (hc2 : slots + (t.2.2.2.1.2.1 - S.2.1) ≤ R.slots)
    (kk : am_K p l e R s m args below meth c H0 cells slots Q D cl ty cA B b nL S t) : W p l e R s m args below meth c H locs cells slots Q (F0 m pc ls (st.map (am_va B b))) := by
  obtain ⟨hx, hb, hml, hown, hts, hK, hBH, hnm, hX, hokC, hR, hAC⟩ := C
  have hdg := am_ok_dec hok rfl
  cases hn
  exact lv_lconst hx hb hdg rfl (kk.go hl hw rfl rfl)
theorem am_r_ldc {n : Nat} (C : am_Cx p R s m args meth c H0 Tb cl ty D cA B b nL X mi y cc dp) (hok : am_ok Tb cl ty G y cc ret dp pc (.ldc n, len, ps) = true) (hl : am_Lh ls nL B b loc) (hw : am_Wd D cl ty cA B S M H0 H locs) (hn : am_ins X mi (.ldc n) len ps pc loc st S M = some (.inl t)) (hc1 : cells + (t.2.2.2.1.1 - S.1) ≤ R.cells) (hc2 : slots + (t.2.2.2.1.2.1 - S.2.1) ≤ R.slots)
    (kk : am_K p l e R s m args below meth c H0 cells slots Q D cl ty cA B b nL S t) : W p l e R s m args below meth c H locs cells slots Q (F0 m pc ls (st.map (am_va B b))) := by
  obtain ⟨hx, hb, hml, hown, hts, hK, hBH, hnm, hX, hokC, hR, hAC⟩ := C
  have hdg := am_ok_dec hok rfl
  have hL := am_ok_l hok
  cases hn
  exact lv_ldc hx hb hown (am_in_b hts hL) hdg (kk.go hl hw rfl rfl)
theorem am_r_ldc_w {n : Nat} (C : am_Cx p R s m args meth c H0 Tb cl ty D cA B b nL X mi y cc dp) (hok : am_ok Tb cl ty G y cc ret dp pc (.ldc_w n, len, ps) = true) (hl : am_Lh ls nL B b loc) (hw : am_Wd D cl ty cA B S M H0 H locs) (hn : am_ins X mi (.ldc_w n) len ps pc loc st S M = some (.inl t)) (hc1 : cells + (t.2.2.2.1.1 - S.1) ≤ R.cells) (hc2 : slots + (t.2.2.2.1.2.1 - S.2.1) ≤ R.slots)
    (kk : am_K p l e R s m args below meth c H0 cells slots Q D cl ty cA B b nL S t) : W p l e R s m args below meth c H locs cells slots Q (F0 m pc ls (st.map (am_va B b))) := by
  obtain ⟨hx, hb, hml, hown, hts, hK, hBH, hnm, hX, hokC, hR, hAC⟩ := C
  have hdg := am_ok_dec hok rfl
  have hL := am_ok_l hok
  cases hn
  exact lv_ldcw hx hb hown (am_in_b hts hL) hdg (kk.go hl hw rfl rfl)
theorem am_r_ldc2_w {n : Nat} (C : am_Cx p R s m args meth c H0 Tb cl ty D cA B b nL X mi y cc dp) (hok : am_ok Tb cl ty G y cc ret dp pc (.ldc2_w n, len, ps) = true) (hl : am_Lh ls nL B b loc) (hw : am_Wd D cl ty cA B S M H0 H locs) (hn : am_ins X mi (.ldc2_w n) len ps pc loc st S M = some (.inl t)) (hc1 : cells + (t.2.2.2.1.1 - S.1) ≤ R.cells) (hc2 : slots + (t.2.2.2.1.2.1 - S.2.1) ≤ R.slots)
    (kk : am_K p l e R s m args below meth c H0 cells slots Q D cl ty cA B b nL S t) : W p l e R s m args below meth c H locs cells slots Q (F0 m pc ls (st.map (am_va B b))) := by
  obtain ⟨hx, hb, hml, hown, hts, hK, hBH, hnm, hX, hokC, hR, hAC⟩ := C
  have hdg := am_ok_dec hok rfl
  have hL := am_ok_l hok
  cases hn
  exact lv_ldc2 hx hb hown (am_in_b hts hL) hdg (kk.go hl hw rfl rfl)
theorem am_r_iload_n {k : Fin 4} (C : am_Cx p R s m args meth c H0 Tb cl ty D cA B b nL X mi y cc dp) (hok : am_ok Tb cl ty G y cc ret dp pc (.iload_n k, len, ps) = true) (hl : am_Lh ls nL B b loc) (hw : am_Wd D cl ty cA B S M H0 H locs) (hn : am_ins X mi (.iload_n k) len ps pc loc st S M = some (.inl t)) (hc1 : cells + (t.2.2.2.1.1 - S.1) ≤ R.cells) (hc2 : slots + (t.2.2.2.1.2.1 - S.2.1) ≤ R.slots)
    (kk : am_K p l e R s m args below meth c H0 cells slots Q D cl ty cA B b nL S t) : W p l e R s m args below meth c H locs cells slots Q (F0 m pc ls (st.map (am_va B b))) := by
  obtain ⟨hx, hb, hml, hown, hts, hK, hBH, hnm, hX, hokC, hR, hAC⟩ := C
  have hdg := am_ok_dec hok rfl
  obtain ⟨v, h1, h2, rfl⟩ := am_load_of hn
  cases v <;> first | (cases h2; done) | skip
  exact lv_iload_n hx hb hdg rfl (hl.at h1) (kk.go hl hw rfl rfl)
theorem am_r_iload {k : Nat} (C : am_Cx p R s m args meth c H0 Tb cl ty D cA B b nL X mi y cc dp) (hok : am_ok Tb cl ty G y cc ret dp pc (.iload k, len, ps) = true) (hl : am_Lh ls nL B b loc) (hw : am_Wd D cl ty cA B S M H0 H locs) (hn : am_ins X mi (.iload k) len ps pc loc st S M = some (.inl t)) (hc1 : cells + (t.2.2.2.1.1 - S.1) ≤ R.cells) (hc2 : slots + (t.2.2.2.1.2.1 - S.2.1) ≤ R.slots)
    (kk : am_K p l e R s m args below meth c H0 cells slots Q D cl ty cA B b nL S t) : W p l e R s m args below meth c H locs cells slots Q (F0 m pc ls (st.map (am_va B b))) := by
  obtain ⟨hx, hb, hml, hown, hts, hK, hBH, hnm, hX, hokC, hR, hAC⟩ := C
  have hdg := am_ok_dec hok rfl
  obtain ⟨v, h1, h2, rfl⟩ := am_load_of hn
  cases v <;> first | (cases h2; done) | skip
  exact lv_iload hx hb hdg (hl.at h1) (kk.go hl hw rfl rfl)
theorem am_r_lload_n {k : Fin 4} (C : am_Cx p R s m args meth c H0 Tb cl ty D cA B b nL X mi y cc dp) (hok : am_ok Tb cl ty G y cc ret dp pc (.lload_n k, len, ps) = true) (hl : am_Lh ls nL B b loc) (hw : am_Wd D cl ty cA B S M H0 H locs) (hn : am_ins X mi (.lload_n k) len ps pc loc st S M = some (.inl t)) (hc1 : cells + (t.2.2.2.1.1 - S.1) ≤ R.cells) (hc2 : slots + (t.2.2.2.1.2.1 - S.2.1) ≤ R.slots)
    (kk : am_K p l e R s m args below meth c H0 cells slots Q D cl ty cA B b nL S t) : W p l e R s m args below meth c H locs cells slots Q (F0 m pc ls (st.map (am_va B b))) := by
  obtain ⟨hx, hb, hml, hown, hts, hK, hBH, hnm, hX, hokC, hR, hAC⟩ := C
  have hdg := am_ok_dec hok rfl
  obtain ⟨v, h1, h2, rfl⟩ := am_load_of hn
  cases v <;> first | (cases h2; done) | skip
  exact lv_lload_n hx hb hdg rfl (hl.at h1) (kk.go hl hw rfl rfl)
theorem am_r_lload {k : Nat} (C : am_Cx p R s m args meth c H0 Tb cl ty D cA B b nL X mi y cc dp) (hok : am_ok Tb cl ty G y cc ret dp pc (.lload k, len, ps) = true) (hl : am_Lh ls nL B b loc) (hw : am_Wd D cl ty cA B S M H0 H locs) (hn : am_ins X mi (.lload k) len ps pc loc st S M = some (.inl t)) (hc1 : cells + (t.2.2.2.1.1 - S.1) ≤ R.cells) (hc2 : slots + (t.2.2.2.1.2.1 - S.2.1) ≤ R.slots)
    (kk : am_K p l e R s m args below meth c H0 cells slots Q D cl ty cA B b nL S t) : W p l e R s m args below meth c H locs cells slots Q (F0 m pc ls (st.map (am_va B b))) := by
  obtain ⟨hx, hb, hml, hown, hts, hK, hBH, hnm, hX, hokC, hR, hAC⟩ := C
  have hdg := am_ok_dec hok rfl
  obtain ⟨v, h1, h2, rfl⟩ := am_load_of hn
  cases v <;> first | (cases h2; done) | skip
  exact lv_lload hx hb hdg (hl.at h1) (kk.go hl hw rfl rfl)
theorem am_r_aload_n {k : Fin 4} (C : am_Cx p R s m args meth c H0 Tb cl ty D cA B b nL X mi y cc dp) (hok : am_ok Tb cl ty G y cc ret dp pc (.aload_n k, len, ps) = true) (hl : am_Lh ls nL B b loc) (hw : am_Wd D cl ty cA B S M H0 H locs) (hn : am_ins X mi (.aload_n k) len ps pc loc st S M = some (.inl t)) (hc1 : cells + (t.2.2.2.1.1 - S.1) ≤ R.cells) (hc2 : slots + (t.2.2.2.1.2.1 - S.2.1) ≤ R.slots)
    (kk : am_K p l e R s m args below meth c H0 cells slots Q D cl ty cA B b nL S t) : W p l e R s m args below meth c H locs cells slots Q (F0 m pc ls (st.map (am_va B b))) := by
  obtain ⟨hx, hb, hml, hown, hts, hK, hBH, hnm, hX, hokC, hR, hAC⟩ := C
  have hdg := am_ok_dec hok rfl
  obtain ⟨v, h1, h2, rfl⟩ := am_load_of hn
  cases v <;> first | (cases h2; done) | exact lv_aload_n hx hb hdg rfl (hl.at h1) (kk.go hl hw rfl rfl)
theorem am_r_aload {k : Nat} (C : am_Cx p R s m args meth c H0 Tb cl ty D cA B b nL X mi y cc dp) (hok : am_ok Tb cl ty G y cc ret dp pc (.aload k, len, ps) = true) (hl : am_Lh ls nL B b loc) (hw : am_Wd D cl ty cA B S M H0 H locs) (hn : am_ins X mi (.aload k) len ps pc loc st S M = some (.inl t)) (hc1 : cells + (t.2.2.2.1.1 - S.1) ≤ R.cells) (hc2 : slots + (t.2.2.2.1.2.1 - S.2.1) ≤ R.slots)
    (kk : am_K p l e R s m args below meth c H0 cells slots Q D cl ty cA B b nL S t) : W p l e R s m args below meth c H locs cells slots Q (F0 m pc ls (st.map (am_va B b))) := by
  obtain ⟨hx, hb, hml, hown, hts, hK, hBH, hnm, hX, hokC, hR, hAC⟩ := C
  have hdg := am_ok_dec hok rfl
  obtain ⟨v, h1, h2, rfl⟩ := am_load_of hn
  cases v <;> first | (cases h2; done) | exact lv_aload hx hb hdg (hl.at h1) (kk.go hl hw rfl rfl)
theorem am_r_istore_n {k : Fin 4} (C : am_Cx p R s m args meth c H0 Tb cl ty D cA B b nL X mi y cc dp) (hok : am_ok Tb cl ty G y cc ret dp pc (.istore_n k, len, ps) = true) (hl : am_Lh ls nL B b loc) (hw : am_Wd D cl ty cA B S M H0 H locs) (hn : am_ins X mi (.istore_n k) len ps pc loc st S M = some (.inl t)) (hc1 : cells + (t.2.2.2.1.1 - S.1) ≤ R.cells) (hc2 : slots + (t.2.2.2.1.2.1 - S.2.1) ≤ R.slots)
    (kk : am_K p l e R s m args below meth c H0 cells slots Q D cl ty cA B b nL S t) : W p l e R s m args below meth c H locs cells slots Q (F0 m pc ls (st.map (am_va B b))) := by
  obtain ⟨hx, hb, hml, hown, hts, hK, hBH, hnm, hX, hokC, hR, hAC⟩ := C
  have hdg := am_ok_dec hok rfl
  obtain ⟨v, r, l', rfl, h2, hp, rfl⟩ := am_store_of hn
  cases v <;> first | (cases h2; done) | skip
  obtain ⟨hi, lv, q1, -, q2⟩ := (hl.kill ps).put1 hp
  exact lv_istore_n hx hb hdg rfl q1 hi rfl (fun ls' h => kk.go (q2 ls' h) hw rfl rfl)
theorem am_r_istore {k : Nat} (C : am_Cx p R s m args meth c H0 Tb cl ty D cA B b nL X mi y cc dp) (hok : am_ok Tb cl ty G y cc ret dp pc (.istore k, len, ps) = true) (hl : am_Lh ls nL B b loc) (hw : am_Wd D cl ty cA B S M H0 H locs) (hn : am_ins X mi (.istore k) len ps pc loc st S M = some (.inl t)) (hc1 : cells + (t.2.2.2.1.1 - S.1) ≤ R.cells) (hc2 : slots + (t.2.2.2.1.2.1 - S.2.1) ≤ R.slots)
    (kk : am_K p l e R s m args below meth c H0 cells slots Q D cl ty cA B b nL S t) : W p l e R s m args below meth c H locs cells slots Q (F0 m pc ls (st.map (am_va B b))) := by
  obtain ⟨hx, hb, hml, hown, hts, hK, hBH, hnm, hX, hokC, hR, hAC⟩ := C
  have hdg := am_ok_dec hok rfl
  obtain ⟨v, r, l', rfl, h2, hp, rfl⟩ := am_store_of hn
  cases v <;> first | (cases h2; done) | skip
  obtain ⟨hi, lv, q1, -, q2⟩ := (hl.kill ps).put1 hp
  exact lv_istore hx hb hdg q1 hi rfl (fun ls' h => kk.go (q2 ls' h) hw rfl rfl)
theorem am_r_lstore_n {k : Fin 4} (C : am_Cx p R s m args meth c H0 Tb cl ty D cA B b nL X mi y cc dp) (hok : am_ok Tb cl ty G y cc ret dp pc (.lstore_n k, len, ps) = true) (hl : am_Lh ls nL B b loc) (hw : am_Wd D cl ty cA B S M H0 H locs) (hn : am_ins X mi (.lstore_n k) len ps pc loc st S M = some (.inl t)) (hc1 : cells + (t.2.2.2.1.1 - S.1) ≤ R.cells) (hc2 : slots + (t.2.2.2.1.2.1 - S.2.1) ≤ R.slots)
    (kk : am_K p l e R s m args below meth c H0 cells slots Q D cl ty cA B b nL S t) : W p l e R s m args below meth c H locs cells slots Q (F0 m pc ls (st.map (am_va B b))) := by
  obtain ⟨hx, hb, hml, hown, hts, hK, hBH, hnm, hX, hokC, hR, hAC⟩ := C
  have hdg := am_ok_dec hok rfl
  obtain ⟨v, r, l', rfl, h2, hp, rfl⟩ := am_store_of hn
  cases v <;> first | (cases h2; done) | skip
  obtain ⟨hi, lv, q1, q2⟩ := (hl.kill ps).put2 hp
  exact lv_lstore_n hx hb hdg rfl q1 hi rfl (fun ls' h => kk.go (q2 ls' h) hw rfl rfl)
theorem am_r_lstore {k : Nat} (C : am_Cx p R s m args meth c H0 Tb cl ty D cA B b nL X mi y cc dp) (hok : am_ok Tb cl ty G y cc ret dp pc (.lstore k, len, ps) = true) (hl : am_Lh ls nL B b loc) (hw : am_Wd D cl ty cA B S M H0 H locs) (hn : am_ins X mi (.lstore k) len ps pc loc st S M = some (.inl t)) (hc1 : cells + (t.2.2.2.1.1 - S.1) ≤ R.cells) (hc2 : slots + (t.2.2.2.1.2.1 - S.2.1) ≤ R.slots)
    (kk : am_K p l e R s m args below meth c H0 cells slots Q D cl ty cA B b nL S t) : W p l e R s m args below meth c H locs cells slots Q (F0 m pc ls (st.map (am_va B b))) := by
  obtain ⟨hx, hb, hml, hown, hts, hK, hBH, hnm, hX, hokC, hR, hAC⟩ := C
  have hdg := am_ok_dec hok rfl
  obtain ⟨v, r, l', rfl, h2, hp, rfl⟩ := am_store_of hn
  cases v <;> first | (cases h2; done) | skip
  obtain ⟨hi, lv, q1, q2⟩ := (hl.kill ps).put2 hp
  exact lv_lstore hx hb hdg q1 hi rfl (fun ls' h => kk.go (q2 ls' h) hw rfl rfl)
theorem am_r_astore_n {k : Fin 4} (C : am_Cx p R s m args meth c H0 Tb cl ty D cA B b nL X mi y cc dp) (hok : am_ok Tb cl ty G y cc ret dp pc (.astore_n k, len, ps) = true) (hl : am_Lh ls nL B b loc) (hw : am_Wd D cl ty cA B S M H0 H locs) (hn : am_ins X mi (.astore_n k) len ps pc loc st S M = some (.inl t)) (hc1 : cells + (t.2.2.2.1.1 - S.1) ≤ R.cells) (hc2 : slots + (t.2.2.2.1.2.1 - S.2.1) ≤ R.slots)
    (kk : am_K p l e R s m args below meth c H0 cells slots Q D cl ty cA B b nL S t) : W p l e R s m args below meth c H locs cells slots Q (F0 m pc ls (st.map (am_va B b))) := by
  obtain ⟨hx, hb, hml, hown, hts, hK, hBH, hnm, hX, hokC, hR, hAC⟩ := C
  have hdg := am_ok_dec hok rfl
  obtain ⟨v, r, l', rfl, h2, hp, rfl⟩ := am_store_of hn
  cases v <;> first
    | (cases h2; done)
    | (obtain ⟨hi, lv, q1, -, q2⟩ := (hl.kill ps).put1 hp
       exact lv_astore_n hx hb hdg rfl q1 hi rfl (fun ls' h => kk.go (q2 ls' h) hw rfl rfl))
theorem am_r_astore {k : Nat} (C : am_Cx p R s m args meth c H0 Tb cl ty D cA B b nL X mi y cc dp) (hok : am_ok Tb cl ty G y cc ret dp pc (.astore k, len, ps) = true) (hl : am_Lh ls nL B b loc) (hw : am_Wd D cl ty cA B S M H0 H locs) (hn : am_ins X mi (.astore k) len ps pc loc st S M = some (.inl t)) (hc1 : cells + (t.2.2.2.1.1 - S.1) ≤ R.cells) (hc2 : slots + (t.2.2.2.1.2.1 - S.2.1) ≤ R.slots)
    (kk : am_K p l e R s m args below meth c H0 cells slots Q D cl ty cA B b nL S t) : W p l e R s m args below meth c H locs cells slots Q (F0 m pc ls (st.map (am_va B b))) := by
  obtain ⟨hx, hb, hml, hown, hts, hK, hBH, hnm, hX, hokC, hR, hAC⟩ := C
  have hdg := am_ok_dec hok rfl
  obtain ⟨v, r, l', rfl, h2, hp, rfl⟩ := am_store_of hn
  cases v <;> first
    | (cases h2; done)
    | (obtain ⟨hi, lv, q1, -, q2⟩ := (hl.kill ps).put1 hp
       exact lv_astore hx hb hdg q1 hi rfl (fun ls' h => kk.go (q2 ls' h) hw rfl rfl))
theorem am_r_iinc {k : Nat} {n : Int} (C : am_Cx p R s m args meth c H0 Tb cl ty D cA B b nL X mi y cc dp) (hok : am_ok Tb cl ty G y cc ret dp pc (.iinc k n, len, ps) = true) (hl : am_Lh ls nL B b loc) (hw : am_Wd D cl ty cA B S M H0 H locs) (hn : am_ins X mi (.iinc k n) len ps pc loc st S M = some (.inl t)) (hc1 : cells + (t.2.2.2.1.1 - S.1) ≤ R.cells) (hc2 : slots + (t.2.2.2.1.2.1 - S.2.1) ≤ R.slots)
    (kk : am_K p l e R s m args below meth c H0 cells slots Q D cl ty cA B b nL S t) : W p l e R s m args below meth c H locs cells slots Q (F0 m pc ls (st.map (am_va B b))) := by
  obtain ⟨hx, hb, hml, hown, hts, hK, hBH, hnm, hX, hokC, hR, hAC⟩ := C
  have hdg := am_ok_dec hok rfl
  simp only [am_ins, am_nx] at hn
  split at hn
  · rename_i x hx1
    split at hn
    · rename_i l' hp
      cases hn
      obtain ⟨hi, lv, q1, q3, q2⟩ := (hl.kill ps).put1 hp
      have hm : (k, am_va B b (.int x)) ∈ lv := by
        unfold am_ld at hx1
        split at hx1
        · rename_i w hw
          cases hx1
          exact q3 k _ hw
        · cases hx1
      obtain ⟨j, hj⟩ := List.getElem?_of_mem hm
      exact lv_iinc hx hb hdg q1 hj rfl hi rfl (fun ls' h => kk.go (q2 ls' h) hw rfl rfl)
    · cases hn
  · cases hn
theorem am_r_idiv (C : am_Cx p R s m args meth c H0 Tb cl ty D cA B b nL X mi y cc dp) (hok : am_ok Tb cl ty G y cc ret dp pc (.idiv, len, ps) = true) (hl : am_Lh ls nL B b loc) (hw : am_Wd D cl ty cA B S M H0 H locs) (hn : am_ins X mi (.idiv) len ps pc loc st S M = some (.inl t)) (hc1 : cells + (t.2.2.2.1.1 - S.1) ≤ R.cells) (hc2 : slots + (t.2.2.2.1.2.1 - S.2.1) ≤ R.slots)
    (kk : am_K p l e R s m args below meth c H0 cells slots Q D cl ty cA B b nL S t) : W p l e R s m args below meth c H locs cells slots Q (F0 m pc ls (st.map (am_va B b))) := by
  obtain ⟨hx, hb, hml, hown, hts, hK, hBH, hnm, hX, hokC, hR, hAC⟩ := C
  have hdg := am_ok_dec hok rfl
  simp only [am_ins, am_nx] at hn
  split at hn
  · split at hn
    · cases hn
    · rename_i hne
      cases hn
      exact lv_idiv hx hb hdg hne (kk.go hl hw rfl rfl)
  · cases hn
theorem am_r_irem (C : am_Cx p R s m args meth c H0 Tb cl ty D cA B b nL X mi y cc dp) (hok : am_ok Tb cl ty G y cc ret dp pc (.irem, len, ps) = true) (hl : am_Lh ls nL B b loc) (hw : am_Wd D cl ty cA B S M H0 H locs) (hn : am_ins X mi (.irem) len ps pc loc st S M = some (.inl t)) (hc1 : cells + (t.2.2.2.1.1 - S.1) ≤ R.cells) (hc2 : slots + (t.2.2.2.1.2.1 - S.2.1) ≤ R.slots)
    (kk : am_K p l e R s m args below meth c H0 cells slots Q D cl ty cA B b nL S t) : W p l e R s m args below meth c H locs cells slots Q (F0 m pc ls (st.map (am_va B b))) := by
  obtain ⟨hx, hb, hml, hown, hts, hK, hBH, hnm, hX, hokC, hR, hAC⟩ := C
  have hdg := am_ok_dec hok rfl
  simp only [am_ins, am_nx] at hn
  split at hn
  · split at hn
    · cases hn
    · rename_i hne
      cases hn
      exact lv_irem hx hb hdg hne (kk.go hl hw rfl rfl)
  · cases hn
theorem am_r_ldiv (C : am_Cx p R s m args meth c H0 Tb cl ty D cA B b nL X mi y cc dp) (hok : am_ok Tb cl ty G y cc ret dp pc (.ldiv, len, ps) = true) (hl : am_Lh ls nL B b loc) (hw : am_Wd D cl ty cA B S M H0 H locs) (hn : am_ins X mi (.ldiv) len ps pc loc st S M = some (.inl t)) (hc1 : cells + (t.2.2.2.1.1 - S.1) ≤ R.cells) (hc2 : slots + (t.2.2.2.1.2.1 - S.2.1) ≤ R.slots)
    (kk : am_K p l e R s m args below meth c H0 cells slots Q D cl ty cA B b nL S t) : W p l e R s m args below meth c H locs cells slots Q (F0 m pc ls (st.map (am_va B b))) := by
  obtain ⟨hx, hb, hml, hown, hts, hK, hBH, hnm, hX, hokC, hR, hAC⟩ := C
  have hdg := am_ok_dec hok rfl
  simp only [am_ins, am_nx] at hn
  split at hn
  · split at hn
    · cases hn
    · rename_i hne
      cases hn
      exact lv_ldiv hx hb hdg hne (kk.go hl hw rfl rfl)
  · cases hn
theorem am_r_lrem (C : am_Cx p R s m args meth c H0 Tb cl ty D cA B b nL X mi y cc dp) (hok : am_ok Tb cl ty G y cc ret dp pc (.lrem, len, ps) = true) (hl : am_Lh ls nL B b loc) (hw : am_Wd D cl ty cA B S M H0 H locs) (hn : am_ins X mi (.lrem) len ps pc loc st S M = some (.inl t)) (hc1 : cells + (t.2.2.2.1.1 - S.1) ≤ R.cells) (hc2 : slots + (t.2.2.2.1.2.1 - S.2.1) ≤ R.slots)
    (kk : am_K p l e R s m args below meth c H0 cells slots Q D cl ty cA B b nL S t) : W p l e R s m args below meth c H locs cells slots Q (F0 m pc ls (st.map (am_va B b))) := by
  obtain ⟨hx, hb, hml, hown, hts, hK, hBH, hnm, hX, hokC, hR, hAC⟩ := C
  have hdg := am_ok_dec hok rfl
  simp only [am_ins, am_nx] at hn
  split at hn
  · split at hn
    · cases hn
    · rename_i hne
      cases hn
      exact lv_lrem hx hb hdg hne (kk.go hl hw rfl rfl)
  · cases hn
theorem am_r_ineg (C : am_Cx p R s m args meth c H0 Tb cl ty D cA B b nL X mi y cc dp) (hok : am_ok Tb cl ty G y cc ret dp pc (.ineg, len, ps) = true) (hl : am_Lh ls nL B b loc) (hw : am_Wd D cl ty cA B S M H0 H locs) (hn : am_ins X mi (.ineg) len ps pc loc st S M = some (.inl t)) (hc1 : cells + (t.2.2.2.1.1 - S.1) ≤ R.cells) (hc2 : slots + (t.2.2.2.1.2.1 - S.2.1) ≤ R.slots)
    (kk : am_K p l e R s m args below meth c H0 cells slots Q D cl ty cA B b nL S t) : W p l e R s m args below meth c H locs cells slots Q (F0 m pc ls (st.map (am_va B b))) := by
  obtain ⟨hx, hb, hml, hown, hts, hK, hBH, hnm, hX, hokC, hR, hAC⟩ := C
  have hdg := am_ok_dec hok rfl
  simp only [am_ins, am_nx] at hn
  split at hn
  · cases hn
    exact lv_ineg hx hb hdg (kk.go hl hw rfl rfl)
  · cases hn
theorem am_r_lneg (C : am_Cx p R s m args meth c H0 Tb cl ty D cA B b nL X mi y cc dp) (hok : am_ok Tb cl ty G y cc ret dp pc (.lneg, len, ps) = true) (hl : am_Lh ls nL B b loc) (hw : am_Wd D cl ty cA B S M H0 H locs) (hn : am_ins X mi (.lneg) len ps pc loc st S M = some (.inl t)) (hc1 : cells + (t.2.2.2.1.1 - S.1) ≤ R.cells) (hc2 : slots + (t.2.2.2.1.2.1 - S.2.1) ≤ R.slots)
    (kk : am_K p l e R s m args below meth c H0 cells slots Q D cl ty cA B b nL S t) : W p l e R s m args below meth c H locs cells slots Q (F0 m pc ls (st.map (am_va B b))) := by
  obtain ⟨hx, hb, hml, hown, hts, hK, hBH, hnm, hX, hokC, hR, hAC⟩ := C
  have hdg := am_ok_dec hok rfl
  simp only [am_ins, am_nx] at hn
  split at hn
  · cases hn
    exact lv_lneg hx hb hdg (kk.go hl hw rfl rfl)
  · cases hn
theorem am_r_lshl (C : am_Cx p R s m args meth c H0 Tb cl ty D cA B b nL X mi y cc dp) (hok : am_ok Tb cl ty G y cc ret dp pc (.lshl, len, ps) = true) (hl : am_Lh ls nL B b loc) (hw : am_Wd D cl ty cA B S M H0 H locs) (hn : am_ins X mi (.lshl) len ps pc loc st S M = some (.inl t)) (hc1 : cells + (t.2.2.2.1.1 - S.1) ≤ R.cells) (hc2 : slots + (t.2.2.2.1.2.1 - S.2.1) ≤ R.slots)
    (kk : am_K p l e R s m args below meth c H0 cells slots Q D cl ty cA B b nL S t) : W p l e R s m args below meth c H locs cells slots Q (F0 m pc ls (st.map (am_va B b))) := by
  obtain ⟨hx, hb, hml, hown, hts, hK, hBH, hnm, hX, hokC, hR, hAC⟩ := C
  have hdg := am_ok_dec hok rfl
  simp only [am_ins, am_nx] at hn
  split at hn
  · cases hn
    exact lv_lshl hx hb hdg rfl (kk.go hl hw rfl rfl)
  · cases hn
theorem am_r_lshr (C : am_Cx p R s m args meth c H0 Tb cl ty D cA B b nL X mi y cc dp) (hok : am_ok Tb cl ty G y cc ret dp pc (.lshr, len, ps) = true) (hl : am_Lh ls nL B b loc) (hw : am_Wd D cl ty cA B S M H0 H locs) (hn : am_ins X mi (.lshr) len ps pc loc st S M = some (.inl t)) (hc1 : cells + (t.2.2.2.1.1 - S.1) ≤ R.cells) (hc2 : slots + (t.2.2.2.1.2.1 - S.2.1) ≤ R.slots)
    (kk : am_K p l e R s m args below meth c H0 cells slots Q D cl ty cA B b nL S t) : W p l e R s m args below meth c H locs cells slots Q (F0 m pc ls (st.map (am_va B b))) := by
  obtain ⟨hx, hb, hml, hown, hts, hK, hBH, hnm, hX, hokC, hR, hAC⟩ := C
  have hdg := am_ok_dec hok rfl
  simp only [am_ins, am_nx] at hn
  split at hn
  · cases hn
    exact lv_lshr hx hb hdg rfl (kk.go hl hw rfl rfl)
  · cases hn
theorem am_r_i2l (C : am_Cx p R s m args meth c H0 Tb cl ty D cA B b nL X mi y cc dp) (hok : am_ok Tb cl ty G y cc ret dp pc (.i2l, len, ps) = true) (hl : am_Lh ls nL B b loc) (hw : am_Wd D cl ty cA B S M H0 H locs) (hn : am_ins X mi (.i2l) len ps pc loc st S M = some (.inl t)) (hc1 : cells + (t.2.2.2.1.1 - S.1) ≤ R.cells) (hc2 : slots + (t.2.2.2.1.2.1 - S.2.1) ≤ R.slots)
    (kk : am_K p l e R s m args below meth c H0 cells slots Q D cl ty cA B b nL S t) : W p l e R s m args below meth c H locs cells slots Q (F0 m pc ls (st.map (am_va B b))) := by
  obtain ⟨hx, hb, hml, hown, hts, hK, hBH, hnm, hX, hokC, hR, hAC⟩ := C
  have hdg := am_ok_dec hok rfl
  simp only [am_ins, am_nx] at hn
  split at hn
  · cases hn
    exact lv_i2l hx hb hdg rfl (kk.go hl hw rfl rfl)
  · cases hn
theorem am_r_l2i (C : am_Cx p R s m args meth c H0 Tb cl ty D cA B b nL X mi y cc dp) (hok : am_ok Tb cl ty G y cc ret dp pc (.l2i, len, ps) = true) (hl : am_Lh ls nL B b loc) (hw : am_Wd D cl ty cA B S M H0 H locs) (hn : am_ins X mi (.l2i) len ps pc loc st S M = some (.inl t)) (hc1 : cells + (t.2.2.2.1.1 - S.1) ≤ R.cells) (hc2 : slots + (t.2.2.2.1.2.1 - S.2.1) ≤ R.slots)
    (kk : am_K p l e R s m args below meth c H0 cells slots Q D cl ty cA B b nL S t) : W p l e R s m args below meth c H locs cells slots Q (F0 m pc ls (st.map (am_va B b))) := by
  obtain ⟨hx, hb, hml, hown, hts, hK, hBH, hnm, hX, hokC, hR, hAC⟩ := C
  have hdg := am_ok_dec hok rfl
  simp only [am_ins, am_nx] at hn
  split at hn
  · cases hn
    exact lv_l2i hx hb hdg rfl (kk.go hl hw rfl rfl)
  · cases hn
theorem am_r_i2b (C : am_Cx p R s m args meth c H0 Tb cl ty D cA B b nL X mi y cc dp) (hok : am_ok Tb cl ty G y cc ret dp pc (.i2b, len, ps) = true) (hl : am_Lh ls nL B b loc) (hw : am_Wd D cl ty cA B S M H0 H locs) (hn : am_ins X mi (.i2b) len ps pc loc st S M = some (.inl t)) (hc1 : cells + (t.2.2.2.1.1 - S.1) ≤ R.cells) (hc2 : slots + (t.2.2.2.1.2.1 - S.2.1) ≤ R.slots)
    (kk : am_K p l e R s m args below meth c H0 cells slots Q D cl ty cA B b nL S t) : W p l e R s m args below meth c H locs cells slots Q (F0 m pc ls (st.map (am_va B b))) := by
  obtain ⟨hx, hb, hml, hown, hts, hK, hBH, hnm, hX, hokC, hR, hAC⟩ := C
  have hdg := am_ok_dec hok rfl
  simp only [am_ins, am_nx] at hn
  split at hn
  · cases hn
    exact lv_i2b hx hb hdg rfl (kk.go hl hw rfl rfl)
  · cases hn
theorem am_r_i2s (C : am_Cx p R s m args meth c H0 Tb cl ty D cA B b nL X mi y cc dp) (hok : am_ok Tb cl ty G y cc ret dp pc (.i2s, len, ps) = true) (hl : am_Lh ls nL B b loc) (hw : am_Wd D cl ty cA B S M H0 H locs) (hn : am_ins X mi (.i2s) len ps pc loc st S M = some (.inl t)) (hc1 : cells + (t.2.2.2.1.1 - S.1) ≤ R.cells) (hc2 : slots + (t.2.2.2.1.2.1 - S.2.1) ≤ R.slots)
    (kk : am_K p l e R s m args below meth c H0 cells slots Q D cl ty cA B b nL S t) : W p l e R s m args below meth c H locs cells slots Q (F0 m pc ls (st.map (am_va B b))) := by
  obtain ⟨hx, hb, hml, hown, hts, hK, hBH, hnm, hX, hokC, hR, hAC⟩ := C
  have hdg := am_ok_dec hok rfl
  simp only [am_ins, am_nx] at hn
  split at hn
  · cases hn
    exact lv_i2s hx hb hdg rfl (kk.go hl hw rfl rfl)
  · cases hn
theorem am_r_lcmp (C : am_Cx p R s m args meth c H0 Tb cl ty D cA B b nL X mi y cc dp) (hok : am_ok Tb cl ty G y cc ret dp pc (.lcmp, len, ps) = true) (hl : am_Lh ls nL B b loc) (hw : am_Wd D cl ty cA B S M H0 H locs) (hn : am_ins X mi (.lcmp) len ps pc loc st S M = some (.inl t)) (hc1 : cells + (t.2.2.2.1.1 - S.1) ≤ R.cells) (hc2 : slots + (t.2.2.2.1.2.1 - S.2.1) ≤ R.slots)
    (kk : am_K p l e R s m args below meth c H0 cells slots Q D cl ty cA B b nL S t) : W p l e R s m args below meth c H locs cells slots Q (F0 m pc ls (st.map (am_va B b))) := by
  obtain ⟨hx, hb, hml, hown, hts, hK, hBH, hnm, hX, hokC, hR, hAC⟩ := C
  have hdg := am_ok_dec hok rfl
  simp only [am_ins, am_nx] at hn
  split at hn
  · cases hn
    exact W.lcmp hx hb hdg (kk.go hl hw rfl rfl)
  · cases hn
theorem am_r_dup (C : am_Cx p R s m args meth c H0 Tb cl ty D cA B b nL X mi y cc dp) (hok : am_ok Tb cl ty G y cc ret dp pc (.dup, len, ps) = true) (hl : am_Lh ls nL B b loc) (hw : am_Wd D cl ty cA B S M H0 H locs) (hn : am_ins X mi (.dup) len ps pc loc st S M = some (.inl t)) (hc1 : cells + (t.2.2.2.1.1 - S.1) ≤ R.cells) (hc2 : slots + (t.2.2.2.1.2.1 - S.2.1) ≤ R.slots)
    (kk : am_K p l e R s m args below meth c H0 cells slots Q D cl ty cA B b nL S t) : W p l e R s m args below meth c H locs cells slots Q (F0 m pc ls (st.map (am_va B b))) := by
  obtain ⟨hx, hb, hml, hown, hts, hK, hBH, hnm, hX, hokC, hR, hAC⟩ := C
  have hdg := am_ok_dec hok rfl
  simp only [am_ins, am_nx] at hn
  split at hn
  · cases hn
    exact lv_dup hx hb hdg rfl (kk.go hl hw rfl rfl)
  · cases hn
    exact lv_dup hx hb hdg rfl (kk.go hl hw rfl rfl)
  · cases hn
theorem am_r_dup2 (C : am_Cx p R s m args meth c H0 Tb cl ty D cA B b nL X mi y cc dp) (hok : am_ok Tb cl ty G y cc ret dp pc (.dup2, len, ps) = true) (hl : am_Lh ls nL B b loc) (hw : am_Wd D cl ty cA B S M H0 H locs) (hn : am_ins X mi (.dup2) len ps pc loc st S M = some (.inl t)) (hc1 : cells + (t.2.2.2.1.1 - S.1) ≤ R.cells) (hc2 : slots + (t.2.2.2.1.2.1 - S.2.1) ≤ R.slots)
    (kk : am_K p l e R s m args below meth c H0 cells slots Q D cl ty cA B b nL S t) : W p l e R s m args below meth c H locs cells slots Q (F0 m pc ls (st.map (am_va B b))) := by
  obtain ⟨hx, hb, hml, hown, hts, hK, hBH, hnm, hX, hokC, hR, hAC⟩ := C
  have hdg := am_ok_dec hok rfl
  simp only [am_ins, am_nx] at hn
  split at hn
  · cases hn
    exact lv_dup2_11 hx hb hdg rfl rfl (kk.go hl hw rfl rfl)
  · cases hn
theorem am_r_pop (C : am_Cx p R s m args meth c H0 Tb cl ty D cA B b nL X mi y cc dp) (hok : am_ok Tb cl ty G y cc ret dp pc (.pop, len, ps) = true) (hl : am_Lh ls nL B b loc) (hw : am_Wd D cl ty cA B S M H0 H locs) (hn : am_ins X mi (.pop) len ps pc loc st S M = some (.inl t)) (hc1 : cells + (t.2.2.2.1.1 - S.1) ≤ R.cells) (hc2 : slots + (t.2.2.2.1.2.1 - S.2.1) ≤ R.slots)
    (kk : am_K p l e R s m args below meth c H0 cells slots Q D cl ty cA B b nL S t) : W p l e R s m args below meth c H locs cells slots Q (F0 m pc ls (st.map (am_va B b))) := by
  obtain ⟨hx, hb, hml, hown, hts, hK, hBH, hnm, hX, hokC, hR, hAC⟩ := C
  have hdg := am_ok_dec hok rfl
  simp only [am_ins, am_nx] at hn
  split at hn
  · cases hn
    exact lv_pop hx hb hdg rfl (kk.go hl hw rfl rfl)
  · cases hn
theorem am_tg_of {off : Int} (h : 0 ≤ (pc : Int) + off) : (pc : Int) + off = (am_tg pc off : Int) := by
  unfold am_tg
  omega
theorem am_r_goto {off : Int} (C : am_Cx p R s m args meth c H0 Tb cl ty D cA B b nL X mi y cc dp) (hok : am_ok Tb cl ty G y cc ret dp pc (.goto off, len, ps) = true) (hl : am_Lh ls nL B b loc) (hw : am_Wd D cl ty cA B S M H0 H locs) (hn : am_ins X mi (.goto off) len ps pc loc st S M = some (.inl t)) (hc1 : cells + (t.2.2.2.1.1 - S.1) ≤ R.cells) (hc2 : slots + (t.2.2.2.1.2.1 - S.2.1) ≤ R.slots)
    (kk : am_K p l e R s m args below meth c H0 cells slots Q D cl ty cA B b nL S t) : W p l e R s m args below meth c H locs cells slots Q (F0 m pc ls (st.map (am_va B b))) := by
  obtain ⟨hx, hb, hml, hown, hts, hK, hBH, hnm, hX, hokC, hR, hAC⟩ := C
  have hdg := am_ok_dec hok rfl
  have hL := am_ok_l hok
  cases hn
  exact lv_goto hx hb hdg (am_tg_of (of_decide_eq_true hL)) (kk.go (hl.kill ps) hw rfl rfl)
theorem am_r_ifCond {k : ClassFile.Cond} {off : Int} (C : am_Cx p R s m args meth c H0 Tb cl ty D cA B b nL X mi y cc dp) (hok : am_ok Tb cl ty G y cc ret dp pc (.ifCond k off, len, ps) = true) (hl : am_Lh ls nL B b loc) (hw : am_Wd D cl ty cA B S M H0 H locs) (hn : am_ins X mi (.ifCond k off) len ps pc loc st S M = some (.inl t)) (hc1 : cells + (t.2.2.2.1.1 - S.1) ≤ R.cells) (hc2 : slots + (t.2.2.2.1.2.1 - S.2.1) ≤ R.slots)
    (kk : am_K p l e R s m args below meth c H0 cells slots Q D cl ty cA B b nL S t) : W p l e R s m args below meth c H locs cells slots Q (F0 m pc ls (st.map (am_va B b))) := by
  obtain ⟨hx, hb, hml, hown, hts, hK, hBH, hnm, hX, hokC, hR, hAC⟩ := C
  have hdg := am_ok_dec hok rfl
  have hL := am_ok_l hok
  have ht := am_tg_of (of_decide_eq_true hL)
  simp only [am_ins, am_nx] at hn
  split at hn
  · cases hn
    cases k
    · refine lv_if_eq hx hb hdg ht (fun h => ?_) (fun h => ?_)
      · exact W.eq (by simp [am_cc, h]) (kk.go hl hw rfl rfl)
      · exact W.eq (by simp [am_cc, h]) (kk.go hl hw rfl rfl)
    · refine lv_if_ne hx hb hdg ht (fun h => ?_) (fun h => ?_)
      · exact W.eq (by simp [am_cc, h]) (kk.go hl hw rfl rfl)
      · exact W.eq (by simp [am_cc, h]) (kk.go hl hw rfl rfl)
    · refine lv_if_lt hx hb hdg ht (fun h => ?_) (fun h => ?_)
      · exact W.eq (by simp [am_cc, h]) (kk.go hl hw rfl rfl)
      · exact W.eq (by simp [am_cc, h]) (kk.go hl hw rfl rfl)
    · refine lv_if_ge hx hb hdg ht (fun h => ?_) (fun h => ?_)
      · exact W.eq (by simp [am_cc, h]) (kk.go hl hw rfl rfl)
      · exact W.eq (by simp [am_cc, h]) (kk.go hl hw rfl rfl)
    · refine lv_if_gt hx hb hdg ht (fun h => ?_) (fun h => ?_)
      · exact W.eq (by simp [am_cc, h]) (kk.go hl hw rfl rfl)
      · exact W.eq (by simp [am_cc, h]) (kk.go hl hw rfl rfl)
    · refine lv_if_le hx hb hdg ht (fun h => ?_) (fun h => ?_)
      · exact W.eq (by simp [am_cc, h]) (kk.go hl hw rfl rfl)
      · exact W.eq (by simp [am_cc, h]) (kk.go hl hw rfl rfl)
  · cases hn
theorem am_r_if_icmp {k : ClassFile.Cond} {off : Int} (C : am_Cx p R s m args meth c H0 Tb cl ty D cA B b nL X mi y cc dp) (hok : am_ok Tb cl ty G y cc ret dp pc (.if_icmp k off, len, ps) = true) (hl : am_Lh ls nL B b loc) (hw : am_Wd D cl ty cA B S M H0 H locs) (hn : am_ins X mi (.if_icmp k off) len ps pc loc st S M = some (.inl t)) (hc1 : cells + (t.2.2.2.1.1 - S.1) ≤ R.cells) (hc2 : slots + (t.2.2.2.1.2.1 - S.2.1) ≤ R.slots)
    (kk : am_K p l e R s m args below meth c H0 cells slots Q D cl ty cA B b nL S t) : W p l e R s m args below meth c H locs cells slots Q (F0 m pc ls (st.map (am_va B b))) := by
  obtain ⟨hx, hb, hml, hown, hts, hK, hBH, hnm, hX, hokC, hR, hAC⟩ := C
  have hdg := am_ok_dec hok rfl
  have hL := am_ok_l hok
  have ht := am_tg_of (of_decide_eq_true hL)
  simp only [am_ins, am_nx] at hn
  split at hn
  · cases hn
    cases k
    · refine lv_icmp_eq hx hb hdg ht (fun h => ?_) (fun h => ?_)
      · exact W.eq (by simp [am_cc, h]) (kk.go hl hw rfl rfl)
      · exact W.eq (by simp [am_cc, h]) (kk.go hl hw rfl rfl)
    · refine lv_icmp_ne hx hb hdg ht (fun h => ?_) (fun h => ?_)
      · exact W.eq (by simp [am_cc, h]) (kk.go hl hw rfl rfl)
      · exact W.eq (by simp [am_cc, h]) (kk.go hl hw rfl rfl)
    · refine lv_icmp_lt hx hb hdg ht (fun h => ?_) (fun h => ?_)
      · exact W.eq (by simp [am_cc, h]) (kk.go hl hw rfl rfl)
      · exact W.eq (by simp [am_cc, h]) (kk.go hl hw rfl rfl)
    · refine lv_icmp_ge hx hb hdg ht (fun h => ?_) (fun h => ?_)
      · exact W.eq (by simp [am_cc, h]) (kk.go hl hw rfl rfl)
      · exact W.eq (by simp [am_cc, h]) (kk.go hl hw rfl rfl)
    · refine lv_icmp_gt hx hb hdg ht (fun h => ?_) (fun h => ?_)
      · exact W.eq (by simp [am_cc, h]) (kk.go hl hw rfl rfl)
      · exact W.eq (by simp [am_cc, h]) (kk.go hl hw rfl rfl)
    · refine lv_icmp_le hx hb hdg ht (fun h => ?_) (fun h => ?_)
      · exact W.eq (by simp [am_cc, h]) (kk.go hl hw rfl rfl)
      · exact W.eq (by simp [am_cc, h]) (kk.go hl hw rfl rfl)
  · cases hn
theorem am_r_tableswitch {d lo hi : Int} {offs : Array Int} (C : am_Cx p R s m args meth c H0 Tb cl ty D cA B b nL X mi y cc dp) (hok : am_ok Tb cl ty G y cc ret dp pc (.tableswitch d lo hi offs, len, ps) = true) (hl : am_Lh ls nL B b loc) (hw : am_Wd D cl ty cA B S M H0 H locs) (hn : am_ins X mi (.tableswitch d lo hi offs) len ps pc loc st S M = some (.inl t)) (hc1 : cells + (t.2.2.2.1.1 - S.1) ≤ R.cells) (hc2 : slots + (t.2.2.2.1.2.1 - S.2.1) ≤ R.slots)
    (kk : am_K p l e R s m args below meth c H0 cells slots Q D cl ty cA B b nL S t) : W p l e R s m args below meth c H locs cells slots Q (F0 m pc ls (st.map (am_va B b))) := by
  obtain ⟨hx, hb, hml, hown, hts, hK, hBH, hnm, hX, hokC, hR, hAC⟩ := C
  have hdg := am_ok_dec' hok
  have hL := am_ok_l hok
  simp only [am_okL, Bool.and_eq_true, decide_eq_true_eq, Array.all_eq_true] at hL
  simp only [am_ins, am_nx] at hn
  split at hn
  · rename_i x r
    split at hn
    · rename_i h
      cases hn
      exact lv_tableOut hx hb hdg h (am_tg_of hL.1) (kk.go hl hw rfl rfl)
    · rename_i h
      split at hn
      · rename_i o ho
        cases hn
        obtain ⟨hlt, he⟩ := Array.getElem?_eq_some_iff.mp ho
        have h0 := hL.2 _ hlt
        rw [he] at h0
        exact lv_tableIn hx hb hdg (fun q => h (Or.inl q)) (fun q => h (Or.inr q)) ho (am_tg_of h0) (kk.go hl hw rfl rfl)
      · cases hn
  · cases hn
end AMR
