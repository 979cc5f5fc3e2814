/-! the steps that touch the heap -/
section AMH
variable {p : Program} {l : Launch} {e : Env} {R : Room} {s : State} {m : MethodId} {args : Array Value} {below : List Frame} {meth : Method} {c : Code} {H H0 : Heap} {locs : List Loc} {cells slots : Nat} {Q : State → Prop}
variable {cc : ByteArray} {ls : Array Slot} {D : va_G} {cl : List vw_C} {ty : Nat → Nat → FieldType} {cA : Nat → ClassId} {B b nL mi : Nat} {X : am_X} {y : MethodName} {Tb : List Cond} {dp : Nat × Nat} {G : am_G} {ret : Option FieldType}
variable {len : Nat} {ps : List Nat} {pc : Nat} {loc : am_Lo} {st : List Value} {S : am_Sh} {M : am_Me} {t : am_St}
theorem am_fv_i {a k : Nat} (h : am_kd (ty (S.2.2.1 a) k) = 0 ∨ am_kd (ty (S.2.2.1 a) k) = 3) : am_fv ty B S M a k = .int (M.1 a k) := by
  unfold am_fv
  rcases h with h | h <;> rw [h] <;> rfl
theorem am_fv_l {a k : Nat} (h : am_kd (ty (S.2.2.1 a) k) = 1) : am_fv ty B S M a k = .long (M.2 a k) := by
  unfold am_fv
  rw [h]; rfl
theorem am_fv_r {a k : Nat} (h : am_kd (ty (S.2.2.1 a) k) = 2) : am_fv ty B S M a k = va_rf ((S.2.2.2.2 a k).map (fun r => B + r)) := by
  unfold am_fv
  rw [h]; rfl
theorem am_okF_of {idx : Nat} {put : Bool} (h : am_okF Tb cl ty y idx ps put = true) : ∃ r : vw_C, cl[ps.getD 0 0]? = some r ∧ ps.getD 1 0 < r.2.2 ∧ Cond.fieldLink y.cls idx (r.2.1 (ps.getD 1 0)).1 (r.2.1 (ps.getD 1 0)).2.1 (r.2.1 (ps.getD 1 0)).2.2.1 ∈ Tb ∧ ps.getD 2 0 = am_kd (ty (ps.getD 0 0) (ps.getD 1 0)) ∧ ps.getD 2 0 ≤ 3 ∧
    (put = true → (r.2.1 (ps.getD 1 0)).2.2.2 = true → y.name = "<init>" ∧ (r.2.1 (ps.getD 1 0)).1 = y.cls) := by
  unfold am_okF at h
  split at h
  · rename_i r hr
    simp only [Bool.and_eq_true, decide_eq_true_eq, beq_iff_eq, Bool.or_eq_true, Bool.not_eq_true'] at h
    obtain ⟨⟨⟨⟨h1, h2⟩, h3⟩, h4⟩, h5⟩ := h
    refine ⟨r, hr, h1, am_in_of h2, h3, h4, fun hp hf => ?_⟩
    rcases h5 with (q | q) | q
    · rw [hp] at q; cases q
    · rw [hf] at q; cases q
    · exact q
  · cases h
theorem am_W_get {index a ci k : Nat} {v : Value} {r : List Value} (hx : p.tables.exec = Jvm.exec) (hb : c.code = cc) (hown : s.vm.findClass y.cls = some m.cls) (hts : ∀ w ∈ Tb, w.before args s = true) (hK : va_K D cl (am_tys cA) s) (hokC : am_okC Tb cl ty) (hw : am_Wd D cl ty cA B S M H0 H locs) (ho : am_ob S a ci k = true) {q : vw_C} (hq : cl[ci]? = some q) (hk : k < q.2.2)
    (hlk : Cond.fieldLink y.cls index (q.2.1 k).1 (q.2.1 k).2.1 (q.2.1 k).2.2.1 ∈ Tb) (hdg : decode cc pc = .ok (.getfield index, 3)) (hv : am_fv ty B S M a k = v) (kk : W p l e R s m args below meth c H locs cells slots Q (F0 m (pc + 3) ls (v :: r))) : W p l e R s m args below meth c H locs cells slots Q (F0 m pc ls (.ref (B + a) :: r)) := by
  obtain ⟨h1, h2, h3⟩ := am_ob_of ho
  obtain ⟨o1, o2, o3, o4, -, -⟩ := hokC ci q hq
  obtain ⟨C, T, N⟩ := q
  have he := am_wl_at (ty := ty) (cA := cA) (B := B) (M := M) h1
  rw [am_en_ob h2 o1] at he
  exact va_get (D := D) hx hb hts o2 hown hK hw.1 a he hq k hk (hts _ hlk) (fun _ h => h) (v := v) (by simp [h3, hv]) hdg kk
theorem am_W_put {index a ci k : Nat} {v : Value} {r : List Value} {S' : am_Sh} {M' : am_Me} (hx : p.tables.exec = Jvm.exec) (hb : c.code = cc) (hown : s.vm.findClass y.cls = some m.cls) (hnm : meth.name = y.name) (hts : ∀ w ∈ Tb, w.before args s = true) (hK : va_K D cl (am_tys cA) s) (hokC : am_okC Tb cl ty) (hw : am_Wd D cl ty cA B S M H0 H locs) (ho : am_ob S a ci k = true) {q : vw_C} (hq : cl[ci]? = some q) (hk : k < q.2.2)
    (hlk : Cond.fieldLink y.cls index (q.2.1 k).1 (q.2.1 k).2.1 (q.2.1 k).2.2.1 ∈ Tb) (hfn : (q.2.1 k).2.2.2 = true → y.name = "<init>" ∧ (q.2.1 k).1 = y.cls) (hdg : decode cc pc = .ok (.putfield index, 3)) (hn : narrow (ty ci k) v = v) (hf : fits (ty ci k) v = true)
    (e1 : S'.1 = S.1) (e2 : S'.2.2.1 = S.2.2.1) (e3 : S'.2.2.2.1 = S.2.2.2.1) (e4 : ∀ j, j ≠ a → S'.2.2.2.2 j = S.2.2.2.2 j ∧ M'.1 j = M.1 j ∧ M'.2 j = M.2 j) (hv : am_fv ty B S' M' a k = v) (hv2 : ∀ j, j ≠ k → am_fv ty B S' M' a j = am_fv ty B S M a j)
    (kk : ∀ (H1 : Heap) (locs1 : List Loc), am_Wd D cl ty cA B S' M' H0 H1 locs1 → W p l e R s m args below meth c H1 locs1 cells slots Q (F0 m (pc + 3) ls r)) : W p l e R s m args below meth c H locs cells slots Q (F0 m pc ls (v :: .ref (B + a) :: r)) := by
  obtain ⟨h1, h2, h3⟩ := am_ob_of ho
  obtain ⟨o1, o2, o3, o4, -, -⟩ := hokC ci q hq
  obtain ⟨C, T, N⟩ := q
  have he := am_wl_at (ty := ty) (cA := cA) (B := B) (M := M) h1
  rw [am_en_ob h2 o1] at he
  have hset : (am_wl ty cA B S M).set a (B + a, .inr (ci, ((List.range (S.2.2.2.1 a)).map (am_fv ty B S M a)).set k v)) = am_wl ty cA B S' M' := by
    rw [am_fv_set hv hv2, ← am_wl_set (S := S) (M := M) (a := a) e1 (fun j hj => am_en_c (by rw [e2]) (by rw [e3]) (e4 j hj).1 (e4 j hj).2.1 (e4 j hj).2.2)]
    rw [am_en_ob (S := S') (M := M') (a := a) (k0 := ci) (by rw [e2]; exact h2) o1, e3]
  have hlen : k < ((List.range (S.2.2.2.1 a)).map (am_fv ty B S M a)).length := by simpa using h3
  have hap := va_apart (own := y.cls) hts o2 (ty ci) o3 o4 hK hq
  obtain ⟨r0, g1, cell, q1, q2, q3, q4⟩ := hw.1 a _ he
  obtain rfl : r0 = (C, T, N) := Option.some.inj (g1.symm.trans hq)
  obtain ⟨hS, hfc, kC, hkC, hkind⟩ := hK.1 ci _ hq
  obtain ⟨cf, kf, fi, f, hi, hsl⟩ := hS k hk
  have hst := (u_facts hfc hkC (u_lays hts o2 hk) hi).1
  have hlt : f.slot < cell.slots.size := by rw [hsl]; exact k2_hasslot (q4 k hk)
  have fin : ∀ H' : Heap, H'[B + a]? = some (cell.setSlot f.slot v) → H'.size = H.size → (∀ q, q ≠ B + a → H'[q]? = H[q]?) → W p l e R s m args below meth c H' (locs ++ [⟨B + a, f.slot⟩]) cells slots Q (F0 m (pc + 3) ls r) := by
    intro H' z1 z2 z3
    rw [hsl] at z1
    have g5 := hw.1.set (am_wl_D ty cA B S M) he (e := .inr (ci, ((List.range (S.2.2.2.1 a)).map (am_fv ty B S M a)).set k v)) ⟨_, hq, t_OB.to (V := updV (vp_V ((List.range (S.2.2.2.1 a)).map (am_fv ty B S M a))) k v) ⟨_, z1, q2, q3, t_set q4 hap hk v⟩ (fun j _ => vp_updV_set hlen v j)⟩ z3
    rw [hset] at g5
    exact kk H' _ ⟨g5, by rw [z2, hw.2.1, e1], hw.2.2.put z2 z3 (Nat.le_add_right _ _)⟩
  have hlay := hts _ (o2 _ (u_in_lay hk))
  unfold u_lay at hlay
  by_cases hfin : (T k).2.2.2 = true
  · rw [if_pos hfin] at hlay
    obtain ⟨hy1, hy2⟩ := hfn hfin
    have hcf : m.cls = cf := by
      obtain ⟨_, _, c', _, _, _, -, -, hf', -, -, -, hown2, -⟩ := Cond.laysFinal_spec hlay
      have z1 : c' = cf := by have := hi.symm.trans hf'; simp at this; exact this.1.symm
      rw [show (C, T, N).2.1 k = T k from rfl] at hy2
      rw [hy2] at hown2
      rw [← z1]; exact Option.some.inj (hown.symm.trans hown2)
    exact W.putFinK hx hb hown (hts _ hlk) hi hst hcf (by rw [hnm]; exact hy1) (by rw [q2]; exact u_fits hfc hkC hkind (Or.inr hlay) hi (o3 k hk) hn hf) q1 q3 hlt rfl rfl hdg fin
  · rw [if_neg hfin] at hlay
    exact W.putK hx hb (f := f) ⟨hown, hts _ hlk, ⟨_, _, _, hi⟩, hst⟩ (by rw [q2]; exact u_store hfc hkC hkind hlay hi (o3 k hk) hn hf) q1 q3 hlt rfl rfl hdg fin
theorem am_W_last {a : Nat} {S' : am_Sh} {M' : am_Me} {z : va_E} (hw : am_Wd D cl ty cA B S M H0 H locs) {H1 : Heap} {k : Nat} (ha : a < S.1) (e1 : S'.1 = S.1) (e2 : S'.2.2.1 = S.2.2.1) (e3 : S'.2.2.2.1 = S.2.2.2.1) (e4 : ∀ j, j ≠ a → S'.2.2.2.2 j = S.2.2.2.2 j ∧ M'.1 j = M.1 j ∧ M'.2 j = M.2 j) (hz : am_en ty cA B S' M' a = z) (he : va_at D cl (B + a, z) H1) (z2 : H1.size = H.size) (z3 : ∀ q : Nat, q ≠ B + a → H1[q]? = H[q]?) : am_Wd D cl ty cA B S' M' H0 H1 (locs ++ [⟨B + a, k⟩]) := by
  have h1 := am_wl_at (ty := ty) (cA := cA) (B := B) (M := M) ha
  have g5 := hw.1.set (am_wl_D ty cA B S M) h1 (e := z) he z3
  rw [← hz, am_wl_set (S := S) (M := M) (a := a) e1 (fun j hj => am_en_c (by rw [e2]) (by rw [e3]) (e4 j hj).1 (e4 j hj).2.1 (e4 j hj).2.2)] at g5
  exact ⟨g5, by rw [z2, hw.2.1, e1], hw.2.2.put z2 z3 (Nat.le_add_right _ _)⟩
theorem am_setI_ne {a k j : Nat} {v : Int32} (h : j ≠ a) : (am_setI M a k v).1 j = M.1 j := if_neg h
theorem am_setI_eq {a k : Nat} {v : Int32} : (am_setI M a k v).1 a = upd (M.1 a) k v := if_pos rfl
theorem am_setL_ne {a k j : Nat} {v : Int64} (h : j ≠ a) : (am_setL M a k v).2 j = M.2 j := if_neg h
theorem am_setL_eq {a k : Nat} {v : Int64} : (am_setL M a k v).2 a = vp_updL (M.2 a) k v := if_pos rfl
theorem am_upd_store {i : Int32} {x : Int32} {f : Nat → Int32} {n : Nat} {c0 : ClassId} {v : Value} (hv : v = .int x) : (vp_cell c0 (n, .inl f)).setSlot i.toNatClampNeg v = vp_cell c0 (n, .inl (upd f i.toNatClampNeg x)) := by
  subst hv
  rw [vp_cell_i, vp_cell_i, arrV_store]
  congr 1
  funext q
  by_cases hq : q = i.toNatClampNeg
  · subst hq
    simp [updV, upd]
  · simp [updV, upd, hq]
theorem am_updL_store {i : Int32} {x : Int64} {f : Nat → Int64} {n : Nat} {c0 : ClassId} : (vp_cell c0 (n, .inr (.inl f))).setSlot i.toNatClampNeg (.long x) = vp_cell c0 (n, .inr (.inl (vp_updL f i.toNatClampNeg x))) := by
  rw [vp_cell_l, vp_cell_l, arrV_store]
  congr 1
  funext q
  by_cases hq : q = i.toNatClampNeg
  · subst hq
    simp [updV, vp_updL]
  · simp [updV, vp_updL, hq]
theorem am_kd_I {t : FieldType} {v : Int32} (h : am_kd t = 0 ∨ am_kd t = 3) (hv : am_fits (am_kd t) v = true) : narrow t (.int v) = .int v ∧ fits t (.int v) = true := by
  cases t <;> simp [am_kd] at h <;> simp [am_kd, am_fits, narrow, fits] at hv ⊢
  rcases hv with rfl | rfl <;> simp
theorem am_kd_L {t : FieldType} {v : Int64} (h : am_kd t = 1) : narrow t (.long v) = .long v ∧ fits t (.long v) = true := by
  cases t <;> simp [am_kd] at h <;> simp [narrow, fits]
theorem am_kd_R {t : FieldType} {v : Nat} (h : am_kd t = 2) : narrow t (.ref v) = .ref v ∧ fits t (.ref v) = true := by
  cases t <;> simp [am_kd] at h <;> simp [narrow, fits]
theorem am_r_getfield {n : Nat} (C : am_Cx p R s m args meth c H0 Tb cl ty D cA B b nL X mi y cc dp) (hok : am_ok Tb cl ty G y cc ret dp pc (.getfield n, len, ps) = true) (hl : am_Lh ls nL B b loc) (hw : am_Wd D cl ty cA B S M H0 H locs) (hn : am_ins X mi (.getfield n) len ps pc loc st S M = some (.inl t)) (hc1 : cells + (t.2.2.2.1.1 - S.1) ≤ R.cells) (hc2 : slots + (t.2.2.2.1.2.1 - S.2.1) ≤ R.slots)
    (kk : am_K p l e R s m args below meth c H0 cells slots Q D cl ty cA B b nL S t) : W p l e R s m args below meth c H locs cells slots Q (F0 m pc ls (st.map (am_va B b))) := by
  obtain ⟨hx, hb, hml, hown, hts, hK, hBH, hnm, hX, hokC, hR, hAC⟩ := C
  have hdg := am_ok_dec hok rfl
  have hL := am_ok_l hok
  obtain ⟨q, hq, hk, hlk, hkd, hk3, -⟩ := am_okF_of (put := false) hL
  simp only [am_ins, am_nx] at hn
  split at hn
  · rename_i a r
    split at hn
    · rename_i ho
      have hcl : S.2.2.1 a = ps.getD 0 0 := (am_ob_of ho).2.1
      split at hn
      · rename_i h1
        cases hn
        exact am_W_get hx hb hown hts hK hokC hw ho hq hk hlk hdg (am_fv_l (by rw [hcl, ← hkd, h1])) (kk.go hl hw rfl rfl)
      · rename_i h2
        split at hn
        · rename_i b' hb'
          cases hn
          exact am_W_get hx hb hown hts hK hokC hw ho hq hk hlk hdg ((am_fv_r (by rw [hcl, ← hkd, h2])).trans (by rw [hb']; rfl)) (kk.go hl hw rfl rfl)
        · cases hn
      · rename_i h1 h2
        cases hn
        refine am_W_get hx hb hown hts hK hokC hw ho hq hk hlk hdg (am_fv_i ?_) (kk.go hl hw rfl rfl)
        rw [hcl, ← hkd]
        have g1 : ps.getD 2 0 ≠ 1 := h1
        have g2 : ps.getD 2 0 ≠ 2 := h2
        omega
    · cases hn
  · cases hn
theorem am_r_putfield {n : Nat} (C : am_Cx p R s m args meth c H0 Tb cl ty D cA B b nL X mi y cc dp) (hok : am_ok Tb cl ty G y cc ret dp pc (.putfield n, len, ps) = true) (hl : am_Lh ls nL B b loc) (hw : am_Wd D cl ty cA B S M H0 H locs) (hn : am_ins X mi (.putfield n) len ps pc loc st S M = some (.inl t)) (hc1 : cells + (t.2.2.2.1.1 - S.1) ≤ R.cells) (hc2 : slots + (t.2.2.2.1.2.1 - S.2.1) ≤ R.slots)
    (kk : am_K p l e R s m args below meth c H0 cells slots Q D cl ty cA B b nL S t) : W p l e R s m args below meth c H locs cells slots Q (F0 m pc ls (st.map (am_va B b))) := by
  obtain ⟨hx, hb, hml, hown, hts, hK, hBH, hnm, hX, hokC, hR, hAC⟩ := C
  have hdg := am_ok_dec hok rfl
  have hL := am_ok_l hok
  obtain ⟨q, hq, hk, hlk, hkd, hk3, hfin⟩ := am_okF_of (put := true) hL
  simp only [am_ins, am_nx] at hn
  split at hn
  · rename_i h1
    split at hn
    · split at hn
      · rename_i v a r ho
        have hcl : S.2.2.1 a = ps.getD 0 0 := (am_ob_of ho).2.1
        have hkd2 : am_kd (ty (ps.getD 0 0) (ps.getD 1 0)) = 1 := by rw [← hkd, h1]
        cases hn
        refine am_W_put hx hb hown hnm hts hK hokC hw ho hq hk hlk (hfin rfl) hdg (am_kd_L hkd2).1 (am_kd_L hkd2).2 (S' := S) (M' := am_setL M a (ps.getD 1 0) v) rfl rfl rfl (fun j hj => ⟨rfl, rfl, am_setL_ne hj⟩) ?_ ?_ (fun H1 locs1 hw1 => kk.go hl hw1 rfl rfl)
        · rw [am_fv_l (by rw [hcl, hkd2]), am_setL_eq]
          simp [vp_updL, am_va]
        · intro j hj
          unfold am_fv
          rw [am_setL_eq, show vp_updL (M.2 a) (ps.getD 1 0) v j = M.2 a j from if_neg hj]
          rfl
      · cases hn
    · cases hn
  · rename_i h2
    split at hn
    · split at hn
      · rename_i v a r ho
        have hcl : S.2.2.1 a = ps.getD 0 0 := (am_ob_of ho).2.1
        have hkd2 : am_kd (ty (ps.getD 0 0) (ps.getD 1 0)) = 2 := by rw [← hkd, h2]
        cases hn
        refine am_W_put hx hb hown hnm hts hK hokC hw ho hq hk hlk (hfin rfl) hdg (am_kd_R hkd2).1 (am_kd_R hkd2).2 (S' := am_setR S a (ps.getD 1 0) v) (M' := M) rfl rfl rfl (fun j hj => ⟨by funext i; simp [am_setR, hj], rfl, rfl⟩) ?_ ?_ (fun H1 locs1 hw1 => kk.go hl hw1 rfl rfl)
        · rw [am_fv_r (by show am_kd (ty (S.2.2.1 a) _) = 2; rw [hcl, hkd2])]
          simp [am_setR, va_rf, am_va]
        · intro j hj
          unfold am_fv
          rw [show (am_setR S a (ps.getD 1 0) v).2.2.2.2 a j = S.2.2.2.2 a j from if_neg (fun q => hj q.2)]
          rfl
      · cases hn
    · cases hn
  · rename_i k h1 h2
    split at hn
    · split at hn
      · rename_i v a r ho
        obtain ⟨ho, hft⟩ := ho
        have hcl : S.2.2.1 a = ps.getD 0 0 := (am_ob_of ho).2.1
        have hkd2 : am_kd (ty (ps.getD 0 0) (ps.getD 1 0)) = 0 ∨ am_kd (ty (ps.getD 0 0) (ps.getD 1 0)) = 3 := by
          have g1 : ps.getD 2 0 ≠ 1 := h1
          have g2 : ps.getD 2 0 ≠ 2 := h2
          rw [← hkd]; omega
        cases hn
        rw [hkd] at hft
        refine am_W_put hx hb hown hnm hts hK hokC hw ho hq hk hlk (hfin rfl) hdg (am_kd_I hkd2 hft).1 (am_kd_I hkd2 hft).2 (S' := S) (M' := am_setI M a (ps.getD 1 0) v) rfl rfl rfl (fun j hj => ⟨rfl, am_setI_ne hj, rfl⟩) ?_ ?_ (fun H1 locs1 hw1 => kk.go hl hw1 rfl rfl)
        · rw [am_fv_i (by rw [hcl]; exact hkd2), am_setI_eq]
          simp [upd, am_va]
        · intro j hj
          unfold am_fv
          rw [am_setI_eq, show upd (M.1 a) (ps.getD 1 0) v j = M.1 a j from if_neg hj]
          rfl
      · cases hn
    · cases hn
theorem am_r_laload (C : am_Cx p R s m args meth c H0 Tb cl ty D cA B b nL X mi y cc dp) (hok : am_ok Tb cl ty G y cc ret dp pc (.laload, len, ps) = true) (hl : am_Lh ls nL B b loc) (hw : am_Wd D cl ty cA B S M H0 H locs) (hn : am_ins X mi (.laload) len ps pc loc st S M = some (.inl t)) (hc1 : cells + (t.2.2.2.1.1 - S.1) ≤ R.cells) (hc2 : slots + (t.2.2.2.1.2.1 - S.2.1) ≤ R.slots)
    (kk : am_K p l e R s m args below meth c H0 cells slots Q D cl ty cA B b nL S t) : W p l e R s m args below meth c H locs cells slots Q (F0 m pc ls (st.map (am_va B b))) := by
  obtain ⟨hx, hb, hml, hown, hts, hK, hBH, hnm, hX, hokC, hR, hAC⟩ := C
  have hdg := am_ok_dec hok rfl
  simp only [am_ins, am_nx] at hn
  split at hn
  · split at hn
    · rename_i a r ho
      obtain ⟨h1, h2, h3⟩ := am_ar_of ho
      have he := am_wl_at (ty := ty) (cA := cA) (B := B) (M := M) h1
      rw [am_en_l h2] at he
      cases hn
      exact va_lald (D := D) hx hb hK hw.1 a 1 he rfl h3 hdg (kk.go hl hw rfl rfl)
    · cases hn
  · cases hn
theorem am_r_baload (C : am_Cx p R s m args meth c H0 Tb cl ty D cA B b nL X mi y cc dp) (hok : am_ok Tb cl ty G y cc ret dp pc (.baload, len, ps) = true) (hl : am_Lh ls nL B b loc) (hw : am_Wd D cl ty cA B S M H0 H locs) (hn : am_ins X mi (.baload) len ps pc loc st S M = some (.inl t)) (hc1 : cells + (t.2.2.2.1.1 - S.1) ≤ R.cells) (hc2 : slots + (t.2.2.2.1.2.1 - S.2.1) ≤ R.slots)
    (kk : am_K p l e R s m args below meth c H0 cells slots Q D cl ty cA B b nL S t) : W p l e R s m args below meth c H locs cells slots Q (F0 m pc ls (st.map (am_va B b))) := by
  obtain ⟨hx, hb, hml, hown, hts, hK, hBH, hnm, hX, hokC, hR, hAC⟩ := C
  have hdg := am_ok_dec hok rfl
  simp only [am_ins, am_nx] at hn
  split at hn
  · split at hn
    · rename_i a r ho
      obtain ⟨h1, h2, h3⟩ := am_ar_of ho
      have he := am_wl_at (ty := ty) (cA := cA) (B := B) (M := M) h1
      rw [am_en_z h2] at he
      cases hn
      exact va_zald (D := D) hx hb hK hw.1 a 2 he rfl h3 hdg (kk.go hl hw rfl rfl)
    · cases hn
  · cases hn
theorem am_r_iaload (C : am_Cx p R s m args meth c H0 Tb cl ty D cA B b nL X mi y cc dp) (hok : am_ok Tb cl ty G y cc ret dp pc (.iaload, len, ps) = true) (hl : am_Lh ls nL B b loc) (hw : am_Wd D cl ty cA B S M H0 H locs) (hn : am_ins X mi (.iaload) len ps pc loc st S M = some (.inl t)) (hc1 : cells + (t.2.2.2.1.1 - S.1) ≤ R.cells) (hc2 : slots + (t.2.2.2.1.2.1 - S.2.1) ≤ R.slots)
    (kk : am_K p l e R s m args below meth c H0 cells slots Q D cl ty cA B b nL S t) : W p l e R s m args below meth c H locs cells slots Q (F0 m pc ls (st.map (am_va B b))) := by
  obtain ⟨hx, hb, hml, hown, hts, hK, hBH, hnm, hX, hokC, hR, hAC⟩ := C
  have hdg := am_ok_dec hok rfl
  simp only [am_ins, am_nx] at hn
  split at hn
  · split at hn
    · rename_i a r ho
      obtain ⟨h1, h2, h3⟩ := am_ar_of ho
      have he := am_wl_at (ty := ty) (cA := cA) (B := B) (M := M) h1
      rw [am_en_i h2] at he
      cases hn
      exact va_iald (D := D) hx hb hK hw.1 a 0 he rfl h3 hdg (kk.go hl hw rfl rfl)
    · cases hn
  · split at hn
    · rename_i hc
      cases hn
      obtain ⟨g1, g2, g3⟩ := hX hc.1
      exact va_sld (A := fun q => B ≤ q) hx hb g1 g2 (Nat.not_le.mpr g3) hw.2.2 hc.2 hdg (kk.go hl hw rfl rfl)
    · cases hn
  · cases hn
theorem am_r_arraylength (C : am_Cx p R s m args meth c H0 Tb cl ty D cA B b nL X mi y cc dp) (hok : am_ok Tb cl ty G y cc ret dp pc (.arraylength, len, ps) = true) (hl : am_Lh ls nL B b loc) (hw : am_Wd D cl ty cA B S M H0 H locs) (hn : am_ins X mi (.arraylength) len ps pc loc st S M = some (.inl t)) (hc1 : cells + (t.2.2.2.1.1 - S.1) ≤ R.cells) (hc2 : slots + (t.2.2.2.1.2.1 - S.2.1) ≤ R.slots)
    (kk : am_K p l e R s m args below meth c H0 cells slots Q D cl ty cA B b nL S t) : W p l e R s m args below meth c H locs cells slots Q (F0 m pc ls (st.map (am_va B b))) := by
  obtain ⟨hx, hb, hml, hown, hts, hK, hBH, hnm, hX, hokC, hR, hAC⟩ := C
  have hdg := am_ok_dec hok rfl
  simp only [am_ins, am_nx] at hn
  split at hn
  · split at hn
    · rename_i a r ho
      have he := am_wl_at (ty := ty) (cA := cA) (B := B) (M := M) ho.1
      rw [am_en_i ho.2] at he
      cases hn
      exact va_alen (D := D) hx hb hK hw.1 a 0 he (tys := am_tys cA) (ty := .int) rfl rfl hdg (kk.go hl hw rfl rfl)
    · cases hn
  · split at hn
    · rename_i hc
      cases hn
      obtain ⟨g1, g2, g3⟩ := hX hc
      exact va_slen (A := fun q => B ≤ q) hx hb g1 g2 (Nat.not_le.mpr g3) hw.2.2 hdg (kk.go hl hw rfl rfl)
    · cases hn
  · cases hn
theorem am_r_aaload (C : am_Cx p R s m args meth c H0 Tb cl ty D cA B b nL X mi y cc dp) (hok : am_ok Tb cl ty G y cc ret dp pc (.aaload, len, ps) = true) (hl : am_Lh ls nL B b loc) (hw : am_Wd D cl ty cA B S M H0 H locs) (hn : am_ins X mi (.aaload) len ps pc loc st S M = some (.inl t)) (hc1 : cells + (t.2.2.2.1.1 - S.1) ≤ R.cells) (hc2 : slots + (t.2.2.2.1.2.1 - S.2.1) ≤ R.slots)
    (kk : am_K p l e R s m args below meth c H0 cells slots Q D cl ty cA B b nL S t) : W p l e R s m args below meth c H locs cells slots Q (F0 m pc ls (st.map (am_va B b))) := by
  obtain ⟨hx, hb, hml, hown, hts, hK, hBH, hnm, hX, hokC, hR, hAC⟩ := C
  have hdg := am_ok_dec hok rfl
  simp only [am_ins, am_nx] at hn
  split at hn
  · split at hn
    · rename_i i a r ho
      obtain ⟨h1, h2, h3⟩ := am_ar_of ho
      have he := am_wl_at (ty := ty) (cA := cA) (B := B) (M := M) h1
      rw [am_en_a h2] at he
      split at hn
      · rename_i b' hb'
        cases hn
        have hlt : i.toNatClampNeg < S.2.2.2.1 a := Nat.not_le.mp fun q => h3 (Or.inr q)
        exact W.aald (v := .ref (B + b')) (ty := .array .int) hx hb (hw.1 a _ he) ((hK.2 3 (cA 3, .array .int) rfl).1 _ (fun j => va_rf ((S.2.2.2.2 a j).map (fun r => B + r)))) rfl (fun q => by cases q) (by show ¬ (i < 0 ∨ (arrV _ _ _).slots.size ≤ _); rw [arrV_size]; exact h3) (by show (arrV _ _ _).slots[_]? = _; rw [arrV_read _ _ hlt]; show some (va_rf (Option.map _ (S.2.2.2.2 a i.toNatClampNeg))) = _; rw [hb']; rfl) rfl rfl hdg (kk.go hl hw rfl rfl)
      · cases hn
    · cases hn
  · cases hn
theorem am_r_iastore (C : am_Cx p R s m args meth c H0 Tb cl ty D cA B b nL X mi y cc dp) (hok : am_ok Tb cl ty G y cc ret dp pc (.iastore, len, ps) = true) (hl : am_Lh ls nL B b loc) (hw : am_Wd D cl ty cA B S M H0 H locs) (hn : am_ins X mi (.iastore) len ps pc loc st S M = some (.inl t)) (hc1 : cells + (t.2.2.2.1.1 - S.1) ≤ R.cells) (hc2 : slots + (t.2.2.2.1.2.1 - S.2.1) ≤ R.slots)
    (kk : am_K p l e R s m args below meth c H0 cells slots Q D cl ty cA B b nL S t) : W p l e R s m args below meth c H locs cells slots Q (F0 m pc ls (st.map (am_va B b))) := by
  obtain ⟨hx, hb, hml, hown, hts, hK, hBH, hnm, hX, hokC, hR, hAC⟩ := C
  have hdg := am_ok_dec hok rfl
  simp only [am_ins, am_nx] at hn
  split at hn
  · split at hn
    · rename_i v i a r ho
      obtain ⟨h1, h2, h3⟩ := am_ar_of ho
      have he := am_wl_at (ty := ty) (cA := cA) (B := B) (M := M) h1
      rw [am_en_i h2] at he
      cases hn
      refine W.iast hx hb (hw.1 a _ he) ((hK.2 0 _ rfl).1 _ (fun j => .int (M.1 a j))) (fun q => by cases q) (by show ¬ (i < 0 ∨ (arrV _ _ _).slots.size ≤ _); rw [arrV_size]; exact h3) rfl rfl hdg fun H1 z1 z2 z3 => ?_
      refine kk.go hl (am_W_last (z := .inl (cA 0, S.2.2.2.1 a, (.inl (upd (M.1 a) i.toNatClampNeg v)))) hw h1 rfl rfl rfl (fun j hj => ⟨rfl, am_setI_ne hj, rfl⟩) ?_ ?_ z2 z3) rfl rfl
      · rw [am_en_i h2, am_setI_eq]
      · show H1[B + a]? = some (vp_cell _ _)
        rw [z1, am_upd_store rfl]
    · cases hn
  · cases hn
theorem am_r_bastore (C : am_Cx p R s m args meth c H0 Tb cl ty D cA B b nL X mi y cc dp) (hok : am_ok Tb cl ty G y cc ret dp pc (.bastore, len, ps) = true) (hl : am_Lh ls nL B b loc) (hw : am_Wd D cl ty cA B S M H0 H locs) (hn : am_ins X mi (.bastore) len ps pc loc st S M = some (.inl t)) (hc1 : cells + (t.2.2.2.1.1 - S.1) ≤ R.cells) (hc2 : slots + (t.2.2.2.1.2.1 - S.2.1) ≤ R.slots)
    (kk : am_K p l e R s m args below meth c H0 cells slots Q D cl ty cA B b nL S t) : W p l e R s m args below meth c H locs cells slots Q (F0 m pc ls (st.map (am_va B b))) := by
  obtain ⟨hx, hb, hml, hown, hts, hK, hBH, hnm, hX, hokC, hR, hAC⟩ := C
  have hdg := am_ok_dec hok rfl
  simp only [am_ins, am_nx] at hn
  split at hn
  · split at hn
    · rename_i v i a r ho
      obtain ⟨ho, hft⟩ := ho
      have hz := (am_kd_I (t := .boolean) (v := v) (Or.inr rfl) hft).1
      obtain ⟨h1, h2, h3⟩ := am_ar_of ho
      have he := am_wl_at (ty := ty) (cA := cA) (B := B) (M := M) h1
      rw [am_en_z h2] at he
      cases hn
      refine W.zast hx hb (hw.1 a _ he) ((hK.2 2 _ rfl).1 _ (fun j => .int (M.1 a j))) (fun q => by cases q) (by show ¬ (i < 0 ∨ (arrV _ _ _).slots.size ≤ _); rw [arrV_size]; exact h3) rfl rfl hdg fun H1 z1 z2 z3 => ?_
      refine kk.go hl (am_W_last (z := .inl (cA 2, S.2.2.2.1 a, (.inl (upd (M.1 a) i.toNatClampNeg v)))) hw h1 rfl rfl rfl (fun j hj => ⟨rfl, am_setI_ne hj, rfl⟩) ?_ ?_ z2 z3) rfl rfl
      · rw [am_en_z h2, am_setI_eq]
      · show H1[B + a]? = some (vp_cell _ _)
        rw [z1, am_upd_store hz]
    · cases hn
  · cases hn
theorem am_r_lastore (C : am_Cx p R s m args meth c H0 Tb cl ty D cA B b nL X mi y cc dp) (hok : am_ok Tb cl ty G y cc ret dp pc (.lastore, len, ps) = true) (hl : am_Lh ls nL B b loc) (hw : am_Wd D cl ty cA B S M H0 H locs) (hn : am_ins X mi (.lastore) len ps pc loc st S M = some (.inl t)) (hc1 : cells + (t.2.2.2.1.1 - S.1) ≤ R.cells) (hc2 : slots + (t.2.2.2.1.2.1 - S.2.1) ≤ R.slots)
    (kk : am_K p l e R s m args below meth c H0 cells slots Q D cl ty cA B b nL S t) : W p l e R s m args below meth c H locs cells slots Q (F0 m pc ls (st.map (am_va B b))) := by
  obtain ⟨hx, hb, hml, hown, hts, hK, hBH, hnm, hX, hokC, hR, hAC⟩ := C
  have hdg := am_ok_dec hok rfl
  simp only [am_ins, am_nx] at hn
  split at hn
  · split at hn
    · rename_i v i a r ho
      obtain ⟨h1, h2, h3⟩ := am_ar_of ho
      have he := am_wl_at (ty := ty) (cA := cA) (B := B) (M := M) h1
      rw [am_en_l h2] at he
      cases hn
      refine W.last hx hb (hw.1 a _ he) ((hK.2 1 _ rfl).1 _ (fun j => .long (M.2 a j))) (fun q => by cases q) (by show ¬ (i < 0 ∨ (arrV _ _ _).slots.size ≤ _); rw [arrV_size]; exact h3) rfl rfl hdg fun H1 z1 z2 z3 => ?_
      refine kk.go hl (am_W_last (z := .inl (cA 1, S.2.2.2.1 a, (.inr (.inl (vp_updL (M.2 a) i.toNatClampNeg v))))) hw h1 rfl rfl rfl (fun j hj => ⟨rfl, rfl, am_setL_ne hj⟩) ?_ ?_ z2 z3) rfl rfl
      · rw [am_en_l h2, am_setL_eq]
      · show H1[B + a]? = some (vp_cell _ _)
        rw [z1, am_updL_store]
    · cases hn
  · cases hn
end AMH
