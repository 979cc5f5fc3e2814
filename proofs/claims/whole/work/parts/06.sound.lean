/-! THE RUNS of the abstract machine are the machine's -/
section AMS
variable {p : Program} {l : Launch} {e : Env} {R : Room} {s : State} {m : MethodId} {args : Array Value} {below : List Frame} {meth : Method} {c : Code} {H H0 : Heap} {locs : List Loc} {cells slots : Nat} {Q : State → Prop}
variable {cc : ByteArray} {ls : Array Slot} {D : va_G} {cl : List vw_C} {ty : Nat → Nat → FieldType} {cA : Nat → ClassId} {B b nL mi : Nat} {X : am_X} {y : MethodName} {Tb : List Cond} {dp : Nat × Nat} {G : am_G} {ret : Option FieldType}
variable {len : Nat} {ps : List Nat} {pc : Nat} {loc : am_Lo} {st : List Value} {S : am_Sh} {M : am_Me} {t : am_St}
theorem am_step {ins : Instr} (C : am_Cx p R s m args meth c H0 Tb cl ty D cA B b nL X mi y cc dp) (hok : am_ok Tb cl ty G y cc ret dp pc (ins, len, ps) = true) (hl : am_Lh ls nL B b loc) (hw : am_Wd D cl ty cA B S M H0 H locs) (hn : am_ins X mi ins len ps pc loc st S M = some (.inl t)) (hcs : s.heap.size + cells = B + S.1) (hc1 : cells + (t.2.2.2.1.1 - S.1) ≤ R.cells) (hc2 : slots + (t.2.2.2.1.2.1 - S.2.1) ≤ R.slots)
    (kk : am_K p l e R s m args below meth c H0 cells slots Q D cl ty cA B b nL S t) : W p l e R s m args below meth c H locs cells slots Q (F0 m pc ls (st.map (am_va B b))) := by
  cases ins with
  | iadd => exact am_r_iadd C hok hl hw hn hc1 hc2 kk
  | isub => exact am_r_isub C hok hl hw hn hc1 hc2 kk
  | imul => exact am_r_imul C hok hl hw hn hc1 hc2 kk
  | iand => exact am_r_iand C hok hl hw hn hc1 hc2 kk
  | ior => exact am_r_ior C hok hl hw hn hc1 hc2 kk
  | ishl => exact am_r_ishl C hok hl hw hn hc1 hc2 kk
  | ishr => exact am_r_ishr C hok hl hw hn hc1 hc2 kk
  | ladd => exact am_r_ladd C hok hl hw hn hc1 hc2 kk
  | lsub => exact am_r_lsub C hok hl hw hn hc1 hc2 kk
  | lmul => exact am_r_lmul C hok hl hw hn hc1 hc2 kk
  | idiv => exact am_r_idiv C hok hl hw hn hc1 hc2 kk
  | irem => exact am_r_irem C hok hl hw hn hc1 hc2 kk
  | ldiv => exact am_r_ldiv C hok hl hw hn hc1 hc2 kk
  | lrem => exact am_r_lrem C hok hl hw hn hc1 hc2 kk
  | ineg => exact am_r_ineg C hok hl hw hn hc1 hc2 kk
  | lneg => exact am_r_lneg C hok hl hw hn hc1 hc2 kk
  | lshl => exact am_r_lshl C hok hl hw hn hc1 hc2 kk
  | lshr => exact am_r_lshr C hok hl hw hn hc1 hc2 kk
  | i2l => exact am_r_i2l C hok hl hw hn hc1 hc2 kk
  | l2i => exact am_r_l2i C hok hl hw hn hc1 hc2 kk
  | i2b => exact am_r_i2b C hok hl hw hn hc1 hc2 kk
  | i2s => exact am_r_i2s C hok hl hw hn hc1 hc2 kk
  | lcmp => exact am_r_lcmp C hok hl hw hn hc1 hc2 kk
  | dup => exact am_r_dup C hok hl hw hn hc1 hc2 kk
  | dup2 => exact am_r_dup2 C hok hl hw hn hc1 hc2 kk
  | pop => exact am_r_pop C hok hl hw hn hc1 hc2 kk
  | laload => exact am_r_laload C hok hl hw hn hc1 hc2 kk
  | baload => exact am_r_baload C hok hl hw hn hc1 hc2 kk
  | iaload => exact am_r_iaload C hok hl hw hn hc1 hc2 kk
  | arraylength => exact am_r_arraylength C hok hl hw hn hc1 hc2 kk
  | aaload => exact am_r_aaload C hok hl hw hn hc1 hc2 kk
  | iastore => exact am_r_iastore C hok hl hw hn hc1 hc2 kk
  | bastore => exact am_r_bastore C hok hl hw hn hc1 hc2 kk
  | lastore => exact am_r_lastore C hok hl hw hn hc1 hc2 kk
  | iconst n => exact am_r_iconst C hok hl hw hn hc1 hc2 kk
  | bipush n => exact am_r_bipush C hok hl hw hn hc1 hc2 kk
  | sipush n => exact am_r_sipush C hok hl hw hn hc1 hc2 kk
  | lconst n => exact am_r_lconst C hok hl hw hn hc1 hc2 kk
  | ldc n => exact am_r_ldc C hok hl hw hn hc1 hc2 kk
  | ldc_w n => exact am_r_ldc_w C hok hl hw hn hc1 hc2 kk
  | ldc2_w n => exact am_r_ldc2_w C hok hl hw hn hc1 hc2 kk
  | iload_n n => exact am_r_iload_n C hok hl hw hn hc1 hc2 kk
  | iload n => exact am_r_iload C hok hl hw hn hc1 hc2 kk
  | lload_n n => exact am_r_lload_n C hok hl hw hn hc1 hc2 kk
  | lload n => exact am_r_lload C hok hl hw hn hc1 hc2 kk
  | aload_n n => exact am_r_aload_n C hok hl hw hn hc1 hc2 kk
  | aload n => exact am_r_aload C hok hl hw hn hc1 hc2 kk
  | istore_n n => exact am_r_istore_n C hok hl hw hn hc1 hc2 kk
  | istore n => exact am_r_istore C hok hl hw hn hc1 hc2 kk
  | lstore_n n => exact am_r_lstore_n C hok hl hw hn hc1 hc2 kk
  | lstore n => exact am_r_lstore C hok hl hw hn hc1 hc2 kk
  | astore_n n => exact am_r_astore_n C hok hl hw hn hc1 hc2 kk
  | astore n => exact am_r_astore C hok hl hw hn hc1 hc2 kk
  | iinc n k => exact am_r_iinc C hok hl hw hn hc1 hc2 kk
  | goto n => exact am_r_goto C hok hl hw hn hc1 hc2 kk
  | ifCond n k => exact am_r_ifCond C hok hl hw hn hc1 hc2 kk
  | if_icmp n k => exact am_r_if_icmp C hok hl hw hn hc1 hc2 kk
  | tableswitch d lo hi o => exact am_r_tableswitch C hok hl hw hn hc1 hc2 kk
  | getfield n => exact am_r_getfield C hok hl hw hn hc1 hc2 kk
  | putfield n => exact am_r_putfield C hok hl hw hn hc1 hc2 kk
  | new n => exact am_r_new C hok hl hw hn hcs hc1 hc2 kk
  | newarray n => exact am_r_newarray C hok hl hw hn hcs hc1 hc2 kk
  | multianewarray n k => exact am_r_multianewarray C hok hl hw hn hcs hc1 hc2 kk
  | invokestatic n =>
    by_cases h9 : ps.getD 3 0 = 9
    · exact am_r_arraycopy h9 C hok hl hw hn hcs hc1 hc2 kk
    · simp only [am_ins] at hn
      exact absurd hn am_call_no
  | invokespecial n =>
    by_cases h9 : ps.getD 3 0 = 9
    · exact am_r_objinit h9 C hok hl hw hn hcs hc1 hc2 kk
    · simp only [am_ins] at hn
      exact absurd hn am_call_no
  | invokevirtual n => exact absurd hn am_call_no
  | ireturn =>
    simp only [am_ins] at hn
    split at hn
    · split at hn <;> cases hn
    · cases hn
  | lreturn =>
    simp only [am_ins] at hn
    split at hn <;> cases hn
  | areturn =>
    simp only [am_ins] at hn
    split at hn <;> cases hn
  | return_ =>
    simp only [am_ins] at hn
    split at hn <;> cases hn
  | _ => cases hn
theorem am_call_of {c0 n : Nat} {rv : Bool} {ok : List Value → Bool} {q : Option Value ⊕ am_Cl} (h : am_call pc len c0 n st rv ok = some (.inr q)) : q = .inr (c0, (st.take n).reverse, pc + len, st.drop n, rv) ∧ (st.take n).reverse.length = n ∧ ((st.drop n).map fun v => v.category).sum ≤ 8 ∧ ok (st.take n).reverse = true := by
  unfold am_call at h
  dsimp only at h
  split at h
  · rename_i hc
    cases h
    exact ⟨rfl, hc.1, hc.2.1, hc.2.2⟩
  · cases h
theorem am_ins_ret {ins : Instr} {v : Option Value} (hn : am_ins X mi ins len ps pc loc st S M = some (.inr (.inl v))) :
    (ins = .ireturn ∧ ∃ x, st = [.int x] ∧ v = some (.int x) ∧ am_fits (ps.getD 0 0) x = true) ∨ (ins = .lreturn ∧ ∃ x, st = [.long x] ∧ v = some (.long x)) ∨ (ins = .areturn ∧ ∃ x, st = [.ref x] ∧ v = some (.ref x)) ∨ (ins = .return_ ∧ st = [] ∧ v = none) := by
  have hcall : ∀ {pc len c0 n : Nat} {st : List Value} {rv : Bool} {ok : List Value → Bool}, am_call pc len c0 n st rv ok = some (.inr (.inl v)) → False := by
    intro pc len c0 n st rv ok h
    have := (am_call_of h).1
    cases this
  cases ins <;> simp only [am_ins, am_ii, am_ll, am_load, am_store, am_nx] at hn <;>
    first
    | (cases hn; done)
    | exact (hcall hn).elim
    | ((repeat' split at hn) <;> first
      | (cases hn; done)
      | exact (hcall hn).elim
      | (cases hn; exact Or.inl ⟨rfl, _, rfl, rfl, by assumption⟩)
      | (cases hn; exact Or.inr (Or.inl ⟨rfl, _, rfl, rfl⟩))
      | (cases hn; exact Or.inr (Or.inr (Or.inl ⟨rfl, _, rfl, rfl⟩)))
      | (cases hn; exact Or.inr (Or.inr (Or.inr ⟨rfl, rfl, rfl⟩))))
theorem am_ins_cal {ins : Instr} {q : am_Cl} (hn : am_ins X mi ins len ps pc loc st S M = some (.inr (.inr q))) :
    (∃ idx, ins = .invokestatic idx ∧ ps.getD 3 0 ≠ 9 ∧ am_call pc 3 (ps.getD 0 0) (ps.getD 1 0) st (ps.getD 3 0 == 1) (fun _ => true) = some (.inr (.inr q))) ∨
    (∃ idx, ins = .invokevirtual idx ∧ am_call pc 3 (ps.getD 0 0) (ps.getD 1 0) st (ps.getD 3 0 == 1) (am_rc S (ps.getD 2 0)) = some (.inr (.inr q))) ∨
    (∃ idx, ins = .invokespecial idx ∧ ps.getD 3 0 ≠ 9 ∧ ∃ ok : List Value → Bool, (∀ as, ok as = true → ∃ a as', as = .ref a :: as') ∧ am_call pc 3 (ps.getD 0 0) (ps.getD 1 0) st false ok = some (.inr (.inr q))) := by
  cases ins with
  | invokestatic idx =>
    simp only [am_ins, am_nx] at hn
    split at hn
    · repeat' split at hn
      all_goals cases hn
    · rename_i h
      exact Or.inl ⟨idx, rfl, h, hn⟩
  | invokevirtual idx => exact Or.inr (Or.inl ⟨idx, rfl, hn⟩)
  | invokespecial idx =>
    simp only [am_ins, am_nx] at hn
    split at hn
    · repeat' split at hn
      all_goals cases hn
    · rename_i h
      refine Or.inr (Or.inr ⟨idx, rfl, h, _, ?_, hn⟩)
      intro as h2
      unfold am_rr at h2
      split at h2
      · exact ⟨_, _, rfl⟩
      · cases h2
  | _ =>
    exfalso
    simp only [am_ins, am_ii, am_ll, am_load, am_store, am_nx] at hn
    first
    | (cases hn; done)
    | ((repeat' split at hn) <;> cases hn)
def am_okG (Tb : List Cond) (cl : List vw_C) (ty : Nat → Nat → FieldType) (G : am_G) : Prop := ∀ (mi : Nat) (mt : am_Mt), G mi = some mt → plainName mt.1.cls = true ∧ ∀ (pc : Nat) (i : am_I), mt.2.2.2.2.2 pc = some i → am_ok Tb cl ty G mt.1 mt.2.1 mt.2.2.2.1 mt.2.2.2.2.1 pc i = true
/-- a method's contract, from a run of the abstract machine -/
def am_Met (l : Launch) (Tb : List Cond) (cl : List vw_C) (ty : Nat → Nat → FieldType) (D : va_G) (cA : Nat → ClassId) (B b : Nat) (mt : am_Mt) (as : List Value) (S : am_Sh) (M : am_Me) (r : am_Re) : Prop :=
  Met l mt.1 (.code mt.1 mt.2.1 mt.2.2.1 mt.2.2.2.1 :: Tb) { frames := mt.2.2.2.2.1.1, cells := r.2.1.1 - S.1, slots := r.2.1.2.1 - S.2.1, locals := mt.2.2.2.2.1.2 }
    (va_Pc (as.map (am_va B b)) (fun U => va_P D cl (am_wl ty cA B S M) U.heap ∧ U.heap.size = B + S.1 ∧ va_K D cl (am_tys cA) U))
    (fun _ st0 oc t0 => oc = .returned (r.1.map (am_va B b)) ∧ va_P D cl (am_wl ty cA B r.2.1 r.2.2) t0.heap ∧ t0.heap.size = B + r.2.1.1 ∧ va_F (fun q => B ≤ q) st0 t0) (r.2.1.1 - S.1) (r.2.1.2.1 - S.2.1) (fun q => B ≤ q)
def am_Sd (l : Launch) (Tb : List Cond) (cl : List vw_C) (ty : Nat → Nat → FieldType) (G : am_G) (X : am_X) (n : Nat) : Prop :=
  ∀ (p : Program) (e : Env) (R : Room) (s : State) (m : MethodId) (args : Array Value) (below : List Frame) (meth : Method) (c : Code) (H H0 : Heap) (locs : List Loc) (cells slots : Nat) (Q : State → Prop) (ls : Array Slot) (D : va_G) (cA : Nat → ClassId) (B b mi : Nat) (mt : am_Mt) (pc : Nat) (loc : am_Lo) (st : List Value) (S : am_Sh) (M : am_Me) (r : am_Re),
    am_go G X n mi (pc, loc, st, S, M) = some r → G mi = some mt → am_Cx p R s m args meth c H0 Tb cl ty D cA B b mt.2.2.1 X mi mt.1 mt.2.1 mt.2.2.2.2.1 → am_Lh ls mt.2.2.1 B b loc → am_Wd D cl ty cA B S M H0 H locs → s.heap.size + cells = B + S.1 → cells + (r.2.1.1 - S.1) ≤ R.cells → slots + (r.2.1.2.1 - S.2.1) ≤ R.slots →
    (∀ (pc' : Nat) (i : am_I) (loc' : am_Lo) (st' : List Value) (H' : Heap) (locs' : List Loc) (ls' : Array Slot), mt.2.2.2.2.2 pc' = some i → am_ins X mi i.1 i.2.1 i.2.2 pc' loc' st' r.2.1 r.2.2 = some (.inr (.inl r.1)) → am_Wd D cl ty cA B r.2.1 r.2.2 H0 H' locs' →
      W p l e R s m args below meth c H' locs' (cells + (r.2.1.1 - S.1)) (slots + (r.2.1.2.1 - S.2.1)) Q (F0 m pc' ls' (st'.map (am_va B b)))) →
    W p l e R s m args below meth c H locs cells slots Q (F0 m pc ls (st.map (am_va B b)))
theorem am_fl_args (B b : Nat) : ∀ (as : List Value) (k i : Nat) (v : Value), (am_fl as)[i]? = some (some v) → (k + i, am_va B b v) ∈ lv_args k (as.map (am_va B b))
  | [], k, i, v, h => by simp [am_fl] at h
  | a :: as, k, i, v, h => by
    show (k + i, am_va B b v) ∈ (k, am_va B b a) :: lv_args (if (am_va B b a).category = 2 then k + 2 else k + 1) (as.map (am_va B b))
    rw [am_va_cat]
    have hfl : am_fl (a :: as) = (if a.category = 2 then [some a, none] else [some a]) ++ am_fl as := rfl
    rw [hfl] at h
    by_cases hc : a.category = 2
    · rw [if_pos hc] at h ⊢
      match i, h with
      | 0, h => cases h; exact List.mem_cons_self
      | 1, h => cases h
      | i + 2, h =>
        have := am_fl_args B b as (k + 2) i v h
        rw [show k + 2 + i = k + (i + 2) by omega] at this
        exact List.mem_cons_of_mem _ this
    · rw [if_neg hc] at h ⊢
      match i, h with
      | 0, h => cases h; exact List.mem_cons_self
      | i + 1, h =>
        have := am_fl_args B b as (k + 1) i v h
        rw [show k + 1 + i = k + (i + 1) by omega] at this
        exact List.mem_cons_of_mem _ this
theorem am_fl_len (B b : Nat) (as : List Value) : (lg_sl (as.map (am_va B b))).length = (am_fl as).length := by
  unfold lg_sl am_fl
  induction as with
  | nil => rfl
  | cons a as ih =>
    simp only [List.map_cons, List.flatMap_cons, List.length_append, am_va_cat]
    rw [ih]
    by_cases hc : a.category = 2 <;> simp [hc]
theorem am_entry {nL : Nat} {as : List Value} {lc : am_Lo} (h : am_io nL as = some lc) : am_Lh ((lg_sl (as.map (am_va B b)) ++ List.replicate (nL - (lg_sl (as.map (am_va B b))).length) Slot.unset).toArray) nL B b lc := by
  unfold am_io at h
  split at h
  · rename_i hle
    cases h
    refine ⟨by simp [am_in]; omega, _, lv_entry (as.map (am_va B b)) (by rw [am_fl_len]; exact hle), fun i v hv => ?_⟩
    unfold am_in at hv
    by_cases hi : i < (am_fl as).length
    · rw [List.getElem?_append_left hi] at hv
      have := am_fl_args B b as 0 i v hv
      rwa [Nat.zero_add] at this
    · rw [List.getElem?_append_right (by omega)] at hv
      obtain ⟨h1, h2⟩ := List.getElem?_eq_some_iff.mp hv
      simp at h2
  · cases h
theorem am_met_of {n : Nat} {mt : am_Mt} {as : List Value} {lc : am_Lo} {r : am_Re} (hS : am_Sd l Tb cl ty G X n) (hG : am_okG Tb cl ty G) (hC : am_okC Tb cl ty) (hA : Cond.arrayClass .int ∈ Tb ∧ Cond.arrayClass .long ∈ Tb ∧ Cond.arrayClass .boolean ∈ Tb) (hio : am_io mt.2.2.1 as = some lc) (hgo : am_go G X n mi (0, lc, [], S, M) = some r) (h0 : mi ≠ 0) (hm : G mi = some mt) : am_Met l Tb cl ty D cA B b mt as S M r := by
  obtain ⟨hpl, hcode⟩ := hG mi mt hm
  refine Met.ofW (cc := mt.2.1) (maxL := mt.2.2.1) (ret := mt.2.2.2.1) hpl rfl ?_
  intro p e s m args below meth c s₁ B1 hml hv
  obtain ⟨rfl, hP, hsz, hK⟩ := hv
  have hx := B1.exec
  have hb := B1.bytes
  have hr := B1.returns
  have hts0 := atoms_spec (ws := Cond.code mt.1 mt.2.1 mt.2.2.1 mt.2.2.2.1 :: Tb) B1.pre
  have hts : ∀ w ∈ Tb, w.before (as.map (am_va B b)).toArray s = true := fun w hw => hts0 w (List.mem_cons_of_mem _ hw)
  have hown : s.vm.findClass mt.1.cls = some m.cls := findClass_of_methodNamed B1.named
  have hnm : meth.name = mt.1.name := (name_of_methodNamed B1.named B1.method).1
  have hlocks := B1.notSynchronized
  rw [lg_entry_eq]
  have hw : am_Wd D cl ty cA B S M s.heap s.heap [] := ⟨hP, hsz, va_S.rf⟩
  refine hS p e _ s m _ below meth c s.heap s.heap [] 0 0 _ _ D cA B b mi mt 0 lc [] S M r hgo hm ⟨hx, hb, hml, hown, hts, hK, by omega, hnm, fun h => absurd h h0, hC, ⟨Nat.le_refl _, Nat.le_refl _⟩, hA⟩ (am_entry hio) hw (by omega) (by show 0 + (r.2.1.1 - S.1) ≤ r.2.1.1 - S.1; omega) (by show 0 + (r.2.1.2.1 - S.2.1) ≤ r.2.1.2.1 - S.2.1; omega) ?_
  intro pc' i loc' st' H' locs' ls' hi hret hw'
  obtain ⟨ins, len, ps⟩ := i
  have hok := hcode pc' _ hi
  have hL := am_ok_l hok
  refine W.cs (cells' := r.2.1.1 - S.1) (slots' := r.2.1.2.1 - S.2.1) (Nat.zero_add _) (Nat.zero_add _) ?_
  have hq : ∀ (v : Option Value) (t : State), r.1 = v → t.heap = H' → (Outcome.returned (v.map (am_va B b)) = .returned (r.1.map (am_va B b)) ∧ va_P D cl (am_wl ty cA B r.2.1 r.2.2) t.heap ∧ t.heap.size = B + r.2.1.1 ∧ va_F (fun q => B ≤ q) s t) := by
    intro v t e1 e2
    exact ⟨by rw [e1], by rw [e2]; exact hw'.1, by rw [e2]; exact hw'.2.1, hw'.2.2.F e2⟩
  rcases am_ins_ret hret with ⟨rfl, x, rfl, e1, hft⟩ | ⟨rfl, x, rfl, e1⟩ | ⟨rfl, x, rfl, e1⟩ | ⟨rfl, rfl, e1⟩
  · have hdg := am_ok_dec hok rfl
    simp only [am_okL, Bool.or_eq_true, Bool.and_eq_true, decide_eq_true_eq, beq_iff_eq] at hL
    rcases hL with ⟨g1, -⟩ | ⟨g1, g2⟩
    · exact W.iret hx hb (hr.trans g1) (fun t ht hW => hq _ t e1 ht) hw'.2.2.2.2 hdg
    · rw [g2] at hft
      exact W.zret (ty := .boolean) hx hb (hr.trans g1) (am_kd_I (t := .boolean) (Or.inr rfl) hft).1 (fun t ht hW => hq _ t e1 ht) hw'.2.2.2.2 hdg
  · exact W.lret hx hb (hr.trans (of_decide_eq_true hL)) (fun t ht hW => hq _ t e1 ht) hw'.2.2.2.2 (am_ok_dec hok rfl)
  · exact W.aret hx hb (hr.trans (of_decide_eq_true hL)) (Or.inr ⟨_, rfl⟩) (Or.inr ⟨_, rfl⟩) (fun t ht hW => hq _ t e1 ht) hw'.2.2.2.2 (am_ok_dec hok rfl)
  · exact W.vret hx hb (hr.trans (of_decide_eq_true hL)) (fun t ht hW => hq _ t e1 ht) hw'.2.2.2.2 (am_ok_dec hok rfl)
end AMS
