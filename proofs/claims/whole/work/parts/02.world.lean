/-! THE ABSTRACT MACHINE'S STEPS are the machine's: its cells lie at B, B + 1, .. in the heap; the script (only the law sees it) at b. -/
def am_va (B b : Nat) : Value → Value
  | .ref i => .ref (B + i)
  | .retAddr _ => .ref b
  | v => v
theorem am_va_cat (B b : Nat) (v : Value) : (am_va B b v).category = v.category := by cases v <;> rfl
def am_kd : FieldType → Nat
  | .int => 0
  | .long => 1
  | .boolean => 3
  | .object _ => 2
  | .array _ => 2
  | _ => 4
def am_fv (ty : Nat → Nat → FieldType) (B : Nat) (S : am_Sh) (M : am_Me) (a k : Nat) : Value := match am_kd (ty (S.2.2.1 a) k) with
  | 1 => .long (M.2 a k)
  | 2 => va_rf ((S.2.2.2.2 a k).map (fun r => B + r))
  | _ => .int (M.1 a k)
def am_en (ty : Nat → Nat → FieldType) (cA : Nat → ClassId) (B : Nat) (S : am_Sh) (M : am_Me) (a : Nat) : va_E := match S.2.2.1 a with
  | 100 => .inl (cA 0, S.2.2.2.1 a, .inl (M.1 a))
  | 101 => .inl (cA 1, S.2.2.2.1 a, .inr (.inl (M.2 a)))
  | 102 => .inl (cA 2, S.2.2.2.1 a, .inl (M.1 a))
  | 103 => .inl (cA 3, S.2.2.2.1 a, .inr (.inr (.inr (.inr (fun k => (S.2.2.2.2 a k).map (fun r => B + r))))))
  | c => .inr (c, (List.range (S.2.2.2.1 a)).map (am_fv ty B S M a))
def am_wl (ty : Nat → Nat → FieldType) (cA : Nat → ClassId) (B : Nat) (S : am_Sh) (M : am_Me) : va_W := (List.range S.1).map (fun a => (B + a, am_en ty cA B S M a))
theorem am_wl_at {ty : Nat → Nat → FieldType} {cA : Nat → ClassId} {B : Nat} {S : am_Sh} {M : am_Me} {a : Nat} (h : a < S.1) : (am_wl ty cA B S M)[a]? = some (B + a, am_en ty cA B S M a) := by
  simp [am_wl, h]
theorem am_wl_of {ty : Nat → Nat → FieldType} {cA : Nat → ClassId} {B : Nat} {S : am_Sh} {M : am_Me} {a : Nat} {q : Nat × va_E} (h : (am_wl ty cA B S M)[a]? = some q) : a < S.1 ∧ q = (B + a, am_en ty cA B S M a) := by
  have h1 := (List.getElem?_eq_some_iff.mp h).1
  have h2 : a < S.1 := by simpa [am_wl] using h1
  rw [am_wl_at h2] at h
  exact ⟨h2, (Option.some.inj h).symm⟩
theorem am_wl_D (ty : Nat → Nat → FieldType) (cA : Nat → ClassId) (B : Nat) (S : am_Sh) (M : am_Me) : va_D (fun q => B ≤ q) (am_wl ty cA B S M) := by
  refine ⟨fun i j x y hi hj hxy => ?_, fun k q hk => ?_⟩
  · obtain ⟨-, rfl⟩ := am_wl_of hi
    obtain ⟨-, rfl⟩ := am_wl_of hj
    have : B + i = B + j := hxy
    omega
  · obtain ⟨-, rfl⟩ := am_wl_of hk
    exact Nat.le_add_right _ _
theorem am_wl_set {ty : Nat → Nat → FieldType} {cA : Nat → ClassId} {B : Nat} {S S' : am_Sh} {M M' : am_Me} {a : Nat} (hS : S'.1 = S.1) (h : ∀ j, j ≠ a → am_en ty cA B S' M' j = am_en ty cA B S M j) :
    (am_wl ty cA B S M).set a (B + a, am_en ty cA B S' M' a) = am_wl ty cA B S' M' := by
  apply List.ext_getElem?
  intro i
  by_cases hi : i < S.1
  · rw [am_wl_at (S := S') (by rw [hS]; exact hi)]
    by_cases e : i = a
    · subst e
      rw [List.getElem?_set_self (by simpa [am_wl] using hi)]
    · rw [List.getElem?_set_ne (Ne.symm e), am_wl_at hi, h i e]
  · rw [List.getElem?_eq_none (by simp [am_wl]; omega), List.getElem?_eq_none (by simp [am_wl]; omega)]
theorem am_wl_push {ty : Nat → Nat → FieldType} {cA : Nat → ClassId} {B : Nat} {S S' : am_Sh} {M M' : am_Me} (hS : S'.1 = S.1 + 1) (h : ∀ j, j < S.1 → am_en ty cA B S' M' j = am_en ty cA B S M j) :
    am_wl ty cA B S M ++ [(B + S.1, am_en ty cA B S' M' S.1)] = am_wl ty cA B S' M' := by
  unfold am_wl
  rw [hS, List.range_succ, List.map_append]
  congr 1
  apply List.map_congr_left
  intro j hj
  rw [h j (List.mem_range.mp hj)]
theorem am_en_c {ty : Nat → Nat → FieldType} {cA : Nat → ClassId} {B : Nat} {S S' : am_Sh} {M M' : am_Me} {j : Nat} (h1 : S'.2.2.1 j = S.2.2.1 j) (h2 : S'.2.2.2.1 j = S.2.2.2.1 j) (h3 : S'.2.2.2.2 j = S.2.2.2.2 j) (h4 : M'.1 j = M.1 j) (h5 : M'.2 j = M.2 j) : am_en ty cA B S' M' j = am_en ty cA B S M j := by
  unfold am_en
  have e : am_fv ty B S' M' j = am_fv ty B S M j := by
    funext k
    unfold am_fv
    rw [h1, h3, h4, h5]
  rw [h1, h2, h3, h4, h5, e]
def am_Lh (ls : Array Slot) (nL B b : Nat) (loc : am_Lo) : Prop := loc.length = nL ∧ ∃ lv : List (Nat × Value), lv_has ls nL lv ∧ ∀ (i : Nat) (v : Value), loc[i]? = some (some v) → (i, am_va B b v) ∈ lv
theorem am_Lh.at {ls : Array Slot} {nL B b : Nat} {loc : am_Lo} (h : am_Lh ls nL B b loc) {i : Nat} {v : Value} (hv : am_ld loc i = some v) : ls[i]? = some (.val (am_va B b v)) := by
  obtain ⟨-, lv, h1, h2⟩ := h
  unfold am_ld at hv
  split at hv
  · rename_i w hw
    cases hv
    exact h1.2.2 _ (h2 i v hw)
  · cases hv
theorem am_Lh.size {ls : Array Slot} {nL B b : Nat} {loc : am_Lo} (h : am_Lh ls nL B b loc) : ls.size = nL := by
  obtain ⟨-, lv, h1, -⟩ := h
  exact h1.1
theorem am_set_of {loc : am_Lo} {k i : Nat} {x : Option Value} {v : Value} (h : (loc.set k x)[i]? = some (some v)) : (i = k ∧ x = some v) ∨ (i ≠ k ∧ loc[i]? = some (some v)) := by
  by_cases e : i = k
  · subst e
    have hl := (List.getElem?_eq_some_iff.mp h).1
    rw [List.getElem?_set_self (by simpa using hl)] at h
    exact Or.inl ⟨rfl, Option.some.inj h⟩
  · rw [List.getElem?_set_ne (Ne.symm e)] at h
    exact Or.inr ⟨e, h⟩
theorem am_Lh.none {ls : Array Slot} {nL B b : Nat} {loc : am_Lo} (h : am_Lh ls nL B b loc) (k : Nat) : am_Lh ls nL B b (loc.set k none) := by
  obtain ⟨h0, lv, h1, h2⟩ := h
  refine ⟨by simpa using h0, lv, h1, fun i v hv => ?_⟩
  rcases am_set_of hv with ⟨-, e⟩ | ⟨-, e⟩
  · cases e
  · exact h2 i v e
theorem am_Lh.kill {ls : Array Slot} {nL B b : Nat} (ks : List Nat) : ∀ {loc : am_Lo}, am_Lh ls nL B b loc → am_Lh ls nL B b (am_kill ks loc) := by
  induction ks with
  | nil => exact fun h => h
  | cons k ks ih => exact fun h => ih (h.none k)
theorem am_c2_of {v : Value} {B b : Nat} (h : (am_va B b v).category = 2) : am_c2 (some v) = true := by
  rw [am_va_cat] at h
  cases v <;> first | rfl | cases h
theorem am_getD {loc : am_Lo} {i : Nat} {v : Value} (h : loc[i]? = some (some v)) : loc.getD i none = some v := by
  simp [List.getD, h]
theorem am_Lh.put1 {ls : Array Slot} {nL B b : Nat} {loc loc' : am_Lo} (h : am_Lh ls nL B b loc) {i : Nat} {v : Value} (hp : am_put1 loc i v = some loc') :
    i < nL ∧ ∃ lv : List (Nat × Value), lv_has ls nL lv ∧ (∀ (i : Nat) (v : Value), loc[i]? = some (some v) → (i, am_va B b v) ∈ lv) ∧ ∀ ls' : Array Slot, lv_has ls' nL ((i, am_va B b v) :: lv.filter (fun q => !(q.1 == i) && !(q.1 + 1 == i && q.2.category == 2))) → am_Lh ls' nL B b loc' := by
  obtain ⟨h0, lv, h1, h2⟩ := h
  unfold am_put1 at hp
  split at hp
  · rename_i hc
    cases hp
    refine ⟨by rw [← h0]; exact hc.1, lv, h1, h2, fun ls' hls => ⟨by simpa using h0, _, hls, fun j w hw => ?_⟩⟩
    rcases am_set_of hw with ⟨e, e2⟩ | ⟨e, e2⟩
    · cases e2
      rw [e]
      exact List.mem_cons_self
    · refine List.mem_cons_of_mem _ (List.mem_filter.mpr ⟨h2 j w e2, ?_⟩)
      simp only [Bool.and_eq_true, Bool.not_eq_true', beq_eq_false_iff_ne, ne_eq, Bool.and_eq_false_iff]
      refine ⟨e, ?_⟩
      by_cases e3 : j + 1 = i
      · right
        intro hcat
        rcases hc.2 with q | q
        · omega
        · rw [show i - 1 = j by omega, am_getD e2, am_c2_of hcat] at q
          cases q
      · exact Or.inl e3
  · cases hp
theorem am_Lh.put2 {ls : Array Slot} {nL B b : Nat} {loc loc' : am_Lo} (h : am_Lh ls nL B b loc) {i : Nat} {v : Value} (hp : am_put2 loc i v = some loc') :
    i + 1 < nL ∧ ∃ lv : List (Nat × Value), lv_has ls nL lv ∧ ∀ ls' : Array Slot, lv_has ls' nL ((i, am_va B b v) :: lv.filter (fun q => !(q.1 == i) && (!(q.1 == i + 1) && !(q.1 + 1 == i && q.2.category == 2)))) → am_Lh ls' nL B b loc' := by
  obtain ⟨h0, lv, h1, h2⟩ := h
  unfold am_put2 at hp
  split at hp
  · rename_i hc
    cases hp
    refine ⟨by rw [← h0]; exact hc.1, lv, h1, fun ls' hls => ⟨by simpa using h0, _, hls, fun j w hw => ?_⟩⟩
    rcases am_set_of hw with ⟨-, e2⟩ | ⟨e0, hw⟩
    · cases e2
    rcases am_set_of hw with ⟨e, e2⟩ | ⟨e, e2⟩
    · cases e2
      rw [e]
      exact List.mem_cons_self
    · refine List.mem_cons_of_mem _ (List.mem_filter.mpr ⟨h2 j w e2, ?_⟩)
      simp only [Bool.and_eq_true, Bool.not_eq_true', beq_eq_false_iff_ne, ne_eq, Bool.and_eq_false_iff]
      refine ⟨e, e0, ?_⟩
      by_cases e3 : j + 1 = i
      · right
        intro hcat
        rcases hc.2 with q | q
        · omega
        · rw [show i - 1 = j by omega, am_getD e2, am_c2_of hcat] at q
          cases q
      · exact Or.inl e3
  · cases hp
def am_Wd (D : va_G) (cl : List vw_C) (ty : Nat → Nat → FieldType) (cA : Nat → ClassId) (B : Nat) (S : am_Sh) (M : am_Me) (H0 H : Heap) (locs : List Loc) : Prop :=
  va_P D cl (am_wl ty cA B S M) H ∧ H.size = B + S.1 ∧ va_S (fun q => B ≤ q) H0 H locs
def am_tys (cA : Nat → ClassId) : List (ClassId × FieldType) := [(cA 0, .int), (cA 1, .long), (cA 2, .boolean), (cA 3, .array .int)]
/-- what the tables say of each class of the list -/
def am_okC (Tb : List Cond) (cl : List vw_C) (ty : Nat → Nat → FieldType) : Prop := ∀ (ci : Nat) (q : vw_C), cl[ci]? = some q →
  ci < 100 ∧ (∀ w ∈ u_ws q.1 q.2.1 q.2.2, w ∈ Tb) ∧ (∀ k, k < q.2.2 → parseFieldDescriptor (q.2.1 k).2.2.1 = some (ty ci k)) ∧ (∀ a, a < q.2.2 → ∀ b, b < q.2.2 → a ≠ b → (q.2.1 a).2.1 ≠ (q.2.1 b).2.1) ∧ Cond.instantiable q.1 q.2.2 ∈ Tb ∧ Cond.initialized q.1 ∈ Tb
def am_Cx (p : Program) (R : Room) (s : State) (m : MethodId) (args : Array Value) (meth : Method) (c : Code) (H0 : Heap) (Tb : List Cond) (cl : List vw_C) (ty : Nat → Nat → FieldType) (D : va_G) (cA : Nat → ClassId) (B b nL : Nat) (X : am_X) (mi : Nat) (y : MethodName) (cc : ByteArray) (dp : Nat × Nat) : Prop :=
  p.tables.exec = Jvm.exec ∧ c.code = cc ∧ c.maxLocals = nL ∧ s.vm.findClass y.cls = some m.cls ∧ (∀ w ∈ Tb, w.before args s = true) ∧ va_K D cl (am_tys cA) s ∧ B ≤ H0.size ∧ meth.name = y.name ∧ (mi = 0 → va_X b X.1 X.2 s H0 ∧ b < H0.size ∧ b < B) ∧ am_okC Tb cl ty ∧ (dp.1 ≤ R.frames ∧ dp.2 ≤ R.locals) ∧ (Cond.arrayClass .int ∈ Tb ∧ Cond.arrayClass .long ∈ Tb ∧ Cond.arrayClass .boolean ∈ Tb)
def am_len : Instr → Nat
  | .bipush _ => 2
  | .sipush _ => 3
  | .ldc _ => 2
  | .ldc_w _ => 3
  | .ldc2_w _ => 3
  | .iload _ => 2
  | .lload _ => 2
  | .aload _ => 2
  | .istore _ => 2
  | .lstore _ => 2
  | .astore _ => 2
  | .iinc _ _ => 3
  | .goto _ => 3
  | .ifCond _ _ => 3
  | .if_icmp _ _ => 3
  | .getfield _ => 3
  | .putfield _ => 3
  | .new _ => 3
  | .newarray _ => 2
  | .multianewarray _ _ => 4
  | .invokestatic _ => 3
  | .invokevirtual _ => 3
  | .invokespecial _ => 3
  | _ => 1
def am_in? (Tb : List Cond) (k : Nat) (w : Cond) : Bool := decide (Tb[k]? = some w)
theorem am_in_of {Tb : List Cond} {k : Nat} {w : Cond} (h : am_in? Tb k w = true) : w ∈ Tb := List.mem_of_getElem? (of_decide_eq_true h)
def am_okF (Tb : List Cond) (cl : List vw_C) (ty : Nat → Nat → FieldType) (y : MethodName) (idx : Nat) (ps : List Nat) (put : Bool) : Bool := match cl[ps.getD 0 0]? with
  | some r => decide (ps.getD 1 0 < r.2.2) && am_in? Tb (ps.getD 3 0) (.fieldLink y.cls idx (r.2.1 (ps.getD 1 0)).1 (r.2.1 (ps.getD 1 0)).2.1 (r.2.1 (ps.getD 1 0)).2.2.1) && (ps.getD 2 0 == am_kd (ty (ps.getD 0 0) (ps.getD 1 0))) && decide (ps.getD 2 0 ≤ 3) &&
    (!put || !(r.2.1 (ps.getD 1 0)).2.2.2 || (decide (y.name = "<init>") && decide ((r.2.1 (ps.getD 1 0)).1 = y.cls)))
  | none => false
/-- a call's words: the callee, its place among the tables' words, its room -/
def am_okZ (Tb : List Cond) (z : am_Mt) (dp : Nat × Nat) (np : Nat) (ps : List Nat) : Bool :=
  decide ((parseMethodDescriptor z.1.desc).map (fun d => d.parameters.length) = some np) && decide (z.2.2.2.2.1.1 + 1 ≤ dp.1) && decide (8 + (z.2.2.1 + 11) + z.2.2.2.2.1.2 ≤ dp.2) && am_in? Tb (ps.getD 7 0) (.initialized z.1.cls) && am_in? Tb (ps.getD 8 0) (.code z.1 z.2.1 z.2.2.1 z.2.2.2.1) &&
    decide (z.1.cls ≠ "java/lang/invoke/MethodHandle") && decide (z.1.cls ≠ "java/lang/invoke/VarHandle") && decide (ps.getD 0 0 ≠ 0)
def am_okL (Tb : List Cond) (cl : List vw_C) (ty : Nat → Nat → FieldType) (G : am_G) (y : MethodName) (ret : Option FieldType) (dp : Nat × Nat) (pc : Nat) (ins : Instr) (ps : List Nat) : Bool := match ins with
  | .ldc idx => am_in? Tb (ps.getD 2 0) (.constant y.cls idx (Int32.ofInt ((ps.getD 0 0 : Nat) - (ps.getD 1 0 : Nat) : Int)))
  | .ldc_w idx => am_in? Tb (ps.getD 2 0) (.constant y.cls idx (Int32.ofInt ((ps.getD 0 0 : Nat) - (ps.getD 1 0 : Nat) : Int)))
  | .ldc2_w idx => am_in? Tb (ps.getD 2 0) (.constantLong y.cls idx (Int64.ofInt ((ps.getD 0 0 : Nat) - (ps.getD 1 0 : Nat) : Int)))
  | .goto off => decide (0 ≤ (pc : Int) + off)
  | .ifCond _ off => decide (0 ≤ (pc : Int) + off)
  | .if_icmp _ off => decide (0 ≤ (pc : Int) + off)
  | .tableswitch d _ _ offs => decide (0 ≤ (pc : Int) + d) && offs.all (fun o => decide (0 ≤ (pc : Int) + o))
  | .getfield idx => am_okF Tb cl ty y idx ps false
  | .putfield idx => am_okF Tb cl ty y idx ps true
  | .new idx => (match cl[ps.getD 0 0]? with
    | some r => decide (ps.getD 1 0 = r.2.2) && am_in? Tb (ps.getD 2 0) (.classLink y.cls idx r.1) && (List.range r.2.2).all (fun k => decide (am_kd (ty (ps.getD 0 0) k) ≤ 3))
    | none => false)
  | .multianewarray idx _ => am_in? Tb (ps.getD 0 0) (.classLink y.cls idx "[[I") && am_in? Tb (ps.getD 1 0) (.arrayOver (.array .int))
  | .invokestatic idx => if ps.getD 3 0 = 9 then am_in? Tb (ps.getD 4 0) (.methodLink y.cls idx arraycopyName) && am_in? Tb (ps.getD 5 0) (.native arraycopyName) && am_in? Tb (ps.getD 6 0) (.static arraycopyName) && am_in? Tb (ps.getD 7 0) (.initialized "java/lang/System") && decide (1 ≤ dp.1) && decide (26 ≤ dp.2)
    else (match G (ps.getD 0 0) with
    | some z => am_in? Tb (ps.getD 4 0) (.methodLink y.cls idx z.1) && am_in? Tb (ps.getD 5 0) (.static z.1) && am_okZ Tb z dp (ps.getD 1 0) ps
    | none => false)
  | .invokevirtual idx => (match G (ps.getD 0 0), cl[ps.getD 2 0]? with
    | some z, some r => am_in? Tb (ps.getD 4 0) (.methodLink y.cls idx z.1) && am_in? Tb (ps.getD 5 0) (.instanceMethod z.1) && am_in? Tb (ps.getD 6 0) (.selects z.1.cls z.1 z.1) && decide (r.1 = z.1.cls) && decide (1 ≤ ps.getD 1 0) && am_okZ Tb z dp (ps.getD 1 0 - 1) ps
    | _, _ => false)
  | .invokespecial idx => if ps.getD 3 0 = 9 then am_in? Tb (ps.getD 4 0) (.methodLink y.cls idx Lib.objectInit) && am_in? Tb (ps.getD 5 0) (.instanceMethod Lib.objectInit) && am_in? Tb (ps.getD 6 0) (.code Lib.objectInit ⟨#[0xb1]⟩ 1 none) && decide (1 ≤ dp.1) && decide (20 ≤ dp.2)
    else (match G (ps.getD 0 0) with
    | some z => (am_in? Tb (ps.getD 4 0) (.methodLink y.cls idx z.1) || am_in? Tb (ps.getD 4 0) (.methodLinkNest y.cls idx z.1 "WordsKnown")) && am_in? Tb (ps.getD 5 0) (.instanceMethod z.1) && decide (z.1.name = "<init>") && decide (z.2.2.2.1 = none) && decide (1 ≤ ps.getD 1 0) && am_okZ Tb z dp (ps.getD 1 0 - 1) ps
    | none => false)
  | .ireturn => (decide (ret = some .int) && (ps.getD 0 0 == 0)) || (decide (ret = some .boolean) && (ps.getD 0 0 == 3))
  | .lreturn => decide (ret = some .long)
  | .areturn => decide (ret = some (.array .int))
  | .return_ => decide (ret = none)
  | _ => true
def am_isT : Instr → Bool
  | .tableswitch _ _ _ _ => true
  | _ => false
def am_ok (Tb : List Cond) (cl : List vw_C) (ty : Nat → Nat → FieldType) (G : am_G) (y : MethodName) (cc : ByteArray) (ret : Option FieldType) (dp : Nat × Nat) (pc : Nat) (i : am_I) : Bool :=
  decide (decode cc pc = .ok (i.1, i.2.1)) && (am_isT i.1 || (i.2.1 == am_len i.1)) && am_okL Tb cl ty G y ret dp pc i.1 i.2.2
theorem am_call_no {pc len c n : Nat} {st : List Value} {rv : Bool} {ok : List Value → Bool} {t : am_St} : am_call pc len c n st rv ok ≠ some (.inl t) := by
  unfold am_call
  dsimp only
  split <;> simp
theorem am_ins_le {X : am_X} {mi : Nat} {ins : Instr} {len : Nat} {ps : List Nat} {pc : Nat} {loc : am_Lo} {st : List Value} {S : am_Sh} {M : am_Me} {t : am_St} (hn : am_ins X mi ins len ps pc loc st S M = some (.inl t)) : S.1 ≤ t.2.2.2.1.1 ∧ S.2.1 ≤ t.2.2.2.1.2.1 := by
  have hadds : ∀ (S : am_Sh) (k n : Nat), S.1 ≤ (am_adds S k n).1 ∧ S.2.1 ≤ (am_adds S k n).2.1 := by
    intro S k n
    induction n with
    | zero => exact ⟨Nat.le_refl _, Nat.le_refl _⟩
    | succ n ih =>
      obtain ⟨i1, i2⟩ := ih
      exact ⟨Nat.le_trans i1 (Nat.le_succ _), Nat.le_trans i2 (Nat.le_add_right _ _)⟩
  cases ins <;> simp only [am_ins, am_ii, am_ll, am_load, am_store, am_nx] at hn <;>
    first
    | (cases hn; done)
    | exact absurd hn am_call_no
    | ((repeat' split at hn) <;> first
      | (cases hn; done)
      | exact absurd hn am_call_no
      | (cases hn; exact ⟨Nat.le_refl _, Nat.le_refl _⟩)
      | (cases hn; exact ⟨Nat.le_succ _, Nat.le_add_right _ _⟩)
      | (cases hn
         exact ⟨Nat.le_trans (Nat.le_succ _) (hadds (am_add S 103 _ _) _ _).1, Nat.le_trans (Nat.le_add_right _ _) (hadds (am_add S 103 _ _) _ _).2⟩))
