/-! the steps that make cells; System.arraycopy; Object.<init> -/
section AMN
variable {p : Program} {l : Launch} {e : Env} {R : Room} {s : State} {m : MethodId} {args : Array Value} {below : List Frame} {meth : Method} {c : Code} {H H0 : Heap} {locs : List Loc} {cells slots : Nat} {Q : State → Prop}
variable {cc : ByteArray} {ls : Array Slot} {D : va_G} {cl : List vw_C} {ty : Nat → Nat → FieldType} {cA : Nat → ClassId} {B b nL mi : Nat} {X : am_X} {y : MethodName} {Tb : List Cond} {dp : Nat × Nat} {G : am_G} {ret : Option FieldType}
variable {len : Nat} {ps : List Nat} {pc : Nat} {loc : am_Lo} {st : List Value} {S : am_Sh} {M : am_Me} {t : am_St}
theorem am_getD_map {n j : Nat} {g : Nat → Value} (h : j < n) : vp_V ((List.range n).map g) j = g j := by
  simp [vp_V, h]
theorem am_Wd_push {S' : am_Sh} {M' : am_Me} {H1 : Heap} (hw : am_Wd D cl ty cA B S M H0 H locs) (hS' : S'.1 = S.1 + 1) (hen : ∀ j, j < S.1 → am_en ty cA B S' M' j = am_en ty cA B S M j) (he : va_at D cl (B + S.1, am_en ty cA B S' M' S.1) H1) (z1 : H1.size = B + S.1 + 1) (o1 : ∀ q : Nat, q < B + S.1 → H1[q]? = H[q]?) : am_Wd D cl ty cA B S' M' H0 H1 locs := by
  obtain ⟨w1, w2, w3⟩ := hw
  refine ⟨fun k q hk => ?_, by rw [z1, hS']; rfl, ⟨Nat.le_trans w3.1 (by omega), fun x h1 h2 => (o1 x (by have := w3.1; omega)).trans (w3.2.1 x h1 h2), w3.2.2⟩⟩
  obtain ⟨hlt, rfl⟩ := am_wl_of hk
  rcases Nat.lt_or_ge k S.1 with h | h
  · rw [hen k h]
    exact (w1 k _ (am_wl_at h)).kept (o1 _ (by show B + k < B + S.1; omega))
  · obtain rfl : k = S.1 := by omega
    exact he
theorem am_add_en {j k len : Nat} {rf : Nat → Option Nat} (h : j < S.1) : am_en ty cA B (am_add S k len rf) (am_clr M S.1) j = am_en ty cA B S M j :=
  have h' : j ≠ S.1 := Nat.ne_of_lt h
  am_en_c (if_neg h') (if_neg h') (if_neg h') (if_neg h') (if_neg h')
theorem am_adds_facts (S : am_Sh) (k : Nat) : ∀ n : Nat, (am_adds S k n).1 = S.1 + n ∧ (am_adds S k n).2.1 = S.2.1 + n * k ∧ (∀ a, (a < S.1 ∨ S.1 + n ≤ a) → (am_adds S k n).2.2.1 a = S.2.2.1 a ∧ (am_adds S k n).2.2.2.1 a = S.2.2.2.1 a ∧ (am_adds S k n).2.2.2.2 a = S.2.2.2.2 a) ∧ (∀ a, S.1 ≤ a → a < S.1 + n → (am_adds S k n).2.2.1 a = 100 ∧ (am_adds S k n).2.2.2.1 a = k ∧ (am_adds S k n).2.2.2.2 a = fun _ => none)
  | 0 => ⟨rfl, by simp [am_adds], fun a _ => ⟨rfl, rfl, rfl⟩, fun a h1 h2 => by omega⟩
  | n + 1 => by
    obtain ⟨h1, h2, h3, h4⟩ := am_adds_facts S k n
    refine ⟨by show (am_adds S k n).1 + 1 = _; omega, by show (am_adds S k n).2.1 + k = _; rw [h2, Nat.succ_mul]; omega, fun a ha => ?_, fun a g1 g2 => ?_⟩
    · have hne : a ≠ (am_adds S k n).1 := by omega
      obtain ⟨q1, q2, q3⟩ := h3 a (by omega)
      exact ⟨(if_neg hne).trans q1, (if_neg hne).trans q2, (if_neg hne).trans q3⟩
    · by_cases e : a = (am_adds S k n).1
      · exact ⟨if_pos e, if_pos e, if_pos e⟩
      · obtain ⟨q1, q2, q3⟩ := h4 a g1 (by omega)
        exact ⟨(if_neg e).trans q1, (if_neg e).trans q2, (if_neg e).trans q3⟩
theorem am_clrs_facts (M : am_Me) (a : Nat) : ∀ n : Nat, (∀ b, (b < a ∨ a + n ≤ b) → (am_clrs M a n).1 b = M.1 b ∧ (am_clrs M a n).2 b = M.2 b) ∧ (∀ b, a ≤ b → b < a + n → (am_clrs M a n).1 b = fun _ => 0)
  | 0 => ⟨fun b _ => ⟨rfl, rfl⟩, fun b h1 h2 => by omega⟩
  | n + 1 => by
    obtain ⟨h1, h2⟩ := am_clrs_facts M a n
    refine ⟨fun b hb => ?_, fun b g1 g2 => ?_⟩
    · have hne : b ≠ a + n := by omega
      obtain ⟨q1, q2⟩ := h1 b (by omega)
      exact ⟨(if_neg hne).trans q1, (if_neg hne).trans q2⟩
    · by_cases e : b = a + n
      · exact if_pos e
      · exact (if_neg e).trans (h2 b g1 (by omega))
theorem am_r_new {n : Nat} (C : am_Cx p R s m args meth c H0 Tb cl ty D cA B b nL X mi y cc dp) (hok : am_ok Tb cl ty G y cc ret dp pc (.new n, len, ps) = true) (hl : am_Lh ls nL B b loc) (hw : am_Wd D cl ty cA B S M H0 H locs) (hn : am_ins X mi (.new n) len ps pc loc st S M = some (.inl t)) (hcs : s.heap.size + cells = B + S.1) (hc1 : cells + (t.2.2.2.1.1 - S.1) ≤ R.cells) (hc2 : slots + (t.2.2.2.1.2.1 - S.2.1) ≤ R.slots)
    (kk : am_K p l e R s m args below meth c H0 cells slots Q D cl ty cA B b nL S t) : W p l e R s m args below meth c H locs cells slots Q (F0 m pc ls (st.map (am_va B b))) := by
  obtain ⟨hx, hb, hml, hown, hts, hK, hBH, hnm, hX, hokC, hR, hAC⟩ := C
  have hdg := am_ok_dec hok rfl
  have hL := am_ok_l hok
  simp only [am_okL] at hL
  split at hL
  · rename_i q hq
    simp only [Bool.and_eq_true, decide_eq_true_eq, List.all_eq_true, List.mem_range] at hL
    obtain ⟨⟨hN, hlk⟩, hkd⟩ := hL
    obtain ⟨o1, o2, o3, o4, o5, o6⟩ := hokC _ q hq
    cases hn
    have hc1' : cells + 1 ≤ R.cells := by
      have : (am_add S (ps.getD 0 0) (ps.getD 1 0) (fun _ => none)).1 = S.1 + 1 := rfl
      dsimp only at hc1
      omega
    have hc2' : slots + q.2.2 ≤ R.slots := by
      have : (am_add S (ps.getD 0 0) (ps.getD 1 0) (fun _ => none)).2.1 = S.2.1 + ps.getD 1 0 := rfl
      dsimp only at hc2
      omega
    have hKn := hK.1 _ _ hq
    refine W.newcK hx hb hown (hts _ (am_in_of hlk)) (hts _ o5) (hts _ o6) rfl hdg hc1' hc2' hKn.2.1 hw.2.1 fun H1 kC hkC e1 z1 o1' => ?_
    refine W.cs ?_ ?_ (kk H1 locs ls hl (am_Wd_push hw rfl (fun j hj => am_add_en hj) ?_ z1 o1'))
    · show cells + 1 = cells + (S.1 + 1 - S.1)
      omega
    · show slots + q.2.2 = slots + (S.2.1 + ps.getD 1 0 - S.2.1)
      omega
    · rw [am_en_ob (S := am_add S (ps.getD 0 0) (ps.getD 1 0) (fun _ => none)) (k0 := ps.getD 0 0) (if_pos rfl) o1]
      refine ⟨_, hq, (u_born (ty _) hts o2 hKn hkC e1 o3).to fun j hj => ?_⟩
      have hlen : (am_add S (ps.getD 0 0) (ps.getD 1 0) (fun _ => none)).2.2.2.1 S.1 = ps.getD 1 0 := if_pos rfl
      have hcl : (am_add S (ps.getD 0 0) (ps.getD 1 0) (fun _ => none)).2.2.1 S.1 = ps.getD 0 0 := if_pos rfl
      have hrf : (am_add S (ps.getD 0 0) (ps.getD 1 0) (fun _ => none)).2.2.2.2 S.1 = fun _ => none := if_pos rfl
      have hm1 : (am_clr M S.1).1 S.1 = fun _ => 0 := if_pos rfl
      have hm2 : (am_clr M S.1).2 S.1 = fun _ => 0 := if_pos rfl
      refine Eq.trans ?_ (am_getD_map (n := (am_add S (ps.getD 0 0) (ps.getD 1 0) (fun _ => none)).2.2.2.1 S.1) (j := j) (g := am_fv ty B (am_add S (ps.getD 0 0) (ps.getD 1 0) (fun _ => none)) (am_clr M S.1) S.1) (by rw [hlen]; omega)).symm
      unfold am_fv
      rw [hcl, hrf, hm1, hm2]
      have h3 := hkd j hj
      cases hty : ty (ps.getD 0 0) j <;> rw [hty] at h3 <;> first | rfl | (simp [am_kd] at h3; done)
  · cases hL
theorem am_r_newarray {t0 : ArrayType} (C : am_Cx p R s m args meth c H0 Tb cl ty D cA B b nL X mi y cc dp) (hok : am_ok Tb cl ty G y cc ret dp pc (.newarray t0, len, ps) = true) (hl : am_Lh ls nL B b loc) (hw : am_Wd D cl ty cA B S M H0 H locs) (hn : am_ins X mi (.newarray t0) len ps pc loc st S M = some (.inl t)) (hcs : s.heap.size + cells = B + S.1) (hc1 : cells + (t.2.2.2.1.1 - S.1) ≤ R.cells) (hc2 : slots + (t.2.2.2.1.2.1 - S.2.1) ≤ R.slots)
    (kk : am_K p l e R s m args below meth c H0 cells slots Q D cl ty cA B b nL S t) : W p l e R s m args below meth c H locs cells slots Q (F0 m pc ls (st.map (am_va B b))) := by
  obtain ⟨hx, hb, hml, hown, hts, hK, hBH, hnm, hX, hokC, hR, hAC⟩ := C
  have hdg := am_ok_dec hok rfl
  simp only [am_ins, am_nx] at hn
  split at hn
  · rename_i n r
    split at hn
    · rename_i hcond
      obtain ⟨hn0, hbig⟩ := hcond
      split at hn
      · cases hn
        have hc1' : cells + 1 ≤ R.cells := by
          have : (am_add S 100 n.toNatClampNeg (fun _ => none)).1 = S.1 + 1 := rfl
          dsimp only at hc1
          omega
        have hc2' : slots + n.toNatClampNeg ≤ R.slots := by
          have : (am_add S 100 n.toNatClampNeg (fun _ => none)).2.1 = S.2.1 + n.toNatClampNeg := rfl
          dsimp only at hc2
          omega
        refine va_newaK (atype := .int) hx hb (hts _ hAC.1) rfl hdg rfl hn0 rfl (by show n.toNatClampNeg * 4 ≤ _; omega) hc1' hc2' hw.2.1 fun H1 cA' e1 z1 o1 hAr hNm => ?_
        have ec : cA' = cA 0 := Option.some.inj (hNm.symm.trans (hK.2 0 _ rfl).2)
        subst ec
        refine W.cs ?_ ?_ (kk H1 locs ls hl (am_Wd_push hw rfl (fun j hj => am_add_en hj) ?_ z1 o1))
        · show cells + 1 = cells + (S.1 + 1 - S.1); omega
        · show slots + n.toNatClampNeg = slots + (S.2.1 + n.toNatClampNeg - S.2.1); omega
        · rw [am_en_i (S := am_add S 100 n.toNatClampNeg (fun _ => none)) (if_pos rfl)]
          show H1[B + S.1]? = some (vp_cell _ _)
          rw [e1, show (am_add S 100 n.toNatClampNeg (fun _ => none)).2.2.2.1 S.1 = n.toNatClampNeg from if_pos rfl, show (am_clr M S.1).1 S.1 = (fun _ => 0) from if_pos rfl]
          rfl
      · cases hn
        have hc1' : cells + 1 ≤ R.cells := by
          have : (am_add S 101 n.toNatClampNeg (fun _ => none)).1 = S.1 + 1 := rfl
          dsimp only at hc1
          omega
        have hc2' : slots + n.toNatClampNeg ≤ R.slots := by
          have : (am_add S 101 n.toNatClampNeg (fun _ => none)).2.1 = S.2.1 + n.toNatClampNeg := rfl
          dsimp only at hc2
          omega
        refine va_newaK (atype := .long) hx hb (hts _ hAC.2.1) rfl hdg rfl hn0 rfl (by show n.toNatClampNeg * 8 ≤ _; omega) hc1' hc2' hw.2.1 fun H1 cA' e1 z1 o1 hAr hNm => ?_
        have ec : cA' = cA 1 := Option.some.inj (hNm.symm.trans (hK.2 1 _ rfl).2)
        subst ec
        refine W.cs ?_ ?_ (kk H1 locs ls hl (am_Wd_push hw rfl (fun j hj => am_add_en hj) ?_ z1 o1))
        · show cells + 1 = cells + (S.1 + 1 - S.1); omega
        · show slots + n.toNatClampNeg = slots + (S.2.1 + n.toNatClampNeg - S.2.1); omega
        · rw [am_en_l (S := am_add S 101 n.toNatClampNeg (fun _ => none)) (if_pos rfl)]
          show H1[B + S.1]? = some (vp_cell _ _)
          rw [e1, show (am_add S 101 n.toNatClampNeg (fun _ => none)).2.2.2.1 S.1 = n.toNatClampNeg from if_pos rfl, show (am_clr M S.1).2 S.1 = (fun _ => 0) from if_pos rfl]
          rfl
      · cases hn
        have hc1' : cells + 1 ≤ R.cells := by
          have : (am_add S 102 n.toNatClampNeg (fun _ => none)).1 = S.1 + 1 := rfl
          dsimp only at hc1
          omega
        have hc2' : slots + n.toNatClampNeg ≤ R.slots := by
          have : (am_add S 102 n.toNatClampNeg (fun _ => none)).2.1 = S.2.1 + n.toNatClampNeg := rfl
          dsimp only at hc2
          omega
        refine va_newaK (atype := .boolean) hx hb (hts _ hAC.2.2) rfl hdg rfl hn0 rfl (by show n.toNatClampNeg * 1 ≤ _; omega) hc1' hc2' hw.2.1 fun H1 cA' e1 z1 o1 hAr hNm => ?_
        have ec : cA' = cA 2 := Option.some.inj (hNm.symm.trans (hK.2 2 _ rfl).2)
        subst ec
        refine W.cs ?_ ?_ (kk H1 locs ls hl (am_Wd_push hw rfl (fun j hj => am_add_en hj) ?_ z1 o1))
        · show cells + 1 = cells + (S.1 + 1 - S.1); omega
        · show slots + n.toNatClampNeg = slots + (S.2.1 + n.toNatClampNeg - S.2.1); omega
        · rw [am_en_z (S := am_add S 102 n.toNatClampNeg (fun _ => none)) (if_pos rfl)]
          show H1[B + S.1]? = some (vp_cell _ _)
          rw [e1, show (am_add S 102 n.toNatClampNeg (fun _ => none)).2.2.2.1 S.1 = n.toNatClampNeg from if_pos rfl, show (am_clr M S.1).1 S.1 = (fun _ => 0) from if_pos rfl]
          rfl
      · cases hn
    · cases hn
  · cases hn
theorem am_outer (c0 : ClassId) (N h0 : Nat) : ∀ i : Nat, Jvm.Free.Multi.outerC c0 N h0 i = arrV c0 N (fun j => va_rf (if j < i then some (h0 + 1 + j) else none))
  | 0 => by
    show ({ cls := c0, slots := Array.replicate N .null, vm := .none } : Cell) = _
    rw [arrV_new]
    exact congrArg (arrV c0 N) (funext fun j => by rw [if_neg (Nat.not_lt_zero j)]; rfl)
  | i + 1 => by
    show (Jvm.Free.Multi.outerC c0 N h0 i).setSlot i (.ref (h0 + 1 + i)) = _
    rw [am_outer c0 N h0 i, arrV_store]
    refine congrArg (arrV c0 N) (funext fun j => ?_)
    by_cases e : j = i
    · subst e
      rw [if_pos (Nat.lt_succ_self j)]
      exact if_pos rfl
    · rw [show updV (fun j => va_rf (if j < i then some (h0 + 1 + j) else none)) i (.ref (h0 + 1 + i)) j = va_rf (if j < i then some (h0 + 1 + j) else none) from if_neg e]
      by_cases h : j < i
      · rw [if_pos h, if_pos (Nat.lt_succ_of_lt h)]
      · rw [if_neg h, if_neg (by omega)]
theorem am_r_multianewarray {idx dm : Nat} (C : am_Cx p R s m args meth c H0 Tb cl ty D cA B b nL X mi y cc dp) (hok : am_ok Tb cl ty G y cc ret dp pc (.multianewarray idx dm, len, ps) = true) (hl : am_Lh ls nL B b loc) (hw : am_Wd D cl ty cA B S M H0 H locs) (hn : am_ins X mi (.multianewarray idx dm) len ps pc loc st S M = some (.inl t)) (hcs : s.heap.size + cells = B + S.1) (hc1 : cells + (t.2.2.2.1.1 - S.1) ≤ R.cells) (hc2 : slots + (t.2.2.2.1.2.1 - S.2.1) ≤ R.slots)
    (kk : am_K p l e R s m args below meth c H0 cells slots Q D cl ty cA B b nL S t) : W p l e R s m args below meth c H locs cells slots Q (F0 m pc ls (st.map (am_va B b))) := by
  obtain ⟨hx, hb, hml, hown, hts, hK, hBH, hnm, hX, hokC, hR, hAC⟩ := C
  have hdg := am_ok_dec hok rfl
  have hL := am_ok_l hok
  simp only [am_okL, Bool.and_eq_true] at hL
  obtain ⟨hlk, hov⟩ := hL
  simp only [am_ins, am_nx] at hn
  split at hn
  · rename_i k n r
    split at hn
    · rename_i hcond
      obtain ⟨rfl, hn0, hk0, hbn, hbk⟩ := hcond
      cases hn
      generalize hrf : (fun j => if j < n.toNatClampNeg then some (S.1 + 1 + j) else none) = rf at hc1 hc2 kk
      obtain ⟨a1, a2, a3, a4⟩ := am_adds_facts (am_add S 103 n.toNatClampNeg rf) k.toNatClampNeg n.toNatClampNeg
      obtain ⟨m1, m2⟩ := am_clrs_facts (am_clr M S.1) (S.1 + 1) n.toNatClampNeg
      have b1 : (am_add S 103 n.toNatClampNeg rf).1 = S.1 + 1 := rfl
      have b2 : (am_add S 103 n.toNatClampNeg rf).2.1 = S.2.1 + n.toNatClampNeg := rfl
      dsimp only at hc1 hc2
      rw [a1, b1] at hc1
      rw [a2, b2] at hc2
      intro T hT Xs
      obtain ⟨vm₁, cO, comp, -, fA, fC, hO, -, X', step⟩ := Xs.multianewarray2F hx (ty := .int) hown (hts _ (am_in_of hlk)) (hts _ (am_in_of hov)) (hts _ hAC.1) (g := F0 m pc ls (.int k :: .int n :: r.map (am_va B b))) rfl (by rw [hb]; exact hdg) rfl hn0 hk0 (by omega) (by show k.toNatClampNeg * 4 ≤ _; omega) (by omega) rfl rfl (by omega) (by omega)
      have ec : comp = cA 0 := Option.some.inj (fC.symm.trans (hK.2 0 _ rfl).2)
      have eo : cO = cA 3 := Option.some.inj (fA.symm.trans (hK.2 3 _ rfl).2)
      subst ec
      subst eo
      generalize hF : Jvm.Free.Multi.fill (T.setVm vm₁) (cA 3) (cA 0) n.toNatClampNeg k.toNatClampNeg (defaultValue .int) n.toNatClampNeg = F at X' step
      have hTh : (T.setVm vm₁).heap = H := hT
      obtain ⟨f1, f2, -, -⟩ := Jvm.Free.Multi.fill_facts (T.setVm vm₁) (cA 3) (cA 0) n.toNatClampNeg k.toNatClampNeg (defaultValue .int) n.toNatClampNeg
      rw [hF, hTh] at f1 f2
      obtain ⟨w1, w2, w3⟩ := hw
      rw [w2] at f1 f2
      have hold : ∀ x : Nat, x < B + S.1 → F.heap[x]? = H[x]? := fun x hx' => by
        have := Jvm.Free.Multi.fill_old (T.setVm vm₁) (cA 3) (cA 0) n.toNatClampNeg k.toNatClampNeg (defaultValue .int) (a := x) (by rw [hTh, w2]; exact hx') n.toNatClampNeg
        rw [hF, hTh] at this
        exact this
      have hrow : ∀ j : Nat, j < n.toNatClampNeg → F.heap[B + S.1 + 1 + j]? = some (Jvm.Free.Multi.innerC (cA 0) k.toNatClampNeg (defaultValue .int)) := fun j hj => by
        have := Jvm.Free.Multi.fill_inner (T.setVm vm₁) (cA 3) (cA 0) n.toNatClampNeg k.toNatClampNeg (defaultValue .int) n.toNatClampNeg j hj
        rw [hF, hTh, w2] at this
        exact this
      have hWd : am_Wd D cl ty cA B (am_adds (am_add S 103 n.toNatClampNeg rf) k.toNatClampNeg n.toNatClampNeg) (am_clrs (am_clr M S.1) (S.1 + 1) n.toNatClampNeg) H0 F.heap locs := by
        refine ⟨fun i q hq => ?_, by rw [f1, a1, b1]; omega, ⟨Nat.le_trans w3.1 (by omega), fun x h1 h2 => (hold x (by have := w3.1; omega)).trans (w3.2.1 x h1 h2), w3.2.2⟩⟩
        obtain ⟨hlt, rfl⟩ := am_wl_of hq
        rw [a1, b1] at hlt
        rcases Nat.lt_trichotomy i S.1 with h | h | h
        · obtain ⟨q1, q2, q3⟩ := a3 i (Or.inl (by rw [b1]; omega))
          obtain ⟨q4, q5⟩ := m1 i (Or.inl (by omega))
          rw [am_en_c q1 q2 q3 q4 q5, am_add_en h]
          exact (w1 i _ (am_wl_at h)).kept (hold _ (by show B + i < B + S.1; omega))
        · subst h
          obtain ⟨q1, q2, q3⟩ := a3 S.1 (Or.inl (by rw [b1]; omega))
          rw [am_en_a (by rw [q1]; exact if_pos rfl)]
          show F.heap[B + S.1]? = some (vp_cell _ _)
          rw [f2, am_outer, vp_cell_q, q2, q3, show (am_add S 103 n.toNatClampNeg rf).2.2.2.1 S.1 = n.toNatClampNeg from if_pos rfl, show (am_add S 103 n.toNatClampNeg rf).2.2.2.2 S.1 = rf from if_pos rfl, ← hrf]
          congr 2
          funext j
          by_cases hj : j < n.toNatClampNeg
          · simp only [if_pos hj, Option.map]
            congr 2
            omega
          · simp only [if_neg hj, Option.map]
        · obtain ⟨q1, q2, q3⟩ := a4 i (by rw [b1]; omega) (by rw [b1]; omega)
          have q4 := m2 i (by omega) (by omega)
          rw [am_en_i q1, q2, q4]
          show F.heap[B + i]? = some (vp_cell _ _)
          rw [show B + i = B + S.1 + 1 + (i - (S.1 + 1)) by omega, hrow _ (by omega)]
          show some ({ cls := cA 0, slots := Array.replicate k.toNatClampNeg _, vm := .none } : Cell) = _
          rw [arrV_new]
          rfl
      have k1 := kk F.heap locs ls hl hWd
      obtain ⟨t, g1, g2⟩ := (W.cs (cells' := cells + ((am_adds (am_add S 103 n.toNatClampNeg rf) k.toNatClampNeg n.toNatClampNeg).1 - S.1)) (slots' := slots + ((am_adds (am_add S 103 n.toNatClampNeg rf) k.toNatClampNeg n.toNatClampNeg).2.1 - S.2.1)) (by rw [a1, b1]; omega) (by rw [a2, b2]; omega) k1) F rfl X'
      refine ⟨t, step t ?_, g2⟩
      have e9 : T.heap.size = B + S.1 := by rw [hT, w2]
      rw [e9]
      exact g1
    · cases hn
  · cases hn
theorem am_in_W (h : ∀ T : State, T.heap = H → Stand p l e R s m args below meth c T locs cells slots → W p l e R s m args below meth c H locs cells slots Q (F0 m pc ls [])) : W p l e R s m args below meth c H locs cells slots Q (F0 m pc ls []) := fun T hT X => h T hT X T hT X
theorem am_r_arraycopy {idx : Nat} (h9 : ps.getD 3 0 = 9) (C : am_Cx p R s m args meth c H0 Tb cl ty D cA B b nL X mi y cc dp) (hok : am_ok Tb cl ty G y cc ret dp pc (.invokestatic idx, len, ps) = true) (hl : am_Lh ls nL B b loc) (hw : am_Wd D cl ty cA B S M H0 H locs) (hn : am_ins X mi (.invokestatic idx) len ps pc loc st S M = some (.inl t)) (hcs : s.heap.size + cells = B + S.1) (hc1 : cells + (t.2.2.2.1.1 - S.1) ≤ R.cells) (hc2 : slots + (t.2.2.2.1.2.1 - S.2.1) ≤ R.slots)
    (kk : am_K p l e R s m args below meth c H0 cells slots Q D cl ty cA B b nL S t) : W p l e R s m args below meth c H locs cells slots Q (F0 m pc ls (st.map (am_va B b))) := by
  obtain ⟨hx, hb, hml, hown, hts, hK, hBH, hnm, hX, hokC, hR, hAC⟩ := C
  have hdg := am_ok_dec hok rfl
  have hL := am_ok_l hok
  simp only [am_okL, h9, if_true, Bool.and_eq_true, decide_eq_true_eq] at hL
  obtain ⟨⟨⟨⟨⟨l1, l2⟩, l3⟩, l4⟩, l5⟩, l6⟩ := hL
  simp only [am_ins, am_nx, h9] at hn
  split at hn
  · rename_i n dp' a1 sp a0 r
    split at hn
    · rename_i hcond
      obtain ⟨c1, c2, c3, c4, c5, c6, c7, c8, c9, c10⟩ := hcond
      cases hn
      have he0 := am_wl_at (ty := ty) (cA := cA) (B := B) (M := M) c1
      rw [am_en_i c2] at he0
      have he1 := am_wl_at (ty := ty) (cA := cA) (B := B) (M := M) c3
      rw [am_en_i c4] at he1
      have hset : (am_wl ty cA B S M).set a1 (B + a1, .inl (cA 0, S.2.2.2.1 a1, .inl (va_cpy (M.1 a0) (M.1 a1) sp.toNatClampNeg dp'.toNatClampNeg n.toNatClampNeg))) = am_wl ty cA B S (am_setA M a1 (va_cpy (M.1 a0) (M.1 a1) sp.toNatClampNeg dp'.toNatClampNeg n.toNatClampNeg)) := by
        rw [← am_wl_set (S := S) (M := M) (a := a1) (M' := am_setA M a1 (va_cpy (M.1 a0) (M.1 a1) sp.toNatClampNeg dp'.toNatClampNeg n.toNatClampNeg)) rfl (fun j hj => am_en_c rfl rfl rfl (if_neg hj) rfl)]
        rw [am_en_i c4, show (am_setA M a1 (va_cpy (M.1 a0) (M.1 a1) sp.toNatClampNeg dp'.toNatClampNeg n.toNatClampNeg)).1 a1 = _ from if_pos rfl]
      refine va_copyi (D := D) (ty := .int) hx hb (by rw [hml, hl.size]) hown (hts _ (am_in_of l1)) (hts _ (am_in_of l2)) (hts _ (am_in_of l3)) (hts _ (am_in_of l4)) hK hw.1 (am_wl_D ty cA B S M) hw.2.2 a0 a1 0 0 he0 he1 rfl rfl rfl c5 c6 c7 c8 c9 (fun i _ => rfl) (by omega) (by
        have e8 : ((r.map (am_va B b)).map fun v => v.category).sum = (r.map fun v => v.category).sum := by
          rw [List.map_map]
          congr 1
          exact List.map_congr_left (fun v _ => am_va_cat B b v)
        show ((r.map (am_va B b)).map fun v => v.category).sum + (5 + 2 + 11) ≤ R.locals
        rw [e8]
        omega) hdg fun H1 locs1 g1 g2 g3 => ?_
      intro T hT Xs
      have hz := Xs.heapSize
      rw [hset] at g1
      have hpos : 0 < S.1 := Nat.lt_of_le_of_lt (Nat.zero_le _) c3
      have hlow := (g1 (S.1 - 1) _ (am_wl_at (S := S) (Nat.sub_lt hpos Nat.one_pos))).lt
      have hlow' : B + (S.1 - 1) < H1.size := hlow
      rw [hT] at hz
      exact (kk.go hl ⟨g1, by omega, g3⟩ rfl rfl : W p l e R s m args below meth c H1 locs1 cells slots Q _) T hT Xs
    · cases hn
  · cases hn
theorem am_r_objinit {idx : Nat} (h9 : ps.getD 3 0 = 9) (C : am_Cx p R s m args meth c H0 Tb cl ty D cA B b nL X mi y cc dp) (hok : am_ok Tb cl ty G y cc ret dp pc (.invokespecial idx, len, ps) = true) (hl : am_Lh ls nL B b loc) (hw : am_Wd D cl ty cA B S M H0 H locs) (hn : am_ins X mi (.invokespecial idx) len ps pc loc st S M = some (.inl t)) (hcs : s.heap.size + cells = B + S.1) (hc1 : cells + (t.2.2.2.1.1 - S.1) ≤ R.cells) (hc2 : slots + (t.2.2.2.1.2.1 - S.2.1) ≤ R.slots)
    (kk : am_K p l e R s m args below meth c H0 cells slots Q D cl ty cA B b nL S t) : W p l e R s m args below meth c H locs cells slots Q (F0 m pc ls (st.map (am_va B b))) := by
  obtain ⟨hx, hb, hml, hown, hts, hK, hBH, hnm, hX, hokC, hR, hAC⟩ := C
  have hdg := am_ok_dec hok rfl
  have hL := am_ok_l hok
  simp only [am_okL, h9, if_true, Bool.and_eq_true, decide_eq_true_eq] at hL
  obtain ⟨⟨⟨⟨l1, l2⟩, l3⟩, l4⟩, l5⟩ := hL
  simp only [am_ins, am_nx, h9] at hn
  split at hn
  · rename_i a r
    split at hn
    · rename_i hcond
      cases hn
      have e8 : ((r.map (am_va B b)).map fun v => v.category).sum = (r.map fun v => v.category).sum := by
        rw [List.map_map]
        congr 1
        exact List.map_congr_left (fun v _ => am_va_cat B b v)
      refine W.objInit hx hb hown (hts _ (am_in_of l1)) (hts _ (am_in_of l2)) (hts _ (am_in_of l3)) (g := F0 m pc ls (.ref (B + a) :: r.map (am_va B b))) rfl (by rw [hml]; exact hl.size) rfl hdg (by omega) (by
        show 2 * 0 + ((r.map (am_va B b)).map fun v => v.category).sum + 12 ≤ R.locals
        rw [e8]
        omega) ?_
      exact kk.go hl hw rfl rfl
    · cases hn
  · cases hn
end AMN
