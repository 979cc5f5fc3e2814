/-! calls, and the whole run -/
section AMC
variable {p : Program} {l : Launch} {e : Env} {R : Room} {s : State} {m : MethodId} {args : Array Value} {below : List Frame} {meth : Method} {c : Code} {H H0 : Heap} {locs : List Loc} {cells slots : Nat} {Q : State → Prop}
variable {cc : ByteArray} {ls : Array Slot} {D : va_G} {cl : List vw_C} {ty : Nat → Nat → FieldType} {cA : Nat → ClassId} {B b nL mi : Nat} {X : am_X} {y : MethodName} {Tb : List Cond} {dp : Nat × Nat} {G : am_G} {ret : Option FieldType}
variable {len : Nat} {ps : List Nat} {pc : Nat} {loc : am_Lo} {st : List Value} {S : am_Sh} {M : am_Me} {t : am_St}
theorem am_pre_blind {as : List Value} : FrameBlind (va_Pc (as.map (am_va B b)) (fun U => va_P D cl (am_wl ty cA B S M) U.heap ∧ U.heap.size = B + S.1 ∧ va_K D cl (am_tys cA) U)) :=
  fun a U g mk q => ⟨q.1, q.2.1, q.2.2.1, va_K.moved (u := U) (U := U.calling g mk a) (Vm.Alike.refl U.vm) q.2.2.2⟩
/-- what a caller must show of the callee's words -/
theorem am_okZ_of {z : am_Mt} {np index : Nat} {mc ms : Nat} (hts : ∀ w ∈ Tb, w.before args s = true) (hgd : Tb.all goodWord = true) (hR : dp.1 ≤ R.frames ∧ dp.2 ≤ R.locals) (h : am_okZ Tb z dp np ps = true) :
    (({ frames := z.2.2.2.2.1.1, cells := mc, slots := ms, locals := z.2.2.2.2.1.2 } : Room).cells = mc ∧ ({ frames := z.2.2.2.2.1.1, cells := mc, slots := ms, locals := z.2.2.2.2.1.2 } : Room).slots = ms ∧ z.2.2.2.2.1.1 + 1 ≤ R.frames ∧ 8 + (z.2.2.1 + 11) + z.2.2.2.2.1.2 ≤ R.locals ∧ (∀ w ∈ (Cond.code z.1 z.2.1 z.2.2.1 z.2.2.2.1 :: Tb), ∀ (a' : Array Value) (U : State), s.WarmedH U.vm → w.before a' U = true) ∧ Cond.code z.1 z.2.1 z.2.2.1 z.2.2.2.1 ∈ (Cond.code z.1 z.2.1 z.2.2.1 z.2.2.2.1 :: Tb)) ∧
    (Cond.code z.1 z.2.1 z.2.2.1 z.2.2.2.1).before args s = true ∧ (Cond.initialized z.1.cls).before args s = true ∧ (z.1.cls ≠ "java/lang/invoke/MethodHandle" ∧ z.1.cls ≠ "java/lang/invoke/VarHandle") ∧ (∀ sig, parseMethodDescriptor z.1.desc = some sig → np = sig.parameters.length) ∧ ps.getD 0 0 ≠ 0 := by
  simp only [am_okZ, Bool.and_eq_true, decide_eq_true_eq] at h
  obtain ⟨⟨⟨⟨⟨⟨⟨h1, h2⟩, h3⟩, h4⟩, h5⟩, h6⟩, h7⟩, h8⟩ := h
  refine ⟨⟨rfl, rfl, by omega, by omega, pay_in hts (fun w hw => ?_), List.mem_cons_self⟩, hts _ (am_in_of h5), hts _ (am_in_of h4), ⟨h6, h7⟩, fun sig hs => ?_, h8⟩
  · rcases List.mem_cons.mp hw with e | e
    · rw [e]
      exact ⟨am_in_of h5, good_of_word (List.all_eq_true.mp hgd _ (am_in_of h5))⟩
    · exact ⟨e, good_of_word (List.all_eq_true.mp hgd _ e)⟩
  · rw [hs] at h1
    exact (Option.some.inj h1).symm
/-- behind a call -/
theorem am_behind {pc0 : Nat} {ls0 : Array Slot} {st0 rest : List Value} {r1 : am_Re} {rv : Bool} {st1 : List Value} {mc ms : Nat}
    (hr : va_Run p l e R s m args below meth c H locs cells slots mc ms (F0 m pc0 ls0 st0) (rest.map (am_va B b)) (fun st0 oc t0 => oc = .returned (r1.1.map (am_va B b)) ∧ va_P D cl (am_wl ty cA B r1.2.1 r1.2.2) t0.heap ∧ t0.heap.size = B + r1.2.1.1 ∧ va_F (fun q => B ≤ q) st0 t0) (fun q => B ≤ q))
    (hS : va_S (fun q => B ≤ q) H0 H locs) (hco : am_co rv r1.1 rest = some st1)
    (kk : ∀ (H1 : Heap) (locs1 : List Loc), am_Wd D cl ty cA B r1.2.1 r1.2.2 H0 H1 locs1 → W p l e R s m args below meth c H1 locs1 (cells + mc) (slots + ms) Q (F0 m (pc0 + 3) ls0 (st1.map (am_va B b)))) : W p l e R s m args below meth c H locs cells slots Q (F0 m pc0 ls0 st0) := by
  intro T hT X'
  obtain ⟨v, st₀, t, T', L, h0, X'', hL, e1, e2, ⟨hv, hP, hz, hF⟩, go⟩ := hr T hT X'
  have hv2 : v = r1.1.map (am_va B b) := by injection hv
  have hst : v.toList ++ rest.map (am_va B b) = st1.map (am_va B b) := by
    rw [hv2]
    cases rv <;> cases hr1 : r1.1 <;> rw [hr1] at hco <;> simp [am_co] at hco <;> subst hco <;> rfl
  have hF2 := hF
  unfold va_F at hF2
  rw [h0] at hF2
  have hW := kk T'.heap (locs ++ L) ⟨by rw [e1]; exact hP, by rw [e1]; exact hz, ⟨Nat.le_trans hS.1 (by rw [e1]; exact hF2.1), fun q h1 h2 => by rw [e1, hF2.2 q (Nat.lt_of_lt_of_le h1 hS.1) h2]; exact hS.2.1 q h1 h2, fun q hq => by
    rcases List.mem_append.mp hq with h | h
    · exact hS.2.2 q h
    · exact hL q h⟩⟩
  obtain ⟨t2, a1, b1⟩ := hW T' rfl X''
  refine ⟨t2, go t2 ?_, b1⟩
  show Steps p.tables e below (T'.setTop (F0 m (pc0 + 3) ls0 (v.toList ++ rest.map (am_va B b)))) t2
  rw [hst]
  exact a1
theorem am_go_le {n : Nat} : ∀ {mi : Nat} {s : am_St} {r : am_Re}, am_go G X n mi s = some r → s.2.2.2.1.1 ≤ r.2.1.1 ∧ s.2.2.2.1.2.1 ≤ r.2.1.2.1 := by
  induction n with
  | zero =>
    intro mi s r h
    simp [am_go] at h
  | succ n ih =>
    intro mi s r h
    rw [am_go] at h
    cases ha : am_act G X mi s with
    | none => rw [ha] at h; simp at h
    | some a =>
      rw [ha] at h
      match a, ha, h with
      | .inl s', ha, h =>
        have h1 := ih h
        unfold am_act at ha
        split at ha
        · have h2 := am_ins_le ha
          exact ⟨Nat.le_trans h2.1 h1.1, Nat.le_trans h2.2 h1.2⟩
        · cases ha
      | .inr (.inl v), ha, h =>
        cases h
        exact ⟨Nat.le_refl _, Nat.le_refl _⟩
      | .inr (.inr q), ha, h =>
        dsimp only at h
        split at h
        · cases h
        · rename_i lc hlc
          split at h
          · cases h
          · rename_i r1 hr1
            split at h
            · cases h
            · rename_i st1 hst1
              have h1 := ih hr1
              have h2 := ih h
              exact ⟨Nat.le_trans h1.1 h2.1, Nat.le_trans h1.2 h2.2⟩
theorem am_sound (hG : am_okG Tb cl ty G) (hC : am_okC Tb cl ty) (hgd : Tb.all goodWord = true) (hA : Cond.arrayClass .int ∈ Tb ∧ Cond.arrayClass .long ∈ Tb ∧ Cond.arrayClass .boolean ∈ Tb) : ∀ n : Nat, am_Sd l Tb cl ty G X n := by
  intro n
  induction n with
  | zero =>
    intro p e R s m args below meth c H H0 locs cells slots Q ls D cA B b mi mt pc loc st S M r hgo
    simp [am_go] at hgo
  | succ n ih =>
    intro p e R s m args below meth c H H0 locs cells slots Q ls D cA B b mi mt pc loc st S M r hgo hm hcx hl hw hcs hc1 hc2 hret
    have hle := am_go_le hgo
    rw [am_go] at hgo
    cases ha : am_act G X mi (pc, loc, st, S, M) with
    | none => rw [ha] at hgo; simp at hgo
    | some a =>
      rw [ha] at hgo
      unfold am_act at ha
      cases hft : am_ft G mi pc with
      | none =>
        dsimp only at ha
        rw [hft] at ha
        simp at ha
      | some i =>
        dsimp only at ha
        rw [hft] at ha
        dsimp only at ha
        have hi : mt.2.2.2.2.2 pc = some i := by
          unfold am_ft at hft
          rw [hm] at hft
          exact hft
        have hok := (hG mi mt hm).2 pc i hi
        obtain ⟨ins, len, ps⟩ := i
        match a, ha, hgo with
        | .inl t, ha, hgo =>
          have hle1 := am_ins_le ha
          have hle2 := am_go_le hgo
          refine am_step hcx hok hl hw ha hcs (by omega) (by omega) ?_
          intro H1 locs1 ls1 hl1 hw1
          refine ih p e R s m args below meth c H1 H0 locs1 _ _ Q ls1 D cA B b mi mt t.1 t.2.1 t.2.2.1 t.2.2.2.1 t.2.2.2.2 r hgo hm hcx hl1 hw1 (by omega) (by omega) (by omega) ?_
          intro pc' i' loc' st' H' locs' ls' g1 g2 g3
          exact W.cs (by omega) (by omega) (hret pc' i' loc' st' H' locs' ls' g1 g2 g3)
        | .inr (.inl v), ha, hgo =>
          cases hgo
          exact W.cs (by simp) (by simp) (hret pc _ loc st H locs ls hi ha hw)
        | .inr (.inr q), ha, hgo =>
          dsimp only at hgo
          split at hgo
          · cases hgo
          · rename_i lc hio
            split at hgo
            · cases hgo
            · rename_i r1 hr1
              split at hgo
              · cases hgo
              · rename_i st1 hst1
                have hle1 := am_go_le hr1
                have hle2 := am_go_le hgo
                obtain ⟨hx, hb, hml, hown, hts, hK, hBH, hnm, hX, hokC, hR, hAC⟩ := id hcx
                have hL := am_ok_l hok
                dsimp only at hle1 hle2
                have hcc : cells + (r1.2.1.1 - S.1) ≤ R.cells ∧ slots + (r1.2.1.2.1 - S.2.1) ≤ R.slots := ⟨by omega, by omega⟩
                have key : ∀ (H1 : Heap) (locs1 : List Loc), q.2.2.1 = pc + 3 → am_Wd D cl ty cA B r1.2.1 r1.2.2 H0 H1 locs1 → W p l e R s m args below meth c H1 locs1 (cells + (r1.2.1.1 - S.1)) (slots + (r1.2.1.2.1 - S.2.1)) Q (F0 m (pc + 3) ls (st1.map (am_va B b))) := by
                  intro H1 locs1 e9 hw1
                  rw [e9] at hgo
                  refine ih p e R s m args below meth c H1 H0 locs1 _ _ Q ls D cA B b mi mt (pc + 3) loc st1 r1.2.1 r1.2.2 r hgo hm hcx hl hw1 (by omega) (by omega) (by omega) ?_
                  intro pc' i' loc' st' H' locs' ls' g1 g2 g3
                  exact W.cs (by omega) (by omega) (hret pc' i' loc' st' H' locs' ls' g1 g2 g3)
                have hrev : ∀ k : Nat, st.map (am_va B b) = ((st.take k).reverse.map (am_va B b)).reverse ++ (st.drop k).map (am_va B b) := by
                  intro k
                  rw [List.map_reverse, List.reverse_reverse, ← List.map_append, List.take_append_drop]
                have hcat : ∀ k : Nat, (((st.drop k).map (am_va B b)).map fun v => v.category).sum = ((st.drop k).map fun v => v.category).sum := by
                  intro k
                  rw [List.map_map]
                  congr 1
                  exact List.map_congr_left (fun v _ => am_va_cat B b v)
                have hpre : ∀ as : List Value, PreS s H (va_Pc (as.map (am_va B b)) (fun U => va_P D cl (am_wl ty cA B S M) U.heap ∧ U.heap.size = B + S.1 ∧ va_K D cl (am_tys cA) U)) (as.map (am_va B b)) := fun as => ⟨am_pre_blind, fun U hU hW => ⟨rfl, by rw [hU]; exact hw.1, by rw [hU]; exact hw.2.1, va_K.moved hW.alike hK⟩⟩
                rcases am_ins_cal ha with ⟨idx, rfl, h9, hcal⟩ | ⟨idx, rfl, hcal⟩ | ⟨idx, rfl, h9, ok, hk, hcal⟩
                · obtain ⟨hq, hlen, hsum, -⟩ := am_call_of hcal
                  cases hq
                  simp only [am_okL, if_neg h9] at hL
                  split at hL
                  · rename_i z hz
                    simp only [Bool.and_eq_true] at hL
                    obtain ⟨⟨l1, l2⟩, l3⟩ := hL
                    obtain ⟨⟨z1, z2, z3, z4, z5, z6⟩, z7, z8, z9, z10, z11⟩ := am_okZ_of (mc := r1.2.1.1 - S.1) (ms := r1.2.1.2.1 - S.2.1) (index := idx) hts hgd hR l3
                    have hnl : am_nL G (ps.getD 0 0) = z.2.2.1 := by unfold am_nL; rw [hz]
                    rw [hnl] at hio
                    have hM : am_Met l Tb cl ty D cA B b z (st.take (ps.getD 1 0)).reverse S M r1 := am_met_of ih hG hC hA hio hr1 z11 hz
                    refine am_behind (va_runS (As := (st.take (ps.getD 1 0)).reverse.map (am_va B b)) (rest := (st.drop (ps.getD 1 0)).map (am_va B b)) ⟨hx, hb, hml, hown, hts⟩ hM ⟨⟨z1, z2, z3, z4, z5, z6, z7, z8, z9, z10, hts _ (am_in_of l1)⟩, hts _ (am_in_of l2)⟩ (hpre _) rfl (by rw [List.length_map]; exact hlen) hl.size (hrev _) (lv_room (by rw [hcat]; exact hsum)) (am_ok_dec hok rfl) hcc) hw.2.2 hst1 (fun H1 locs1 hw1 => key H1 locs1 rfl hw1)
                  · cases hL
                · obtain ⟨hq, hlen, hsum, hrc⟩ := am_call_of hcal
                  cases hq
                  simp only [am_okL] at hL
                  split at hL
                  · rename_i z q1 hz hq1
                    simp only [Bool.and_eq_true, decide_eq_true_eq] at hL
                    obtain ⟨⟨⟨⟨⟨l1, l2⟩, l3⟩, l4⟩, l5⟩, l6⟩ := hL
                    obtain ⟨⟨z1, z2, z3, z4, z5, z6⟩, z7, z8, z9, z10, z11⟩ := am_okZ_of (mc := r1.2.1.1 - S.1) (ms := r1.2.1.2.1 - S.2.1) (index := idx) hts hgd hR l6
                    have hnl : am_nL G (ps.getD 0 0) = z.2.2.1 := by unfold am_nL; rw [hz]
                    rw [hnl] at hio
                    have hM : am_Met l Tb cl ty D cA B b z (st.take (ps.getD 1 0)).reverse S M r1 := am_met_of ih hG hC hA hio hr1 z11 hz
                    generalize has : (st.take (ps.getD 1 0)).reverse = as at hM hlen hrc
                    have hrev1 := hrev (ps.getD 1 0)
                    rw [has] at hrev1
                    unfold am_rc at hrc
                    split at hrc
                    · rename_i a as'
                      simp only [Bool.and_eq_true, decide_eq_true_eq, beq_iff_eq] at hrc
                      have he := am_wl_at (ty := ty) (cA := cA) (B := B) (M := M) hrc.1
                      rw [am_en_ob hrc.2 (hokC _ _ hq1).1] at he
                      obtain ⟨cellB, k1, k2, k3⟩ := va_recv hK hw.1 hq1 he
                      rw [l4] at k3
                      refine am_behind (va_runV (As := as'.map (am_va B b)) (rest := (st.drop (ps.getD 1 0)).map (am_va B b)) (C := z.1.cls) (n := ps.getD 1 0 - 1) (b := B + a) ⟨hx, hb, hml, hown, hts⟩ hM ⟨⟨z1, z2, z3, z4, z5, z6, z7, z8, z9, z10, hts _ (am_in_of l1)⟩, hts _ (am_in_of l2), hts _ (am_in_of l3)⟩ ⟨am_pre_blind, ⟨cellB, k1, k2, k3⟩, (hpre (.ref a :: as')).2⟩ rfl (by rw [List.length_map]; rw [← hlen]; simp) hl.size (by rw [hrev1]; simp [am_va]) (lv_room (by rw [hcat]; exact hsum)) (am_ok_dec hok rfl) hcc) hw.2.2 hst1 (fun H1 locs1 hw1 => key H1 locs1 rfl hw1)
                    · cases hrc
                  · cases hL
                · obtain ⟨hq, hlen, hsum, hrc⟩ := am_call_of hcal
                  cases hq
                  simp only [am_okL, if_neg h9] at hL
                  split at hL
                  · rename_i z hz
                    simp only [Bool.and_eq_true, decide_eq_true_eq, Bool.or_eq_true] at hL
                    obtain ⟨⟨⟨⟨⟨l1, l2⟩, l3⟩, l4⟩, l5⟩, l6⟩ := hL
                    obtain ⟨⟨z1, z2, z3, z4, z5, z6⟩, z7, z8, z9, z10, z11⟩ := am_okZ_of (mc := r1.2.1.1 - S.1) (ms := r1.2.1.2.1 - S.2.1) (index := idx) hts hgd hR l6
                    have hnl : am_nL G (ps.getD 0 0) = z.2.2.1 := by unfold am_nL; rw [hz]
                    rw [hnl] at hio
                    have hM : am_Met l Tb cl ty D cA B b z (st.take (ps.getD 1 0)).reverse S M r1 := am_met_of ih hG hC hA hio hr1 z11 hz
                    generalize has : (st.take (ps.getD 1 0)).reverse = as at hM hlen hrc
                    have hrev1 := hrev (ps.getD 1 0)
                    rw [has] at hrev1
                    obtain ⟨a, as', rfl⟩ := hk _ hrc
                    unfold am_Met at hM
                    rw [l4] at hM z5 z6 z7
                    rcases l1 with l1 | l1
                    · refine am_behind (va_runI (As := as'.map (am_va B b)) (rest := (st.drop (ps.getD 1 0)).map (am_va B b)) (n := ps.getD 1 0 - 1) (b := B + a) ⟨hx, hb, hml, hown, hts⟩ hM ⟨⟨z1, z2, z3, z4, z5, z6, z7, z8, z9, z10, hts _ (am_in_of l1)⟩, l3, hts _ (am_in_of l2)⟩ (hpre (.ref a :: as')) rfl (by rw [List.length_map]; rw [← hlen]; simp) hl.size (by rw [hrev1]; simp [am_va]) (lv_room (by rw [hcat]; exact hsum)) (am_ok_dec hok rfl) hcc) hw.2.2 hst1 (fun H1 locs1 hw1 => key H1 locs1 rfl hw1)
                    · refine am_behind (va_runIN (As := as'.map (am_va B b)) (rest := (st.drop (ps.getD 1 0)).map (am_va B b)) (n := ps.getD 1 0 - 1) (b := B + a) ⟨hx, hb, hml, hown, hts⟩ hM ⟨⟨⟨z1, z2, z3, z4, z5, z6⟩, z7, z8, z9, z10, hts _ (am_in_of l1)⟩, l3, hts _ (am_in_of l2)⟩ (hpre (.ref a :: as')) rfl (by rw [List.length_map]; rw [← hlen]; simp) hl.size (by rw [hrev1]; simp [am_va]) (lv_room (by rw [hcat]; exact hsum)) (am_ok_dec hok rfl) hcc) hw.2.2 hst1 (fun H1 locs1 hw1 => key H1 locs1 rfl hw1)
                  · cases hL
end AMC
