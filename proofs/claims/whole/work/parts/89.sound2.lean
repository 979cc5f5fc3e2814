/-! the runs are the machine's, once more: words that move with the state, Math's own methods -/
def isPm : Cond → Bool
  | .privateMethod _ => true
  | _ => false
def isNl : Cond → Bool
  | .methodLinkNest _ _ _ _ => true
  | _ => false
def isAo : Cond → Bool
  | .arrayOver (.array .int) => true
  | _ => false
def good2 (w : Cond) : Bool := goodWord w || isPm w || isNl w || isAo w
theorem isPm_of {w : Cond} (h : isPm w = true) : ∃ y, w = .privateMethod y := by
  unfold isPm at h
  split at h
  · exact ⟨_, rfl⟩
  · cases h
theorem isNl_of {w : Cond} (h : isNl w = true) : ∃ a i y q, w = .methodLinkNest a i y q := by
  unfold isNl at h
  split at h
  · exact ⟨_, _, _, _, rfl⟩
  · cases h
theorem isAo_of {w : Cond} (h : isAo w = true) : w = .arrayOver (.array .int) := by
  unfold isAo at h
  split at h
  · rfl
  · cases h
theorem w_moved {w : Cond} {args a' : Array Value} {s U : State} (hg : good2 w = true) (h : w.before args s = true) (hW : s.WarmedH U.vm) : w.before a' U = true := by
  simp only [good2, Bool.or_eq_true] at hg
  rcases hg with ((hg | hg) | hg) | hg
  · exact word_at hW (good_of_word hg) h
  · obtain ⟨y, rfl⟩ := isPm_of hg
    exact va_tabs rfl (rfl : (s.setVm U.vm).vm = U.vm) (by rw [Cond.privateMethod_setVm hW.alike]; exact h)
  · obtain ⟨a, i, y, q, rfl⟩ := isNl_of hg
    exact va_tabs rfl (rfl : (s.setVm U.vm).vm = U.vm) (Cond.methodLinkNest_warmed (args := args) hW h)
  · obtain rfl := isAo_of hg
    exact over_moved hW.alike h
theorem kGood2 : lw_tbl.all good2 = true := by decide +kernel
def kOkQ (Tb : List Cond) (cl : List vw_C) (ty : Nat → Nat → FieldType) : Prop := ∀ (mi : Nat) (mt : am_Mt), kG mi = some mt → (plainName mt.1.cls = true ∨ ((mi = 215 ∧ mt = kM215) ∨ (mi = 216 ∧ mt = kM216) ∨ (mi = 217 ∧ mt = kM217) ∨ (mi = 218 ∧ mt = kM218))) ∧ (∀ (pc : Nat) (i : am_I), mt.2.2.2.2.2 pc = some i → am_ok Tb cl ty kG mt.1 mt.2.1 mt.2.2.2.1 mt.2.2.2.2.1 pc i = true) ∧ ∀ (pc : Nat) (i : am_I), mt.2.2.2.2.2 pc = some i → i.2.2.getD 0 0 = 215 → 21 ≤ mt.2.2.2.2.1.2
section MTH
variable {X : am_X} {S : am_Sh} {M : am_Me}
theorem mt_none {mi pc : Nat} {loc : am_Lo} {st : List Value} (h : am_act kG X mi (pc, loc, st, S, M) = none) : am_e X mi pc loc st S M = none := by
  cases hq : am_e X mi pc loc st S M with
  | none => rfl
  | some r =>
    obtain ⟨n, hn⟩ := am_ev_iff.mp hq
    cases n with
    | zero => simp [am_go] at hn
    | succ n =>
      rw [am_go, h] at hn
      cases hn
theorem fl_ge : ∀ as : List Value, as.length ≤ (am_fl as).length
  | [] => Nat.le_refl _
  | v :: t => by
    have ih := fl_ge t
    have e : am_fl (v :: t) = (if v.category = 2 then [some v, none] else [some v]) ++ am_fl t := rfl
    rw [e, List.length_append, List.length_cons]
    split <;> simp only [List.length_cons, List.length_nil] <;> omega
theorem fl_io {nL : Nat} {as : List Value} {lc : am_Lo} (h : am_io nL as = some lc) : as.length ≤ nL := by
  unfold am_io at h
  split at h
  · rename_i q
    exact Nat.le_trans (fl_ge as) q
  · cases h
theorem mt_abs {as : List Value} {lc : am_Lo} {r : am_Re} (hio : am_io 1 as = some lc) (hr : am_e X 215 0 lc [] S M = some r) : ∃ x : Int32, as = [.int x] ∧ r = (some (.int (if 0 ≤ x then x else 0 - x)), S, M) := by
  rcases as with _ | ⟨v, _ | ⟨w, t⟩⟩
  · have h9 := Option.some.inj (show some (am_in 1 []) = some lc from hio)
    rw [← h9, mt_none (kA (kf215 0) rfl)] at hr
    cases hr
  · cases v with
    | int x =>
      have h9 : [some (Value.int x)] = lc := Option.some.inj (show some (am_in 1 [.int x]) = some lc from hio)
      refine ⟨x, rfl, ?_⟩
      rw [← h9] at hr
      by_cases h : x < 0
      · simp only [e215_0, e215_1, e215_4, e215_5, e215_6, e215_9, e215_10, h, am_bv_s, am_bw_s, eq_self, true_or, or_true, am_b0, am_b1, am_em, if_true, if_false, true_and, and_true, false_and, and_false, not_true_eq_false, not_false_eq_true, false_or, or_false, Bool.false_eq_true, Option.some.injEq] at hr
        rw [if_neg (fun q => Int32.not_lt.mpr q h), Int32.zero_sub]; exact hr.symm
      · simp only [e215_0, e215_1, e215_4, e215_5, e215_6, e215_9, e215_10, h, am_bv_s, am_bw_s, eq_self, true_or, or_true, am_b0, am_b1, am_em, if_true, if_false, true_and, and_true, false_and, and_false, not_true_eq_false, not_false_eq_true, false_or, or_false, Bool.false_eq_true, Option.some.injEq] at hr
        rw [if_pos (Int32.not_lt.mp h)]; exact hr.symm
    | _ =>
      first
      | (have h9 : some lc = none := hio.symm.trans rfl; cases h9; done)
      | (have h9 := Option.some.inj (show some (am_in 1 _) = some lc from hio)
         rw [← h9, mt_none (kA (kf215 0) rfl)] at hr
         cases hr)
  · exact absurd (fl_io hio) (by simp)
theorem mt_max {as : List Value} {lc : am_Lo} {r : am_Re} (hio : am_io 2 as = some lc) (hr : am_e X 216 0 lc [] S M = some r) : ∃ x y : Int32, as = [.int x, .int y] ∧ r = (some (.int (if x < y then y else x)), S, M) := by
  rcases as with _ | ⟨v, _ | ⟨w, _ | ⟨u, t⟩⟩⟩
  · have h9 := Option.some.inj (show some (am_in 2 []) = some lc from hio)
    rw [← h9, mt_none (kA (kf216 0) rfl)] at hr
    cases hr
  · cases v with
    | int x =>
      have h9 : [some (Value.int x), none] = lc := Option.some.inj (show some (am_in 2 [.int x]) = some lc from hio)
      rw [← h9, e216_0, mt_none (kA (kf216 1) rfl)] at hr
      cases hr
    | _ =>
      have h9 := Option.some.inj (show some (am_in 2 _) = some lc from hio)
      rw [← h9, mt_none (kA (kf216 0) rfl)] at hr
      cases hr
  · cases v with
    | int x =>
      cases w with
      | int y =>
        have h9 : [some (Value.int x), some (Value.int y)] = lc := Option.some.inj (show some (am_in 2 [.int x, .int y]) = some lc from hio)
        refine ⟨x, y, rfl, ?_⟩
        rw [← h9] at hr
        by_cases h : x < y
        · simp only [e216_0, e216_1, e216_2, e216_5, e216_6, e216_9, e216_10, h, am_bv_s, am_bw_s, eq_self, true_or, or_true, am_b0, am_b1, am_em, if_true, if_false, true_and, and_true, false_and, and_false, not_true_eq_false, not_false_eq_true, false_or, or_false, Bool.false_eq_true, Option.some.injEq] at hr
          rw [if_pos h]; exact hr.symm
        · simp only [e216_0, e216_1, e216_2, e216_5, e216_6, e216_9, e216_10, h, am_bv_s, am_bw_s, eq_self, true_or, or_true, am_b0, am_b1, am_em, if_true, if_false, true_and, and_true, false_and, and_false, not_true_eq_false, not_false_eq_true, false_or, or_false, Bool.false_eq_true, Option.some.injEq] at hr
          rw [if_neg h]; exact hr.symm
      | _ =>
        first
        | (have h9 : some lc = none := hio.symm.trans rfl; cases h9; done)
        | (have h9 := Option.some.inj (show some (am_in 2 _) = some lc from hio)
           rw [← h9] at hr
           rw [show am_in 2 _ = [some (Value.int x), some _] from rfl, e216_0, mt_none (kA (kf216 1) rfl)] at hr
           cases hr)
    | _ =>
      cases w <;> first
        | (have h9 : some lc = none := hio.symm.trans rfl; cases h9; done)
        | (have h9 := Option.some.inj (show some (am_in 2 _) = some lc from hio)
           rw [← h9, mt_none (kA (kf216 0) rfl)] at hr
           cases hr)
  · exact absurd (fl_io hio) (by simp)
theorem mt_min {as : List Value} {lc : am_Lo} {r : am_Re} (hio : am_io 2 as = some lc) (hr : am_e X 218 0 lc [] S M = some r) : ∃ x y : Int32, as = [.int x, .int y] ∧ r = (some (.int (if y < x then y else x)), S, M) := by
  rcases as with _ | ⟨v, _ | ⟨w, _ | ⟨u, t⟩⟩⟩
  · have h9 := Option.some.inj (show some (am_in 2 []) = some lc from hio)
    rw [← h9, mt_none (kA (kf218 0) rfl)] at hr
    cases hr
  · cases v with
    | int x =>
      have h9 : [some (Value.int x), none] = lc := Option.some.inj (show some (am_in 2 [.int x]) = some lc from hio)
      rw [← h9, e218_0, mt_none (kA (kf218 1) rfl)] at hr
      cases hr
    | _ =>
      have h9 := Option.some.inj (show some (am_in 2 _) = some lc from hio)
      rw [← h9, mt_none (kA (kf218 0) rfl)] at hr
      cases hr
  · cases v with
    | int x =>
      cases w with
      | int y =>
        have h9 : [some (Value.int x), some (Value.int y)] = lc := Option.some.inj (show some (am_in 2 [.int x, .int y]) = some lc from hio)
        refine ⟨x, y, rfl, ?_⟩
        rw [← h9] at hr
        by_cases h : y < x
        · simp only [e218_0, e218_1, e218_2, e218_5, e218_6, e218_9, e218_10, h, am_bv_s, am_bw_s, eq_self, true_or, or_true, am_b0, am_b1, am_em, if_true, if_false, true_and, and_true, false_and, and_false, not_true_eq_false, not_false_eq_true, false_or, or_false, Bool.false_eq_true, Option.some.injEq] at hr
          rw [if_pos h]; exact hr.symm
        · simp only [e218_0, e218_1, e218_2, e218_5, e218_6, e218_9, e218_10, h, am_bv_s, am_bw_s, eq_self, true_or, or_true, am_b0, am_b1, am_em, if_true, if_false, true_and, and_true, false_and, and_false, not_true_eq_false, not_false_eq_true, false_or, or_false, Bool.false_eq_true, Option.some.injEq] at hr
          rw [if_neg h]; exact hr.symm
      | _ =>
        first
        | (have h9 : some lc = none := hio.symm.trans rfl; cases h9; done)
        | (have h9 := Option.some.inj (show some (am_in 2 _) = some lc from hio)
           rw [← h9] at hr
           rw [show am_in 2 _ = [some (Value.int x), some _] from rfl, e218_0, mt_none (kA (kf218 1) rfl)] at hr
           cases hr)
    | _ =>
      cases w <;> first
        | (have h9 : some lc = none := hio.symm.trans rfl; cases h9; done)
        | (have h9 := Option.some.inj (show some (am_in 2 _) = some lc from hio)
           rw [← h9, mt_none (kA (kf218 0) rfl)] at hr
           cases hr)
  · exact absurd (fl_io hio) (by simp)
theorem fl3 (x : Int64) (w : Value) (tl : List Value) : ∃ t, am_fl (Value.long x :: w :: tl) = some (.long x) :: none :: some w :: t := by
  cases w <;> exact ⟨_, rfl⟩
theorem in4 (x : Int64) (w : Value) (tl : List Value) : ∃ rest, am_in 4 (Value.long x :: w :: tl) = some (.long x) :: none :: some w :: rest := by
  obtain ⟨t, e⟩ := fl3 x w tl
  unfold am_in
  rw [e]
  exact ⟨_, rfl⟩
theorem mt_maxl {as : List Value} {lc : am_Lo} {r : am_Re} (hio : am_io 4 as = some lc) (hr : am_e X 217 0 lc [] S M = some r) : ∃ x y : Int64, as = [.long x, .long y] ∧ r = (some (.long (if y < x then x else y)), S, M) := by
  rcases as with _ | ⟨v, tl⟩
  · have h9 := Option.some.inj (show some (am_in 4 []) = some lc from hio)
    rw [← h9, mt_none (kA (kf217 0) rfl)] at hr
    cases hr
  · have h4 : (am_fl (v :: tl)).length ≤ 4 := by
      unfold am_io at hio
      split at hio
      · rename_i q; exact q
      · cases hio
    have h9 : am_in 4 (v :: tl) = lc := by
      unfold am_io at hio
      rw [if_pos h4] at hio
      exact Option.some.inj hio
    cases v with
    | long x =>
      rcases tl with _ | ⟨w, tl⟩
      · rw [← h9] at hr
        rw [show am_in 4 [Value.long x] = [some (.long x), none, none, none] from rfl, e217_0, mt_none (kA (kf217 1) rfl)] at hr
        cases hr
      · cases w with
        | long y =>
          have htl : tl = [] := by
            have h5 := fl_ge tl
            have e : am_fl (Value.long x :: Value.long y :: tl) = [some (.long x), none, some (.long y), none] ++ am_fl tl := rfl
            rw [e, List.length_append] at h4
            simp only [List.length_cons, List.length_nil] at h4
            exact List.eq_nil_of_length_eq_zero (by omega)
          subst htl
          refine ⟨x, y, rfl, ?_⟩
          rw [← h9] at hr
          rw [show am_in 4 [Value.long x, Value.long y] = [some (.long x), none, some (.long y), none] from rfl] at hr
          by_cases h : x < y
          · simp only [e217_0, e217_1, e217_2, e217_3, e217_6, e217_7, e217_10, e217_11, lc_lt, h, am_bv_s, am_bw_s, eq_self, true_or, or_true, am_b0, am_b1, am_em, if_true, if_false, true_and, and_true, false_and, and_false, not_true_eq_false, not_false_eq_true, false_or, or_false, Bool.false_eq_true, Option.some.injEq] at hr
            rw [if_neg (fun q => Int64.lt_irrefl (Int64.lt_trans q h))]; exact hr.symm
          · simp only [e217_0, e217_1, e217_2, e217_3, e217_6, e217_7, e217_10, e217_11, lc_lt, h, am_bv_s, am_bw_s, eq_self, true_or, or_true, am_b0, am_b1, am_em, if_true, if_false, true_and, and_true, false_and, and_false, not_true_eq_false, not_false_eq_true, false_or, or_false, Bool.false_eq_true, Option.some.injEq] at hr
            by_cases h2 : y < x
            · rw [if_pos h2]; exact hr.symm
            · have e9 : x = y := Int64.le_antisymm (Int64.not_lt.mp h2) (Int64.not_lt.mp h)
              rw [if_neg h2, ← e9]; exact hr.symm
        | _ =>
          exfalso
          obtain ⟨rest, hrest⟩ := in4 x _ tl
          rw [h9] at hrest
          have hlen : lc.length = 4 := by
            rw [← h9]
            unfold am_in
            rw [List.length_append, List.length_replicate]
            omega
          rw [hrest] at hlen
          rcases rest with _ | ⟨l3, _ | ⟨l4, rest⟩⟩
          · simp at hlen
          · rw [hrest, e217_0, mt_none (kA (kf217 1) rfl)] at hr
            cases hr
          · simp at hlen
    | _ =>
      exfalso
      rw [← h9, mt_none (kA (kf217 0) rfl)] at hr
      cases hr
end MTH
section AMQ
variable {p : Program} {l : Launch} {e : Env} {R : Room} {s : State} {m : MethodId} {args : Array Value} {below : List Frame} {meth : Method} {c : Code} {H H0 : Heap} {locs : List Loc} {cells slots : Nat} {Q : State → Prop}
variable {cc : ByteArray} {ls : Array Slot} {D : va_G} {cl : List vw_C} {ty : Nat → Nat → FieldType} {cA : Nat → ClassId} {B b nL mi : Nat} {X : am_X} {y : MethodName} {Tb : List Cond} {dp : Nat × Nat} {ret : Option FieldType}
variable {len : Nat} {ps : List Nat} {pc : Nat} {loc : am_Lo} {st : List Value} {S : am_Sh} {M : am_Me} {t : am_St}
theorem am_met_of2 {n : Nat} {mt : am_Mt} {as : List Value} {lc : am_Lo} {r : am_Re} (hS : am_Sd l Tb cl ty kG X n) (hpl : plainName mt.1.cls = true) (hcode : ∀ (pc : Nat) (i : am_I), mt.2.2.2.2.2 pc = some i → am_ok Tb cl ty kG mt.1 mt.2.1 mt.2.2.2.1 mt.2.2.2.2.1 pc i = true) (hC : am_okC Tb cl ty) (hA : Cond.arrayClass .int ∈ Tb ∧ Cond.arrayClass .long ∈ Tb ∧ Cond.arrayClass .boolean ∈ Tb) (hio : am_io mt.2.2.1 as = some lc) (hgo : am_go kG X n mi (0, lc, [], S, M) = some r) (h0 : mi ≠ 0) (hm : kG mi = some mt) : am_Met l Tb cl ty D cA B b mt as S M r := by
  refine Met.ofW (cc := mt.2.1) (maxL := mt.2.2.1) (ret := mt.2.2.2.1) hpl rfl ?_
  intro p e s m args below meth c s₁ B1 hml hv
  obtain ⟨rfl, hP, hsz, hK⟩ := hv
  have hx := B1.exec
  have hb := B1.bytes
  have hr := B1.returns
  have hts0 := atoms_spec (ws := Cond.code mt.1 mt.2.1 mt.2.2.1 mt.2.2.2.1 :: Tb) B1.pre
  have hts : ∀ w ∈ Tb, w.before (as.map (am_va B b)).toArray s = true := fun w hw => hts0 w (List.mem_cons_of_mem _ hw)
  have hown : s.vm.findClass mt.1.cls = some m.cls := findClass_of_methodNamed B1.named
  have hnm : meth.name = mt.1.name := (name_of_methodNamed B1.named B1.method).1
  have hlocks := B1.notSynchronized
  rw [lg_entry_eq]
  have hw : am_Wd D cl ty cA B S M s.heap s.heap [] := ⟨hP, hsz, va_S.rf⟩
  refine hS p e _ s m _ below meth c s.heap s.heap [] 0 0 _ _ D cA B b mi mt 0 lc [] S M r hgo hm ⟨hx, hb, hml, hown, hts, hK, by omega, hnm, fun h => absurd h h0, hC, ⟨Nat.le_refl _, Nat.le_refl _⟩, hA⟩ (am_entry hio) hw (by omega) (by show 0 + (r.2.1.1 - S.1) ≤ r.2.1.1 - S.1; omega) (by show 0 + (r.2.1.2.1 - S.2.1) ≤ r.2.1.2.1 - S.2.1; omega) ?_
  intro pc' i loc' st' H' locs' ls' hi hret hw'
  obtain ⟨ins, len, ps⟩ := i
  have hok := hcode pc' _ hi
  have hL := am_ok_l hok
  refine W.cs (cells' := r.2.1.1 - S.1) (slots' := r.2.1.2.1 - S.2.1) (Nat.zero_add _) (Nat.zero_add _) ?_
  have hq : ∀ (v : Option Value) (t : State), r.1 = v → t.heap = H' → (Outcome.returned (v.map (am_va B b)) = .returned (r.1.map (am_va B b)) ∧ va_P D cl (am_wl ty cA B r.2.1 r.2.2) t.heap ∧ t.heap.size = B + r.2.1.1 ∧ va_F (fun q => B ≤ q) s t) := by
    intro v t e1 e2
    exact ⟨by rw [e1], by rw [e2]; exact hw'.1, by rw [e2]; exact hw'.2.1, hw'.2.2.F e2⟩
  rcases am_ins_ret hret with ⟨rfl, x, rfl, e1, hft⟩ | ⟨rfl, x, rfl, e1⟩ | ⟨rfl, x, rfl, e1⟩ | ⟨rfl, rfl, e1⟩
  · have hdg := am_ok_dec hok rfl
    simp only [am_okL, Bool.or_eq_true, Bool.and_eq_true, decide_eq_true_eq, beq_iff_eq] at hL
    rcases hL with ⟨g1, -⟩ | ⟨g1, g2⟩
    · exact W.iret hx hb (hr.trans g1) (fun t ht hW => hq _ t e1 ht) hw'.2.2.2.2 hdg
    · rw [g2] at hft
      exact W.zret (ty := .boolean) hx hb (hr.trans g1) (am_kd_I (t := .boolean) (Or.inr rfl) hft).1 (fun t ht hW => hq _ t e1 ht) hw'.2.2.2.2 hdg
  · exact W.lret hx hb (hr.trans (of_decide_eq_true hL)) (fun t ht hW => hq _ t e1 ht) hw'.2.2.2.2 (am_ok_dec hok rfl)
  · exact W.aret hx hb (hr.trans (of_decide_eq_true hL)) (Or.inr ⟨_, rfl⟩) (Or.inr ⟨_, rfl⟩) (fun t ht hW => hq _ t e1 ht) hw'.2.2.2.2 (am_ok_dec hok rfl)
  · exact W.vret hx hb (hr.trans (of_decide_eq_true hL)) (fun t ht hW => hq _ t e1 ht) hw'.2.2.2.2 (am_ok_dec hok rfl)
theorem am_okZ_of2 {z : am_Mt} {np index : Nat} {mc ms : Nat} (hts : ∀ w ∈ Tb, w.before args s = true) (hgd : Tb.all good2 = true) (hR : dp.1 ≤ R.frames ∧ dp.2 ≤ R.locals) (h : am_okZ Tb z dp np ps = true) :
    (({ frames := z.2.2.2.2.1.1, cells := mc, slots := ms, locals := z.2.2.2.2.1.2 } : Room).cells = mc ∧ ({ frames := z.2.2.2.2.1.1, cells := mc, slots := ms, locals := z.2.2.2.2.1.2 } : Room).slots = ms ∧ z.2.2.2.2.1.1 + 1 ≤ R.frames ∧ 8 + (z.2.2.1 + 11) + z.2.2.2.2.1.2 ≤ R.locals ∧ (∀ w ∈ (Cond.code z.1 z.2.1 z.2.2.1 z.2.2.2.1 :: Tb), ∀ (a' : Array Value) (U : State), s.WarmedH U.vm → w.before a' U = true) ∧ Cond.code z.1 z.2.1 z.2.2.1 z.2.2.2.1 ∈ (Cond.code z.1 z.2.1 z.2.2.1 z.2.2.2.1 :: Tb)) ∧
    (Cond.code z.1 z.2.1 z.2.2.1 z.2.2.2.1).before args s = true ∧ (Cond.initialized z.1.cls).before args s = true ∧ (z.1.cls ≠ "java/lang/invoke/MethodHandle" ∧ z.1.cls ≠ "java/lang/invoke/VarHandle") ∧ (∀ sig, parseMethodDescriptor z.1.desc = some sig → np = sig.parameters.length) ∧ ps.getD 0 0 ≠ 0 := by
  simp only [am_okZ, Bool.and_eq_true, decide_eq_true_eq] at h
  obtain ⟨⟨⟨⟨⟨⟨⟨h1, h2⟩, h3⟩, h4⟩, h5⟩, h6⟩, h7⟩, h8⟩ := h
  refine ⟨⟨rfl, rfl, by omega, by omega, (fun w hw a2 U hU => ?_), List.mem_cons_self⟩, hts _ (am_in_of h5), hts _ (am_in_of h4), ⟨h6, h7⟩, fun sig hs => ?_, h8⟩
  · rcases List.mem_cons.mp hw with e | e
    · rw [e]
      exact w_moved (List.all_eq_true.mp hgd _ (am_in_of h5)) (hts _ (am_in_of h5)) hU
    · exact w_moved (List.all_eq_true.mp hgd _ e) (hts _ e) hU
  · rw [hs] at h1
    exact (Option.some.inj h1).symm
theorem am_sound2 (hG : kOkQ Tb cl ty) (hpc : ∀ (k : Nat) (q : vw_C), cl[k]? = some q → plainName q.1 = true) (hC : am_okC Tb cl ty) (hgd : Tb.all good2 = true) (hA : Cond.arrayClass .int ∈ Tb ∧ Cond.arrayClass .long ∈ Tb ∧ Cond.arrayClass .boolean ∈ Tb) : ∀ n : Nat, am_Sd l Tb cl ty kG X n := by
  intro n
  induction n with
  | zero =>
    intro p e R s m args below meth c H H0 locs cells slots Q ls D cA B b mi mt pc loc st S M r hgo
    simp [am_go] at hgo
  | succ n ih =>
    intro p e R s m args below meth c H H0 locs cells slots Q ls D cA B b mi mt pc loc st S M r hgo hm hcx hl hw hcs hc1 hc2 hret
    have hle := am_go_le hgo
    rw [am_go] at hgo
    cases ha : am_act kG X mi (pc, loc, st, S, M) with
    | none => rw [ha] at hgo; simp at hgo
    | some a =>
      rw [ha] at hgo
      unfold am_act at ha
      cases hft : am_ft kG mi pc with
      | none =>
        dsimp only at ha
        rw [hft] at ha
        simp at ha
      | some i =>
        dsimp only at ha
        rw [hft] at ha
        dsimp only at ha
        have hi : mt.2.2.2.2.2 pc = some i := by
          unfold am_ft at hft
          rw [hm] at hft
          exact hft
        have hok := (hG mi mt hm).2.1 pc i hi
        obtain ⟨ins, len, ps⟩ := i
        match a, ha, hgo with
        | .inl t, ha, hgo =>
          have hle1 := am_ins_le ha
          have hle2 := am_go_le hgo
          refine am_step hcx hok hl hw ha hcs (by omega) (by omega) ?_
          intro H1 locs1 ls1 hl1 hw1
          refine ih p e R s m args below meth c H1 H0 locs1 _ _ Q ls1 D cA B b mi mt t.1 t.2.1 t.2.2.1 t.2.2.2.1 t.2.2.2.2 r hgo hm hcx hl1 hw1 (by omega) (by omega) (by omega) ?_
          intro pc' i' loc' st' H' locs' ls' g1 g2 g3
          exact W.cs (by omega) (by omega) (hret pc' i' loc' st' H' locs' ls' g1 g2 g3)
        | .inr (.inl v), ha, hgo =>
          cases hgo
          exact W.cs (by simp) (by simp) (hret pc _ loc st H locs ls hi ha hw)
        | .inr (.inr q), ha, hgo =>
          dsimp only at hgo
          split at hgo
          · cases hgo
          · rename_i lc hio
            split at hgo
            · cases hgo
            · rename_i r1 hr1
              split at hgo
              · cases hgo
              · rename_i st1 hst1
                have hle1 := am_go_le hr1
                have hle2 := am_go_le hgo
                obtain ⟨hx, hb, hml, hown, hts, hK, hBH, hnm, hX, hokC, hR, hAC⟩ := id hcx
                have hL := am_ok_l hok
                dsimp only at hle1 hle2
                have hcc : cells + (r1.2.1.1 - S.1) ≤ R.cells ∧ slots + (r1.2.1.2.1 - S.2.1) ≤ R.slots := ⟨by omega, by omega⟩
                have key : ∀ (H1 : Heap) (locs1 : List Loc), q.2.2.1 = pc + 3 → am_Wd D cl ty cA B r1.2.1 r1.2.2 H0 H1 locs1 → W p l e R s m args below meth c H1 locs1 (cells + (r1.2.1.1 - S.1)) (slots + (r1.2.1.2.1 - S.2.1)) Q (F0 m (pc + 3) ls (st1.map (am_va B b))) := by
                  intro H1 locs1 e9 hw1
                  rw [e9] at hgo
                  refine ih p e R s m args below meth c H1 H0 locs1 _ _ Q ls D cA B b mi mt (pc + 3) loc st1 r1.2.1 r1.2.2 r hgo hm hcx hl hw1 (by omega) (by omega) (by omega) ?_
                  intro pc' i' loc' st' H' locs' ls' g1 g2 g3
                  exact W.cs (by omega) (by omega) (hret pc' i' loc' st' H' locs' ls' g1 g2 g3)
                have hrev : ∀ k : Nat, st.map (am_va B b) = ((st.take k).reverse.map (am_va B b)).reverse ++ (st.drop k).map (am_va B b) := by
                  intro k
                  rw [List.map_reverse, List.reverse_reverse, ← List.map_append, List.take_append_drop]
                have hcat : ∀ k : Nat, (((st.drop k).map (am_va B b)).map fun v => v.category).sum = ((st.drop k).map fun v => v.category).sum := by
                  intro k
                  rw [List.map_map]
                  congr 1
                  exact List.map_congr_left (fun v _ => am_va_cat B b v)
                have hpre : ∀ as : List Value, PreS s H (va_Pc (as.map (am_va B b)) (fun U => va_P D cl (am_wl ty cA B S M) U.heap ∧ U.heap.size = B + S.1 ∧ va_K D cl (am_tys cA) U)) (as.map (am_va B b)) := fun as => ⟨am_pre_blind, fun U hU hW => ⟨rfl, by rw [hU]; exact hw.1, by rw [hU]; exact hw.2.1, va_K.moved hW.alike hK⟩⟩
                rcases am_ins_cal ha with ⟨idx, rfl, h9, hcal⟩ | ⟨idx, rfl, hcal⟩ | ⟨idx, rfl, h9, ok, hk, hcal⟩
                · obtain ⟨hq, hlen, hsum, -⟩ := am_call_of hcal
                  cases hq
                  simp only [am_okL, if_neg h9] at hL
                  split at hL
                  · rename_i z hz
                    simp only [Bool.and_eq_true] at hL
                    obtain ⟨⟨l1, l2⟩, l3⟩ := hL
                    obtain ⟨⟨z1, z2, z3, z4, z5, z6⟩, z7, z8, z9, z10, z11⟩ := am_okZ_of2 (mc := r1.2.1.1 - S.1) (ms := r1.2.1.2.1 - S.2.1) (index := idx) hts hgd hR l3
                    have hnl : am_nL kG (ps.getD 0 0) = z.2.2.1 := by unfold am_nL; rw [hz]
                    rw [hnl] at hio
                    rcases (hG _ z hz).1 with hp | hk
                    · have hM : am_Met l Tb cl ty D cA B b z (st.take (ps.getD 1 0)).reverse S M r1 := am_met_of2 ih hp (hG _ z hz).2.1 hC hA hio hr1 z11 hz
                      refine am_behind (va_runS (As := (st.take (ps.getD 1 0)).reverse.map (am_va B b)) (rest := (st.drop (ps.getD 1 0)).map (am_va B b)) ⟨hx, hb, hml, hown, hts⟩ hM ⟨⟨z1, z2, z3, z4, z5, z6, z7, z8, z9, z10, hts _ (am_in_of l1)⟩, hts _ (am_in_of l2)⟩ (hpre _) rfl (by rw [List.length_map]; exact hlen) hl.size (hrev _) (lv_room (by rw [hcat]; exact hsum)) (am_ok_dec hok rfl) hcc) hw.2.2 hst1 (fun H1 locs1 hw1 => key H1 locs1 rfl hw1)
                    · have hrv := am_ev_iff.mpr ⟨_, hr1⟩
                      have es := hrev (ps.getD 1 0)
                      have hsum2 : ((st.drop (ps.getD 1 0)).map fun v => v.category).sum ≤ 8 := hsum
                      have hls : c.maxLocals = ls.size := hml.trans hl.size.symm
                      have hfin : ∀ (v : Value), r1 = (some v, S, M) → am_va B b v = v → W p l e R s m args below meth c H locs cells slots Q (F0 m (pc + 3) ls (v :: (st.drop (ps.getD 1 0)).map (am_va B b))) := by
                        intro v hv hvv
                        subst hv
                        have hst2 : st1 = v :: st.drop (ps.getD 1 0) := by
                          have h9 := hst1
                          dsimp only at h9
                          cases hb9 : (ps.getD 3 0 == 1) <;> rw [hb9] at h9 <;> simp [am_co] at h9
                          exact h9.symm
                        have h8 := key H locs rfl hw
                        rw [hst2, List.map_cons, hvv] at h8
                        exact W.cs (by simp) (by simp) h8
                      rcases hk with ⟨hk, hzz⟩ | ⟨hk, hzz⟩ | ⟨hk, hzz⟩ | ⟨hk, hzz⟩
                      · rw [hk] at hrv
                        subst hzz
                        obtain ⟨x1, ha1, hr9⟩ := mt_abs hio hrv
                        have ha2 : (st.take (ps.getD 1 0)).reverse = _ := ha1
                        rw [es, ha2]
                        have h21 := (hG mi mt hm).2.2 pc _ hi hk
                        exact va_mabs hx hb hls hown (hts _ (am_in_of l1)) (hts _ (am_in_of l2)) z8 z7 (by omega) (Nat.le_trans (Nat.add_le_add_right (Nat.le_of_eq (hcat (ps.getD 1 0))) _) (by omega)) (by omega) (by omega) (am_ok_dec hok rfl) (hfin _ hr9 rfl)
                      · rw [hk] at hrv
                        subst hzz
                        obtain ⟨x1, x2, ha1, hr9⟩ := mt_max hio hrv
                        have ha2 : (st.take (ps.getD 1 0)).reverse = _ := ha1
                        rw [es, ha2]
                        have h4 : 8 + (2 + 11) + 0 ≤ R.locals := z4
                        exact va_mmax hx hb hls hown (hts _ (am_in_of l1)) (hts _ (am_in_of l2)) z8 z7 (by omega) (Nat.le_trans (Nat.add_le_add_right (Nat.le_of_eq (hcat (ps.getD 1 0))) _) (by omega)) (by omega) (by omega) (am_ok_dec hok rfl) (hfin _ hr9 rfl)
                      · rw [hk] at hrv
                        subst hzz
                        obtain ⟨x1, x2, ha1, hr9⟩ := mt_maxl hio hrv
                        have ha2 : (st.take (ps.getD 1 0)).reverse = _ := ha1
                        rw [es, ha2]
                        have h4 : 8 + (4 + 11) + 0 ≤ R.locals := z4
                        exact va_mmax_long hx hb hls hown (hts _ (am_in_of l1)) (hts _ (am_in_of l2)) z8 z7 (by omega) (Nat.le_trans (Nat.add_le_add_right (Nat.le_of_eq (hcat (ps.getD 1 0))) _) (by omega)) (by omega) (by omega) (am_ok_dec hok rfl) (hfin _ hr9 rfl)
                      · rw [hk] at hrv
                        subst hzz
                        obtain ⟨x1, x2, ha1, hr9⟩ := mt_min hio hrv
                        have ha2 : (st.take (ps.getD 1 0)).reverse = _ := ha1
                        rw [es, ha2]
                        have h4 : 8 + (2 + 11) + 0 ≤ R.locals := z4
                        exact va_mmin hx hb hls hown (hts _ (am_in_of l1)) (hts _ (am_in_of l2)) z8 z7 (by omega) (Nat.le_trans (Nat.add_le_add_right (Nat.le_of_eq (hcat (ps.getD 1 0))) _) (by omega)) (by omega) (by omega) (am_ok_dec hok rfl) (hfin _ hr9 rfl)
                  · cases hL
                · obtain ⟨hq, hlen, hsum, hrc⟩ := am_call_of hcal
                  cases hq
                  simp only [am_okL] at hL
                  split at hL
                  · rename_i z q1 hz hq1
                    simp only [Bool.and_eq_true, decide_eq_true_eq] at hL
                    obtain ⟨⟨⟨⟨⟨l1, l2⟩, l3⟩, l4⟩, l5⟩, l6⟩ := hL
                    obtain ⟨⟨z1, z2, z3, z4, z5, z6⟩, z7, z8, z9, z10, z11⟩ := am_okZ_of2 (mc := r1.2.1.1 - S.1) (ms := r1.2.1.2.1 - S.2.1) (index := idx) hts hgd hR l6
                    have hnl : am_nL kG (ps.getD 0 0) = z.2.2.1 := by unfold am_nL; rw [hz]
                    rw [hnl] at hio
                    have hM : am_Met l Tb cl ty D cA B b z (st.take (ps.getD 1 0)).reverse S M r1 := am_met_of2 ih (by have hp9 := hpc _ _ hq1; rw [l4] at hp9; exact hp9) (hG _ z hz).2.1 hC hA hio hr1 z11 hz
                    generalize has : (st.take (ps.getD 1 0)).reverse = as at hM hlen hrc
                    have hrev1 := hrev (ps.getD 1 0)
                    rw [has] at hrev1
                    unfold am_rc at hrc
                    split at hrc
                    · rename_i a as'
                      simp only [Bool.and_eq_true, decide_eq_true_eq, beq_iff_eq] at hrc
                      have he := am_wl_at (ty := ty) (cA := cA) (B := B) (M := M) hrc.1
                      rw [am_en_ob hrc.2 (hokC _ _ hq1).1] at he
                      obtain ⟨cellB, k1, k2, k3⟩ := va_recv hK hw.1 hq1 he
                      rw [l4] at k3
                      refine am_behind (va_runV (As := as'.map (am_va B b)) (rest := (st.drop (ps.getD 1 0)).map (am_va B b)) (C := z.1.cls) (n := ps.getD 1 0 - 1) (b := B + a) ⟨hx, hb, hml, hown, hts⟩ hM ⟨⟨z1, z2, z3, z4, z5, z6, z7, z8, z9, z10, hts _ (am_in_of l1)⟩, hts _ (am_in_of l2), hts _ (am_in_of l3)⟩ ⟨am_pre_blind, ⟨cellB, k1, k2, k3⟩, (hpre (.ref a :: as')).2⟩ rfl (by rw [List.length_map]; rw [← hlen]; simp) hl.size (by rw [hrev1]; simp [am_va]) (lv_room (by rw [hcat]; exact hsum)) (am_ok_dec hok rfl) hcc) hw.2.2 hst1 (fun H1 locs1 hw1 => key H1 locs1 rfl hw1)
                    · cases hrc
                  · cases hL
                · obtain ⟨hq, hlen, hsum, hrc⟩ := am_call_of hcal
                  cases hq
                  simp only [am_okL, if_neg h9] at hL
                  split at hL
                  · rename_i z hz
                    simp only [Bool.and_eq_true, decide_eq_true_eq, Bool.or_eq_true] at hL
                    obtain ⟨⟨⟨⟨⟨l1, l2⟩, l3⟩, l4⟩, l5⟩, l6⟩ := hL
                    obtain ⟨⟨z1, z2, z3, z4, z5, z6⟩, z7, z8, z9, z10, z11⟩ := am_okZ_of2 (mc := r1.2.1.1 - S.1) (ms := r1.2.1.2.1 - S.2.1) (index := idx) hts hgd hR l6
                    have hnl : am_nL kG (ps.getD 0 0) = z.2.2.1 := by unfold am_nL; rw [hz]
                    rw [hnl] at hio
                    have hp9 : plainName z.1.cls = true := by
                      rcases (hG _ z hz).1 with hp | ⟨-, hzz⟩ | ⟨-, hzz⟩ | ⟨-, hzz⟩ | ⟨-, hzz⟩
                      · exact hp
                      · rw [hzz] at l3; exact absurd l3 (by decide)
                      · rw [hzz] at l3; exact absurd l3 (by decide)
                      · rw [hzz] at l3; exact absurd l3 (by decide)
                      · rw [hzz] at l3; exact absurd l3 (by decide)
                    have hM : am_Met l Tb cl ty D cA B b z (st.take (ps.getD 1 0)).reverse S M r1 := am_met_of2 ih hp9 (hG _ z hz).2.1 hC hA hio hr1 z11 hz
                    generalize has : (st.take (ps.getD 1 0)).reverse = as at hM hlen hrc
                    have hrev1 := hrev (ps.getD 1 0)
                    rw [has] at hrev1
                    obtain ⟨a, as', rfl⟩ := hk _ hrc
                    unfold am_Met at hM
                    rw [l4] at hM z5 z6 z7
                    rcases l1 with l1 | l1
                    · refine am_behind (va_runI (As := as'.map (am_va B b)) (rest := (st.drop (ps.getD 1 0)).map (am_va B b)) (n := ps.getD 1 0 - 1) (b := B + a) ⟨hx, hb, hml, hown, hts⟩ hM ⟨⟨z1, z2, z3, z4, z5, z6, z7, z8, z9, z10, hts _ (am_in_of l1)⟩, l3, hts _ (am_in_of l2)⟩ (hpre (.ref a :: as')) rfl (by rw [List.length_map]; rw [← hlen]; simp) hl.size (by rw [hrev1]; simp [am_va]) (lv_room (by rw [hcat]; exact hsum)) (am_ok_dec hok rfl) hcc) hw.2.2 hst1 (fun H1 locs1 hw1 => key H1 locs1 rfl hw1)
                    · refine am_behind (va_runIN (As := as'.map (am_va B b)) (rest := (st.drop (ps.getD 1 0)).map (am_va B b)) (n := ps.getD 1 0 - 1) (b := B + a) ⟨hx, hb, hml, hown, hts⟩ hM ⟨⟨⟨z1, z2, z3, z4, z5, z6⟩, z7, z8, z9, z10, hts _ (am_in_of l1)⟩, l3, hts _ (am_in_of l2)⟩ (hpre (.ref a :: as')) rfl (by rw [List.length_map]; rw [← hlen]; simp) hl.size (by rw [hrev1]; simp [am_va]) (lv_room (by rw [hcat]; exact hsum)) (am_ok_dec hok rfl) hcc) hw.2.2 hst1 (fun H1 locs1 hw1 => key H1 locs1 rfl hw1)
                  · cases hL
end AMQ
