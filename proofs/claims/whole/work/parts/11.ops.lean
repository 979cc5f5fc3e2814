/-! one instruction at a time, as equations -/
noncomputable abbrev am_e (X : am_X) (mi pc : Nat) (loc : am_Lo) (st : List Value) (S : am_Sh) (M : am_Me) : Option am_Re := am_ev kG X mi pc loc st S M
/-- the reference in a place, and whether there is one -/
def am_rf (S : am_Sh) (a k : Nat) : Nat := (S.2.2.2.2 a k).getD 0
def am_hs (S : am_Sh) (a k : Nat) : Bool := (S.2.2.2.2 a k).isSome
theorem am_hs_of {S : am_Sh} {a k : Nat} (h : am_hs S a k = true) : S.2.2.2.2 a k = some (am_rf S a k) := by
  unfold am_hs at h
  unfold am_rf
  cases hh : S.2.2.2.2 a k with
  | none => rw [hh] at h; cases h
  | some b => rfl
def am_is (S : am_Sh) (a c : Nat) : Bool := decide (a < S.1) && (S.2.2.1 a == c)
section KOP
variable {X : am_X} {mi pc : Nat} {ins : Instr} {len : Nat} {ps : List Nat} {loc : am_Lo} {st : List Value} {S : am_Sh} {M : am_Me} {r : Option am_Ac}
theorem kA (hf : am_ft kG mi pc = some (ins, len, ps)) (h : am_ins X mi ins len ps pc loc st S M = r) : am_act kG X mi (pc, loc, st, S, M) = r := by
  unfold am_act
  rw [hf]
  exact h
theorem kN {pc' : Nat} {loc' : am_Lo} {st' : List Value} {S' : am_Sh} {M' : am_Me} (hf : am_ft kG mi pc = some (ins, len, ps)) (h : am_ins X mi ins len ps pc loc st S M = some (.inl (pc', loc', st', S', M'))) : am_e X mi pc loc st S M = am_e X mi pc' loc' st' S' M' := am_ev_nx (kA hf h)
theorem kR {v : Option Value} (hf : am_ft kG mi pc = some (ins, len, ps)) (h : am_ins X mi ins len ps pc loc st S M = some (.inr (.inl v))) : am_e X mi pc loc st S M = some (v, S, M) := am_ev_rt (kA hf h)
theorem kIc {n : Int} {v : Int32} {u : Nat} (hf : am_ft kG mi pc = some (.iconst n, len, ps)) (hu : pc + 1 = u) (hv : Int32.ofInt n = v) : am_e X mi pc loc st S M = am_e X mi u loc (.int v :: st) S M := by
  subst hu hv; exact kN hf rfl
theorem kBi {n : Int} {v : Int32} {u : Nat} (hf : am_ft kG mi pc = some (.bipush n, len, ps)) (hu : pc + 2 = u) (hv : (Int8.ofInt n).toInt32 = v) : am_e X mi pc loc st S M = am_e X mi u loc (.int v :: st) S M := by
  subst hu hv; exact kN hf rfl
theorem kSi {n : Int} {v : Int32} {u : Nat} (hf : am_ft kG mi pc = some (.sipush n, len, ps)) (hu : pc + 3 = u) (hv : (Int16.ofInt n).toInt32 = v) : am_e X mi pc loc st S M = am_e X mi u loc (.int v :: st) S M := by
  subst hu hv; exact kN hf rfl
theorem kLc {n : Fin 2} {v : Int64} {u : Nat} (hf : am_ft kG mi pc = some (.lconst n, len, ps)) (hu : pc + 1 = u) (hv : Int64.ofNat n.val = v) : am_e X mi pc loc st S M = am_e X mi u loc (.long v :: st) S M := by
  subst hu hv; exact kN hf rfl
theorem kDc {n p0 a b : Nat} {v : Int32} {u : Nat} (hf : am_ft kG mi pc = some (.ldc n, len, [a, b, p0])) (hu : pc + 2 = u) (hv : Int32.ofInt ((a : Nat) - (b : Nat) : Int) = v) : am_e X mi pc loc st S M = am_e X mi u loc (.int v :: st) S M := by
  subst hu hv; exact kN hf rfl
theorem kDw {n p0 a b : Nat} {v : Int32} {u : Nat} (hf : am_ft kG mi pc = some (.ldc_w n, len, [a, b, p0])) (hu : pc + 3 = u) (hv : Int32.ofInt ((a : Nat) - (b : Nat) : Int) = v) : am_e X mi pc loc st S M = am_e X mi u loc (.int v :: st) S M := by
  subst hu hv; exact kN hf rfl
theorem kD2 {n p0 a b : Nat} {v : Int64} {u : Nat} (hf : am_ft kG mi pc = some (.ldc2_w n, len, [a, b, p0])) (hu : pc + 3 = u) (hv : Int64.ofInt ((a : Nat) - (b : Nat) : Int) = v) : am_e X mi pc loc st S M = am_e X mi u loc (.long v :: st) S M := by
  subst hu hv; exact kN hf rfl
theorem kInc {k : Nat} {n : Int} {v x : Int32} {u : Nat} {l' : am_Lo} (hf : am_ft kG mi pc = some (.iinc k n, len, ps)) (hu : pc + 3 = u) (hv : Int32.ofInt n = v) (hl : am_ld (am_kill ps loc) k = some (.int x)) (hp : am_put1 (am_kill ps loc) k (.int (x + v)) = some l') : am_e X mi pc loc st S M = am_e X mi u l' st S M := by
  subst hu hv
  refine kN hf ?_
  unfold am_ins
  dsimp only
  rw [hl]
  dsimp only
  rw [hp]
  rfl
theorem kIf {k : ClassFile.Cond} {off : Int} {x : Int32} {c : Prop} [d : Decidable c] {t u : Nat} (hf : am_ft kG mi pc = some (.ifCond k off, len, ps)) (hc : am_cc k x 0 = decide c) (ht : am_tg pc off = t) (hu : pc + 3 = u) : am_e X mi pc loc (.int x :: st) S M = if c then am_e X mi t loc st S M else am_e X mi u loc st S M := by
  subst ht hu
  by_cases h : c
  · rw [if_pos h]
    exact kN hf (by show am_nx (if am_cc k x 0 = true then _ else _) loc st S M = _; rw [hc, if_pos (decide_eq_true h)]; rfl)
  · rw [if_neg h]
    exact kN hf (by show am_nx (if am_cc k x 0 = true then _ else _) loc st S M = _; rw [hc, if_neg (by simp [h])]; rfl)
theorem kCm {k : ClassFile.Cond} {off : Int} {x y : Int32} {c : Prop} [d : Decidable c] {t u : Nat} (hf : am_ft kG mi pc = some (.if_icmp k off, len, ps)) (hc : am_cc k x y = decide c) (ht : am_tg pc off = t) (hu : pc + 3 = u) : am_e X mi pc loc (.int y :: .int x :: st) S M = if c then am_e X mi t loc st S M else am_e X mi u loc st S M := by
  subst ht hu
  by_cases h : c
  · rw [if_pos h]
    exact kN hf (by show am_nx (if am_cc k x y = true then _ else _) loc st S M = _; rw [hc, if_pos (decide_eq_true h)]; rfl)
  · rw [if_neg h]
    exact kN hf (by show am_nx (if am_cc k x y = true then _ else _) loc st S M = _; rw [hc, if_neg (by simp [h])]; rfl)
theorem kNe {x y : Int32} : am_cc .ne x y = decide (¬ x = y) := by simp [am_cc]
theorem kSwO {d lo hi : Int} {offs : Array Int} {x : Int32} {t : Nat} (hf : am_ft kG mi pc = some (.tableswitch d lo hi offs, len, ps)) (h : x.toInt < lo ∨ hi < x.toInt) (ht : am_tg pc d = t) : am_e X mi pc loc (.int x :: st) S M = am_e X mi t loc st S M := by
  subst ht
  exact kN hf (if_pos h)
theorem kSwI {d lo hi o : Int} {offs : Array Int} {x : Int32} {t j : Nat} (hf : am_ft kG mi pc = some (.tableswitch d lo hi offs, len, ps)) (h : ¬ (x.toInt < lo ∨ hi < x.toInt)) (hj : (x.toInt - lo).toNat = j) (ho : offs[j]? = some o) (ht : am_tg pc o = t) : am_e X mi pc loc (.int x :: st) S M = am_e X mi t loc st S M := by
  subst ht
  subst hj
  refine kN hf ((if_neg h).trans ?_)
  rw [ho]
  rfl
theorem kId {x y : Int32} {u : Nat} (hf : am_ft kG mi pc = some (.idiv, len, ps)) (hu : pc + 1 = u) (h : ¬ y = 0) : am_e X mi pc loc (.int y :: .int x :: st) S M = am_e X mi u loc (.int (x / y) :: st) S M := by
  subst hu
  exact kN hf (if_neg h)
theorem kIr {x y : Int32} {u : Nat} (hf : am_ft kG mi pc = some (.irem, len, ps)) (hu : pc + 1 = u) (h : ¬ y = 0) : am_e X mi pc loc (.int y :: .int x :: st) S M = am_e X mi u loc (.int (x - x / y * y) :: st) S M := by
  subst hu
  exact kN hf (if_neg h)
theorem kLd {x y : Int64} {u : Nat} (hf : am_ft kG mi pc = some (.ldiv, len, ps)) (hu : pc + 1 = u) (h : ¬ y = 0) : am_e X mi pc loc (.long y :: .long x :: st) S M = am_e X mi u loc (.long (x / y) :: st) S M := by
  subst hu
  exact kN hf (if_neg h)
theorem kLr {x y : Int64} {u : Nat} (hf : am_ft kG mi pc = some (.lrem, len, ps)) (hu : pc + 1 = u) (h : ¬ y = 0) : am_e X mi pc loc (.long y :: .long x :: st) S M = am_e X mi u loc (.long (x - x / y * y) :: st) S M := by
  subst hu
  exact kN hf (if_neg h)
theorem kGetI {n a c k z p0 u : Nat} (hf : am_ft kG mi pc = some (.getfield n, len, [c, k, z, p0])) (hz : z = 0 ∨ z = 3) (hu : pc + 3 = u) (h : am_ob S a c k = true) : am_e X mi pc loc (.ref a :: st) S M = am_e X mi u loc (.int (M.1 a k) :: st) S M := by
  subst hu
  refine kN hf ((if_pos h).trans ?_)
  rcases hz with rfl | rfl <;> rfl
theorem kGetL {n a c k p0 u : Nat} (hf : am_ft kG mi pc = some (.getfield n, len, [c, k, 1, p0])) (hu : pc + 3 = u) (h : am_ob S a c k = true) : am_e X mi pc loc (.ref a :: st) S M = am_e X mi u loc (.long (M.2 a k) :: st) S M := by
  subst hu
  exact kN hf (if_pos h)
theorem kGetR {n a c k p0 u : Nat} (hf : am_ft kG mi pc = some (.getfield n, len, [c, k, 2, p0])) (hu : pc + 3 = u) (h : am_ob S a c k = true) (hb : am_hs S a k = true) : am_e X mi pc loc (.ref a :: st) S M = am_e X mi u loc (.ref (am_rf S a k) :: st) S M := by
  subst hu
  refine kN hf ((if_pos h).trans ?_)
  show (match S.2.2.2.2 a k with
    | some b => am_nx (pc + 3) loc (.ref b :: st) S M
    | none => none) = _
  rw [am_hs_of hb]
  rfl
theorem kPutI {n a c k p0 u : Nat} {v : Int32} (hf : am_ft kG mi pc = some (.putfield n, len, [c, k, 0, p0])) (hu : pc + 3 = u) (h : am_ob S a c k = true) : am_e X mi pc loc (.int v :: .ref a :: st) S M = am_e X mi u loc st S (am_setI M a k v) := by
  subst hu
  exact kN hf (if_pos ⟨h, rfl⟩)
theorem kPutZ {n a c k p0 u : Nat} {v : Int32} (hf : am_ft kG mi pc = some (.putfield n, len, [c, k, 3, p0])) (hu : pc + 3 = u) (h : am_ob S a c k = true) (hv : v = 0 ∨ v = 1) : am_e X mi pc loc (.int v :: .ref a :: st) S M = am_e X mi u loc st S (am_setI M a k v) := by
  subst hu
  exact kN hf (if_pos ⟨h, by rcases hv with rfl | rfl <;> rfl⟩)
theorem kPutL {n a c k p0 u : Nat} {v : Int64} (hf : am_ft kG mi pc = some (.putfield n, len, [c, k, 1, p0])) (hu : pc + 3 = u) (h : am_ob S a c k = true) : am_e X mi pc loc (.long v :: .ref a :: st) S M = am_e X mi u loc st S (am_setL M a k v) := by
  subst hu
  exact kN hf (if_pos h)
theorem kPutR {n a c k p0 u v : Nat} (hf : am_ft kG mi pc = some (.putfield n, len, [c, k, 2, p0])) (hu : pc + 3 = u) (h : am_ob S a c k = true) : am_e X mi pc loc (.ref v :: .ref a :: st) S M = am_e X mi u loc st (am_setR S a k v) M := by
  subst hu
  exact kN hf (if_pos h)
theorem kIal {a u : Nat} {i : Int32} (hf : am_ft kG mi pc = some (.iaload, len, ps)) (hu : pc + 1 = u) (h : am_ar S a 100 i = true) : am_e X mi pc loc (.int i :: .ref a :: st) S M = am_e X mi u loc (.int (M.1 a i.toNatClampNeg) :: st) S M := by
  subst hu
  exact kN hf (if_pos h)
theorem kSal {a u : Nat} {i : Int32} (hf : am_ft kG 0 pc = some (.iaload, len, ps)) (hu : pc + 1 = u) (h : ¬ (i < 0 ∨ X.1 ≤ i.toNatClampNeg)) : am_e X 0 pc loc (.int i :: .retAddr a :: st) S M = am_e X 0 u loc (.int (X.2 i.toNatClampNeg) :: st) S M := by
  subst hu
  exact kN hf (if_pos ⟨rfl, h⟩)
theorem kLal {a u : Nat} {i : Int32} (hf : am_ft kG mi pc = some (.laload, len, ps)) (hu : pc + 1 = u) (h : am_ar S a 101 i = true) : am_e X mi pc loc (.int i :: .ref a :: st) S M = am_e X mi u loc (.long (M.2 a i.toNatClampNeg) :: st) S M := by
  subst hu
  exact kN hf (if_pos h)
theorem kZal {a u : Nat} {i : Int32} (hf : am_ft kG mi pc = some (.baload, len, ps)) (hu : pc + 1 = u) (h : am_ar S a 102 i = true) : am_e X mi pc loc (.int i :: .ref a :: st) S M = am_e X mi u loc (.int (M.1 a i.toNatClampNeg) :: st) S M := by
  subst hu
  exact kN hf (if_pos h)
theorem kAal {a u : Nat} {i : Int32} (hf : am_ft kG mi pc = some (.aaload, len, ps)) (hu : pc + 1 = u) (h : am_ar S a 103 i = true) (hb : am_hs S a i.toNatClampNeg = true) : am_e X mi pc loc (.int i :: .ref a :: st) S M = am_e X mi u loc (.ref (am_rf S a i.toNatClampNeg) :: st) S M := by
  subst hu
  refine kN hf ((if_pos h).trans ?_)
  rw [am_hs_of hb]
  rfl
theorem kIas {a u : Nat} {i v : Int32} (hf : am_ft kG mi pc = some (.iastore, len, ps)) (hu : pc + 1 = u) (h : am_ar S a 100 i = true) : am_e X mi pc loc (.int v :: .int i :: .ref a :: st) S M = am_e X mi u loc st S (am_setI M a i.toNatClampNeg v) := by
  subst hu
  exact kN hf (if_pos h)
theorem kLas {a u : Nat} {i : Int32} {v : Int64} (hf : am_ft kG mi pc = some (.lastore, len, ps)) (hu : pc + 1 = u) (h : am_ar S a 101 i = true) : am_e X mi pc loc (.long v :: .int i :: .ref a :: st) S M = am_e X mi u loc st S (am_setL M a i.toNatClampNeg v) := by
  subst hu
  exact kN hf (if_pos h)
theorem kZas {a u : Nat} {i v : Int32} (hf : am_ft kG mi pc = some (.bastore, len, ps)) (hu : pc + 1 = u) (h : am_ar S a 102 i = true) (hv : v = 0 ∨ v = 1) : am_e X mi pc loc (.int v :: .int i :: .ref a :: st) S M = am_e X mi u loc st S (am_setI M a i.toNatClampNeg v) := by
  subst hu
  exact kN hf (if_pos ⟨h, by rcases hv with rfl | rfl <;> rfl⟩)
theorem kLen {a u : Nat} (hf : am_ft kG mi pc = some (.arraylength, len, ps)) (hu : pc + 1 = u) (h : am_is S a 100 = true) : am_e X mi pc loc (.ref a :: st) S M = am_e X mi u loc (.int (Int32.ofNat (S.2.2.2.1 a)) :: st) S M := by
  subst hu
  simp only [am_is, Bool.and_eq_true, decide_eq_true_eq, beq_iff_eq] at h
  exact kN hf (if_pos h)
theorem kSle {a u : Nat} (hf : am_ft kG 0 pc = some (.arraylength, len, ps)) (hu : pc + 1 = u) : am_e X 0 pc loc (.retAddr a :: st) S M = am_e X 0 u loc (.int (Int32.ofNat X.1) :: st) S M := by
  subst hu
  exact kN hf (show (if (0 : Nat) = 0 then am_nx (pc + 1) loc (.int (Int32.ofNat X.1) :: st) S M else none) = _ from if_pos rfl)
theorem kRz {v : Int32} (hf : am_ft kG mi pc = some (.ireturn, len, [3])) (hv : v = 0 ∨ v = 1) : am_e X mi pc loc [.int v] S M = some (some (.int v), S, M) := kR hf (if_pos (by rcases hv with rfl | rfl <;> rfl))
theorem kNwi {n : Int32} {u : Nat} (hf : am_ft kG mi pc = some (.newarray .int, len, ps)) (hu : pc + 2 = u) (h : ¬ n < 0 ∧ n.toNatClampNeg ≤ 60000000) : am_e X mi pc loc (.int n :: st) S M = am_e X mi u loc (.ref S.1 :: st) (am_add S 100 n.toNatClampNeg (fun _ => none)) (am_clr M S.1) := by
  subst hu
  exact kN hf (if_pos h)
theorem kNwl {n : Int32} {u : Nat} (hf : am_ft kG mi pc = some (.newarray .long, len, ps)) (hu : pc + 2 = u) (h : ¬ n < 0 ∧ n.toNatClampNeg ≤ 60000000) : am_e X mi pc loc (.int n :: st) S M = am_e X mi u loc (.ref S.1 :: st) (am_add S 101 n.toNatClampNeg (fun _ => none)) (am_clr M S.1) := by
  subst hu
  exact kN hf (if_pos h)
theorem kNwz {n : Int32} {u : Nat} (hf : am_ft kG mi pc = some (.newarray .boolean, len, ps)) (hu : pc + 2 = u) (h : ¬ n < 0 ∧ n.toNatClampNeg ≤ 60000000) : am_e X mi pc loc (.int n :: st) S M = am_e X mi u loc (.ref S.1 :: st) (am_add S 102 n.toNatClampNeg (fun _ => none)) (am_clr M S.1) := by
  subst hu
  exact kN hf (if_pos h)
theorem kMna {n k : Int32} {i u : Nat} (hf : am_ft kG mi pc = some (.multianewarray i 2, len, ps)) (hu : pc + 4 = u) (h1 : ¬ n < 0) (h2 : ¬ k < 0) (h3 : n.toNatClampNeg ≤ 60000000) (h4 : k.toNatClampNeg ≤ 60000000) : am_e X mi pc loc (.int k :: .int n :: st) S M = am_e X mi u loc (.ref S.1 :: st) (am_adds (am_add S 103 n.toNatClampNeg (fun j => if j < n.toNatClampNeg then some (S.1 + 1 + j) else none)) k.toNatClampNeg n.toNatClampNeg) (am_clrs (am_clr M S.1) (S.1 + 1) n.toNatClampNeg) := by
  subst hu
  exact kN hf (if_pos ⟨rfl, h1, h2, h3, h4⟩)
theorem kCpy {a0 a1 i u : Nat} {n dp sp : Int32} (hf : am_ft kG mi pc = some (.invokestatic i, len, ps)) (h9 : ps.getD 3 0 = 9) (hu : pc + 3 = u) (g1 : am_is S a0 100 = true) (g2 : am_is S a1 100 = true) (h1 : ¬ sp < 0) (h2 : ¬ dp < 0) (h3 : ¬ n < 0) (h4 : sp.toNatClampNeg + n.toNatClampNeg ≤ S.2.2.2.1 a0) (h5 : dp.toNatClampNeg + n.toNatClampNeg ≤ S.2.2.2.1 a1) :
    am_e X mi pc loc [.int n, .int dp, .ref a1, .int sp, .ref a0] S M = am_e X mi u loc [] S (am_setA M a1 (va_cpy (M.1 a0) (M.1 a1) sp.toNatClampNeg dp.toNatClampNeg n.toNatClampNeg)) := by
  subst hu
  simp only [am_is, Bool.and_eq_true, decide_eq_true_eq, beq_iff_eq] at g1 g2
  refine kN hf ?_
  unfold am_ins
  dsimp only
  rw [h9]
  exact if_pos ⟨g1.1, g1.2, g2.1, g2.2, h1, h2, h3, h4, h5, by simp⟩
theorem kOb {a i u : Nat} (hf : am_ft kG mi pc = some (.invokespecial i, len, ps)) (h9 : ps.getD 3 0 = 9) (hu : pc + 3 = u) (hr : (st.map fun v => v.category).sum ≤ 8) : am_e X mi pc loc (.ref a :: st) S M = am_e X mi u loc st S M := by
  subst hu
  refine kN hf ?_
  unfold am_ins
  dsimp only
  rw [h9]
  exact if_pos hr
theorem kSv {i c n u : Nat} {as r : List Value} {lc : am_Lo} {b0 b1 b2 b3 b4 b5 : Nat} (hf : am_ft kG mi pc = some (.invokestatic i, len, [c, n, b0, 1, b1, b2, b3, b4, b5])) (hu : pc + 3 = u) (ht : (st.take n).reverse = as) (hd : st.drop n = r) (hl : as.length = n) (hr : (r.map fun v => v.category).sum ≤ 8) (hio : am_io (am_nL kG c) as = some lc) :
    am_e X mi pc loc st S M = am_bv (am_e X c 0 lc [] S M) (fun v S' M' => am_e X mi u loc (v :: r) S' M') := by
  subst hu ht hd
  exact am_ev_cv (kA hf (if_pos ⟨hl, hr, rfl⟩)) hio
theorem kSw {i c n u : Nat} {as r : List Value} {lc : am_Lo} {b0 b1 b2 b3 b4 b5 : Nat} (hf : am_ft kG mi pc = some (.invokestatic i, len, [c, n, b0, 0, b1, b2, b3, b4, b5])) (hu : pc + 3 = u) (ht : (st.take n).reverse = as) (hd : st.drop n = r) (hl : as.length = n) (hr : (r.map fun v => v.category).sum ≤ 8) (hio : am_io (am_nL kG c) as = some lc) :
    am_e X mi pc loc st S M = am_bw (am_e X c 0 lc [] S M) (fun S' M' => am_e X mi u loc r S' M') := by
  subst hu ht hd
  exact am_ev_cw (kA hf (if_pos ⟨hl, hr, rfl⟩)) hio
theorem kVv {i c n u a ci : Nat} {as r : List Value} {lc : am_Lo} {b1 b2 b3 b4 b5 : Nat} (hf : am_ft kG mi pc = some (.invokevirtual i, len, [c, n, ci, 1, b1, b2, b3, b4, b5])) (hu : pc + 3 = u) (ht : (st.take n).reverse = .ref a :: as) (hd : st.drop n = r) (hl : as.length + 1 = n) (hr : (r.map fun v => v.category).sum ≤ 8) (hio : am_io (am_nL kG c) (.ref a :: as) = some lc) (h : am_is S a ci = true) :
    am_e X mi pc loc st S M = am_bv (am_e X c 0 lc [] S M) (fun v S' M' => am_e X mi u loc (v :: r) S' M') := by
  subst hu hd
  refine am_ev_cv (as := .ref a :: as) (kA hf ?_) hio
  show am_call pc 3 c n st true (am_rc S ci) = _
  unfold am_call
  rw [ht]
  exact if_pos ⟨hl, hr, h⟩
theorem kVw {i c n u a ci : Nat} {as r : List Value} {lc : am_Lo} {b1 b2 b3 b4 b5 : Nat} (hf : am_ft kG mi pc = some (.invokevirtual i, len, [c, n, ci, 0, b1, b2, b3, b4, b5])) (hu : pc + 3 = u) (ht : (st.take n).reverse = .ref a :: as) (hd : st.drop n = r) (hl : as.length + 1 = n) (hr : (r.map fun v => v.category).sum ≤ 8) (hio : am_io (am_nL kG c) (.ref a :: as) = some lc) (h : am_is S a ci = true) :
    am_e X mi pc loc st S M = am_bw (am_e X c 0 lc [] S M) (fun S' M' => am_e X mi u loc r S' M') := by
  subst hu hd
  refine am_ev_cw (as := .ref a :: as) (kA hf ?_) hio
  show am_call pc 3 c n st false (am_rc S ci) = _
  unfold am_call
  rw [ht]
  exact if_pos ⟨hl, hr, h⟩
theorem kPw {i c n u a : Nat} {as r : List Value} {lc : am_Lo} {b0 b1 b2 b3 b4 b5 : Nat} (hf : am_ft kG mi pc = some (.invokespecial i, len, [c, n, b0, 0, b1, b2, b3, b4, b5])) (hu : pc + 3 = u) (ht : (st.take n).reverse = .ref a :: as) (hd : st.drop n = r) (hl : as.length + 1 = n) (hr : (r.map fun v => v.category).sum ≤ 8) (hio : am_io (am_nL kG c) (.ref a :: as) = some lc) :
    am_e X mi pc loc st S M = am_bw (am_e X c 0 lc [] S M) (fun S' M' => am_e X mi u loc r S' M') := by
  subst hu hd
  refine am_ev_cw (as := .ref a :: as) (kA hf ?_) hio
  show am_call pc 3 c n st false am_rr = _
  unfold am_call
  rw [ht]
  exact if_pos ⟨hl, hr, rfl⟩
theorem kGe {x y : Int32} : am_cc .ge x y = decide (¬ x < y) := by simp [am_cc, Int32.not_lt]
theorem kLe {x y : Int32} : am_cc .le x y = decide (¬ y < x) := by simp [am_cc, Int32.not_lt]
theorem kIfN {k : ClassFile.Cond} {off : Int} {x : Int32} {t u : Nat} {q : Prop} [d : Decidable q] (hf : am_ft kG mi pc = some (.ifCond k off, len, ps)) (hc : am_cc k x 0 = decide (¬ q)) (ht : am_tg pc off = t) (hu : pc + 3 = u) : am_e X mi pc loc (.int x :: st) S M = if q then am_e X mi u loc st S M else am_e X mi t loc st S M := by
  rw [kIf hf hc ht hu]
  by_cases h : q
  · rw [if_pos h, if_neg (fun z => z h)]
  · rw [if_neg h, if_pos h]
theorem kCmN {k : ClassFile.Cond} {off : Int} {x y : Int32} {t u : Nat} {q : Prop} [d : Decidable q] (hf : am_ft kG mi pc = some (.if_icmp k off, len, ps)) (hc : am_cc k x y = decide (¬ q)) (ht : am_tg pc off = t) (hu : pc + 3 = u) : am_e X mi pc loc (.int y :: .int x :: st) S M = if q then am_e X mi u loc st S M else am_e X mi t loc st S M := by
  rw [kCm hf hc ht hu]
  by_cases h : q
  · rw [if_pos h, if_neg (fun z => z h)]
  · rw [if_neg h, if_pos h]
end KOP
