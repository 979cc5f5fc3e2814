/-! AN ABSTRACT MACHINE over the classes of the claim: objects and arrays by number, ints and longs in a memory of two tables; its runs are carried over to the kit's W once for all (part 02). -/
abbrev am_Lo : Type := List (Option Value)
abbrev am_I : Type := Instr × Nat × List Nat
/-- how many cells, how many slots in all, each cell's kind (below 100: an object of that class; 100 int[], 101 long[], 102 boolean[], 103 int[][]), its length, its references -/
abbrev am_Sh : Type := Nat × Nat × (Nat → Nat) × (Nat → Nat) × (Nat → Nat → Option Nat)
abbrev am_Me : Type := (Nat → Nat → Int32) × (Nat → Nat → Int64)
abbrev am_St : Type := Nat × am_Lo × List Value × am_Sh × am_Me
/-- a call: callee, arguments, where it goes on, the stack below, whether a value is awaited -/
abbrev am_Cl : Type := Nat × List Value × Nat × List Value × Bool
abbrev am_Ac : Type := am_St ⊕ (Option Value ⊕ am_Cl)
abbrev am_Re : Type := Option Value × am_Sh × am_Me
/-- a method: name, bytes, locals, return type, room (frames, locals), its code by places -/
abbrev am_Mt : Type := MethodName × ByteArray × Nat × Option FieldType × (Nat × Nat) × (Nat → Option am_I)
abbrev am_G : Type := Nat → Option am_Mt
abbrev am_X : Type := Nat × (Nat → Int32)
def am_setI (M : am_Me) (a k : Nat) (v : Int32) : am_Me := (fun b => if b = a then upd (M.1 b) k v else M.1 b, M.2)
def am_setL (M : am_Me) (a k : Nat) (v : Int64) : am_Me := (M.1, fun b => if b = a then vp_updL (M.2 b) k v else M.2 b)
def am_setA (M : am_Me) (a : Nat) (f : Nat → Int32) : am_Me := (fun b => if b = a then f else M.1 b, M.2)
def am_clr (M : am_Me) (a : Nat) : am_Me := (fun b => if b = a then fun _ => 0 else M.1 b, fun b => if b = a then fun _ => 0 else M.2 b)
def am_clrs (M : am_Me) (a : Nat) : Nat → am_Me
  | 0 => M
  | n + 1 => am_clr (am_clrs M a n) (a + n)
def am_setR (S : am_Sh) (a k r : Nat) : am_Sh := (S.1, S.2.1, S.2.2.1, S.2.2.2.1, fun b j => if b = a ∧ j = k then some r else S.2.2.2.2 b j)
def am_add (S : am_Sh) (c len : Nat) (rf : Nat → Option Nat) : am_Sh :=
  (S.1 + 1, S.2.1 + len, fun b => if b = S.1 then c else S.2.2.1 b, fun b => if b = S.1 then len else S.2.2.2.1 b, fun b => if b = S.1 then rf else S.2.2.2.2 b)
def am_adds (S : am_Sh) (len : Nat) : Nat → am_Sh
  | 0 => S
  | n + 1 => am_add (am_adds S len n) 100 len (fun _ => none)
/-- an object of a class, with such a field -/
def am_ob (S : am_Sh) (a c k : Nat) : Bool := decide (a < S.1) && (S.2.2.1 a == c) && decide (k < S.2.2.2.1 a)
/-- an array of a kind, with such a place -/
def am_ar (S : am_Sh) (a c : Nat) (i : Int32) : Bool := decide (a < S.1) && (S.2.2.1 a == c) && !decide (i < 0) && decide (i.toNatClampNeg < S.2.2.2.1 a)
def am_c2 : Option Value → Bool
  | some (.long _) => true
  | some (.double _) => true
  | _ => false
def am_kill (ks : List Nat) (loc : am_Lo) : am_Lo := ks.foldl (fun l k => l.set k none) loc
/-- a store of one word: nothing of two words lies just ahead -/
def am_put1 (loc : am_Lo) (i : Nat) (v : Value) : Option am_Lo := if i < loc.length ∧ (i = 0 ∨ am_c2 (loc.getD (i - 1) none) = false) then some (loc.set i (some v)) else none
def am_put2 (loc : am_Lo) (i : Nat) (v : Value) : Option am_Lo := if i + 1 < loc.length ∧ (i = 0 ∨ am_c2 (loc.getD (i - 1) none) = false) then some ((loc.set i (some v)).set (i + 1) none) else none
def am_nx (pc : Nat) (loc : am_Lo) (st : List Value) (S : am_Sh) (M : am_Me) : Option am_Ac := some (.inl (pc, loc, st, S, M))
def am_ld (loc : am_Lo) (i : Nat) : Option Value := match loc[i]? with
  | some (some v) => some v
  | _ => none
def am_isI : Option Value → Bool
  | some (.int _) => true
  | _ => false
def am_isL : Option Value → Bool
  | some (.long _) => true
  | _ => false
def am_isA : Option Value → Bool
  | some (.ref _) => true
  | some (.retAddr _) => true
  | _ => false
def am_tg (pc : Nat) (off : Int) : Nat := ((pc : Int) + off).toNat
def am_load (pc len : Nat) (loc : am_Lo) (i : Nat) (ok : Option Value → Bool) (st : List Value) (S : am_Sh) (M : am_Me) : Option am_Ac :=
  match am_ld loc i with
  | some v => if ok (some v) = true then am_nx (pc + len) loc (v :: st) S M else none
  | none => none
def am_store (pc len : Nat) (ks : List Nat) (loc : am_Lo) (i : Nat) (ok : Option Value → Bool) (st : List Value) (S : am_Sh) (M : am_Me) : Option am_Ac :=
  match st with
  | v :: r => if ok (some v) = true then (match (if am_c2 (some v) then am_put2 (am_kill ks loc) i v else am_put1 (am_kill ks loc) i v) with
    | some l => am_nx (pc + len) l r S M
    | none => none) else none
  | _ => none
def am_cc (c : ClassFile.Cond) (x y : Int32) : Bool := match c with
  | .eq => decide (x = y)
  | .ne => !decide (x = y)
  | .lt => decide (x < y)
  | .ge => decide (y ≤ x)
  | .gt => decide (y < x)
  | .le => decide (x ≤ y)
def am_ii (pc : Nat) (loc : am_Lo) (st : List Value) (S : am_Sh) (M : am_Me) (f : Int32 → Int32 → Int32) : Option am_Ac := match st with
  | .int y :: .int x :: r => am_nx (pc + 1) loc (.int (f x y) :: r) S M
  | _ => none
def am_ll (pc : Nat) (loc : am_Lo) (st : List Value) (S : am_Sh) (M : am_Me) (f : Int64 → Int64 → Int64) : Option am_Ac := match st with
  | .long y :: .long x :: r => am_nx (pc + 1) loc (.long (f x y) :: r) S M
  | _ => none
/-- a call's arguments off the stack -/
def am_call (pc len c n : Nat) (st : List Value) (rv : Bool) (ok : List Value → Bool) : Option am_Ac :=
  let as := (st.take n).reverse
  let r := st.drop n
  if as.length = n ∧ (r.map fun v => v.category).sum ≤ 8 ∧ ok as = true then some (.inr (.inr (c, as, pc + len, r, rv))) else none
def am_rc (S : am_Sh) (ci : Nat) : List Value → Bool
  | .ref a :: _ => decide (a < S.1) && (S.2.2.1 a == ci)
  | _ => false
def am_rr : List Value → Bool
  | .ref _ :: _ => true
  | _ => false
def am_fits (k : Nat) (v : Int32) : Bool := if k = 3 then decide (v = 0) || decide (v = 1) else true
/-- no reference to a cell that isn't there yet -/
def am_ins (X : am_X) (mi : Nat) (ins : Instr) (len : Nat) (ps : List Nat) (pc : Nat) (loc : am_Lo) (st : List Value) (S : am_Sh) (M : am_Me) : Option am_Ac := match ins with
  | .iconst n => am_nx (pc + 1) loc (.int (Int32.ofInt n) :: st) S M
  | .bipush n => am_nx (pc + 2) loc (.int (Int8.ofInt n).toInt32 :: st) S M
  | .sipush n => am_nx (pc + 3) loc (.int (Int16.ofInt n).toInt32 :: st) S M
  | .lconst n => am_nx (pc + 1) loc (.long (Int64.ofNat n.val) :: st) S M
  | .ldc _ => am_nx (pc + 2) loc (.int (Int32.ofInt ((ps.getD 0 0 : Nat) - (ps.getD 1 0 : Nat) : Int)) :: st) S M
  | .ldc_w _ => am_nx (pc + 3) loc (.int (Int32.ofInt ((ps.getD 0 0 : Nat) - (ps.getD 1 0 : Nat) : Int)) :: st) S M
  | .ldc2_w _ => am_nx (pc + 3) loc (.long (Int64.ofInt ((ps.getD 0 0 : Nat) - (ps.getD 1 0 : Nat) : Int)) :: st) S M
  | .iload_n k => am_load pc 1 loc k.val am_isI st S M
  | .iload k => am_load pc 2 loc k am_isI st S M
  | .lload_n k => am_load pc 1 loc k.val am_isL st S M
  | .lload k => am_load pc 2 loc k am_isL st S M
  | .aload_n k => am_load pc 1 loc k.val am_isA st S M
  | .aload k => am_load pc 2 loc k am_isA st S M
  | .istore_n k => am_store pc 1 ps loc k.val am_isI st S M
  | .istore k => am_store pc 2 ps loc k am_isI st S M
  | .lstore_n k => am_store pc 1 ps loc k.val am_isL st S M
  | .lstore k => am_store pc 2 ps loc k am_isL st S M
  | .astore_n k => am_store pc 1 ps loc k.val am_isA st S M
  | .astore k => am_store pc 2 ps loc k am_isA st S M
  | .iinc k n => (match am_ld (am_kill ps loc) k with
    | some (.int x) => (match am_put1 (am_kill ps loc) k (.int (x + Int32.ofInt n)) with
      | some l => am_nx (pc + 3) l st S M
      | none => none)
    | _ => none)
  | .iadd => am_ii pc loc st S M (fun x y => x + y)
  | .isub => am_ii pc loc st S M (fun x y => x - y)
  | .imul => am_ii pc loc st S M (fun x y => x * y)
  | .iand => am_ii pc loc st S M (fun x y => x &&& y)
  | .ior => am_ii pc loc st S M (fun x y => x ||| y)
  | .ishl => am_ii pc loc st S M (fun x y => x <<< (y &&& 31))
  | .ishr => am_ii pc loc st S M (fun x y => x >>> (y &&& 31))
  | .idiv => (match st with
    | .int y :: .int x :: r => if y = 0 then none else am_nx (pc + 1) loc (.int (x / y) :: r) S M
    | _ => none)
  | .irem => (match st with
    | .int y :: .int x :: r => if y = 0 then none else am_nx (pc + 1) loc (.int (x - x / y * y) :: r) S M
    | _ => none)
  | .ineg => (match st with
    | .int x :: r => am_nx (pc + 1) loc (.int (-x) :: r) S M
    | _ => none)
  | .ladd => am_ll pc loc st S M (fun x y => x + y)
  | .lsub => am_ll pc loc st S M (fun x y => x - y)
  | .lmul => am_ll pc loc st S M (fun x y => x * y)
  | .ldiv => (match st with
    | .long y :: .long x :: r => if y = 0 then none else am_nx (pc + 1) loc (.long (x / y) :: r) S M
    | _ => none)
  | .lrem => (match st with
    | .long y :: .long x :: r => if y = 0 then none else am_nx (pc + 1) loc (.long (x - x / y * y) :: r) S M
    | _ => none)
  | .lneg => (match st with
    | .long x :: r => am_nx (pc + 1) loc (.long (-x) :: r) S M
    | _ => none)
  | .lshl => (match st with
    | .int y :: .long x :: r => am_nx (pc + 1) loc (.long (x <<< (y.toInt64 &&& 63)) :: r) S M
    | _ => none)
  | .lshr => (match st with
    | .int y :: .long x :: r => am_nx (pc + 1) loc (.long (x >>> (y.toInt64 &&& 63)) :: r) S M
    | _ => none)
  | .lcmp => (match st with
    | .long y :: .long x :: r => am_nx (pc + 1) loc (.int (lg_cmp x y) :: r) S M
    | _ => none)
  | .i2l => (match st with
    | .int x :: r => am_nx (pc + 1) loc (.long x.toInt64 :: r) S M
    | _ => none)
  | .l2i => (match st with
    | .long x :: r => am_nx (pc + 1) loc (.int x.toInt32 :: r) S M
    | _ => none)
  | .i2b => (match st with
    | .int x :: r => am_nx (pc + 1) loc (.int x.toInt8.toInt32 :: r) S M
    | _ => none)
  | .i2s => (match st with
    | .int x :: r => am_nx (pc + 1) loc (.int x.toInt16.toInt32 :: r) S M
    | _ => none)
  | .dup => (match st with
    | .int x :: r => am_nx (pc + 1) loc (.int x :: .int x :: r) S M
    | .ref x :: r => am_nx (pc + 1) loc (.ref x :: .ref x :: r) S M
    | _ => none)
  | .dup2 => (match st with
    | .int x :: .ref y :: r => am_nx (pc + 1) loc (.int x :: .ref y :: .int x :: .ref y :: r) S M
    | _ => none)
  | .pop => (match st with
    | .int _ :: r => am_nx (pc + 1) loc r S M
    | _ => none)
  | .goto off => am_nx (am_tg pc off) (am_kill ps loc) st S M
  | .ifCond c off => (match st with
    | .int x :: r => am_nx (if am_cc c x 0 = true then am_tg pc off else pc + 3) loc r S M
    | _ => none)
  | .if_icmp c off => (match st with
    | .int y :: .int x :: r => am_nx (if am_cc c x y = true then am_tg pc off else pc + 3) loc r S M
    | _ => none)
  | .tableswitch d lo hi offs => (match st with
    | .int x :: r => if x.toInt < lo ∨ hi < x.toInt then am_nx (am_tg pc d) loc r S M else (match offs[(x.toInt - lo).toNat]? with
      | some o => am_nx (am_tg pc o) loc r S M
      | none => none)
    | _ => none)
  | .getfield _ => (match st with
    | .ref a :: r => if am_ob S a (ps.getD 0 0) (ps.getD 1 0) = true then (match ps.getD 2 0 with
      | 1 => am_nx (pc + 3) loc (.long (M.2 a (ps.getD 1 0)) :: r) S M
      | 2 => (match S.2.2.2.2 a (ps.getD 1 0) with
        | some b => am_nx (pc + 3) loc (.ref b :: r) S M
        | none => none)
      | _ => am_nx (pc + 3) loc (.int (M.1 a (ps.getD 1 0)) :: r) S M) else none
    | _ => none)
  | .putfield _ => (match ps.getD 2 0 with
    | 1 => (match st with
      | .long v :: .ref a :: r => if am_ob S a (ps.getD 0 0) (ps.getD 1 0) = true then am_nx (pc + 3) loc r S (am_setL M a (ps.getD 1 0) v) else none
      | _ => none)
    | 2 => (match st with
      | .ref v :: .ref a :: r => if am_ob S a (ps.getD 0 0) (ps.getD 1 0) = true then am_nx (pc + 3) loc r (am_setR S a (ps.getD 1 0) v) M else none
      | _ => none)
    | k => (match st with
      | .int v :: .ref a :: r => if am_ob S a (ps.getD 0 0) (ps.getD 1 0) = true ∧ am_fits k v = true then am_nx (pc + 3) loc r S (am_setI M a (ps.getD 1 0) v) else none
      | _ => none))
  | .iaload => (match st with
    | .int i :: .ref a :: r => if am_ar S a 100 i = true then am_nx (pc + 1) loc (.int (M.1 a i.toNatClampNeg) :: r) S M else none
    | .int i :: .retAddr _ :: r => if mi = 0 ∧ ¬ (i < 0 ∨ X.1 ≤ i.toNatClampNeg) then am_nx (pc + 1) loc (.int (X.2 i.toNatClampNeg) :: r) S M else none
    | _ => none)
  | .laload => (match st with
    | .int i :: .ref a :: r => if am_ar S a 101 i = true then am_nx (pc + 1) loc (.long (M.2 a i.toNatClampNeg) :: r) S M else none
    | _ => none)
  | .baload => (match st with
    | .int i :: .ref a :: r => if am_ar S a 102 i = true then am_nx (pc + 1) loc (.int (M.1 a i.toNatClampNeg) :: r) S M else none
    | _ => none)
  | .aaload => (match st with
    | .int i :: .ref a :: r => if am_ar S a 103 i = true then (match S.2.2.2.2 a i.toNatClampNeg with
      | some b => am_nx (pc + 1) loc (.ref b :: r) S M
      | none => none) else none
    | _ => none)
  | .iastore => (match st with
    | .int v :: .int i :: .ref a :: r => if am_ar S a 100 i = true then am_nx (pc + 1) loc r S (am_setI M a i.toNatClampNeg v) else none
    | _ => none)
  | .lastore => (match st with
    | .long v :: .int i :: .ref a :: r => if am_ar S a 101 i = true then am_nx (pc + 1) loc r S (am_setL M a i.toNatClampNeg v) else none
    | _ => none)
  | .bastore => (match st with
    | .int v :: .int i :: .ref a :: r => if am_ar S a 102 i = true ∧ am_fits 3 v = true then am_nx (pc + 1) loc r S (am_setI M a i.toNatClampNeg v) else none
    | _ => none)
  | .arraylength => (match st with
    | .ref a :: r => if a < S.1 ∧ S.2.2.1 a = 100 then am_nx (pc + 1) loc (.int (Int32.ofNat (S.2.2.2.1 a)) :: r) S M else none
    | .retAddr _ :: r => if mi = 0 then am_nx (pc + 1) loc (.int (Int32.ofNat X.1) :: r) S M else none
    | _ => none)
  | .new _ => am_nx (pc + 3) loc (.ref S.1 :: st) (am_add S (ps.getD 0 0) (ps.getD 1 0) (fun _ => none)) (am_clr M S.1)
  | .newarray t => (match st with
    | .int n :: r => if ¬ n < 0 ∧ n.toNatClampNeg ≤ 60000000 then (match t with
      | .int => am_nx (pc + 2) loc (.ref S.1 :: r) (am_add S 100 n.toNatClampNeg (fun _ => none)) (am_clr M S.1)
      | .long => am_nx (pc + 2) loc (.ref S.1 :: r) (am_add S 101 n.toNatClampNeg (fun _ => none)) (am_clr M S.1)
      | .boolean => am_nx (pc + 2) loc (.ref S.1 :: r) (am_add S 102 n.toNatClampNeg (fun _ => none)) (am_clr M S.1)
      | _ => none) else none
    | _ => none)
  | .multianewarray _ d => (match st with
    | .int k :: .int n :: r => if d = 2 ∧ ¬ n < 0 ∧ ¬ k < 0 ∧ n.toNatClampNeg ≤ 60000000 ∧ k.toNatClampNeg ≤ 60000000 then
        am_nx (pc + 4) loc (.ref S.1 :: r) (am_adds (am_add S 103 n.toNatClampNeg (fun j => if j < n.toNatClampNeg then some (S.1 + 1 + j) else none)) k.toNatClampNeg n.toNatClampNeg) (am_clrs (am_clr M S.1) (S.1 + 1) n.toNatClampNeg) else none
    | _ => none)
  | .invokestatic _ => (match ps.getD 3 0 with
    | 9 => (match st with
      | .int n :: .int dp :: .ref a1 :: .int sp :: .ref a0 :: r =>
        if a0 < S.1 ∧ S.2.2.1 a0 = 100 ∧ a1 < S.1 ∧ S.2.2.1 a1 = 100 ∧ ¬ sp < 0 ∧ ¬ dp < 0 ∧ ¬ n < 0 ∧ sp.toNatClampNeg + n.toNatClampNeg ≤ S.2.2.2.1 a0 ∧ dp.toNatClampNeg + n.toNatClampNeg ≤ S.2.2.2.1 a1 ∧ (r.map fun v => v.category).sum ≤ 8 then
          am_nx (pc + 3) loc r S (am_setA M a1 (va_cpy (M.1 a0) (M.1 a1) sp.toNatClampNeg dp.toNatClampNeg n.toNatClampNeg)) else none
      | _ => none)
    | k => am_call pc 3 (ps.getD 0 0) (ps.getD 1 0) st (k == 1) (fun _ => true))
  | .invokevirtual _ => am_call pc 3 (ps.getD 0 0) (ps.getD 1 0) st (ps.getD 3 0 == 1) (am_rc S (ps.getD 2 0))
  | .invokespecial _ => (match ps.getD 3 0 with
    | 9 => (match st with
      | .ref _ :: r => if (r.map fun v => v.category).sum ≤ 8 then am_nx (pc + 3) loc r S M else none
      | _ => none)
    | k => am_call pc 3 (ps.getD 0 0) (ps.getD 1 0) st false am_rr)
  | .ireturn => (match st with
    | [.int v] => if am_fits (ps.getD 0 0) v = true then some (.inr (.inl (some (.int v)))) else none
    | _ => none)
  | .lreturn => (match st with
    | [.long v] => some (.inr (.inl (some (.long v))))
    | _ => none)
  | .areturn => (match st with
    | [.ref v] => some (.inr (.inl (some (.ref v))))
    | _ => none)
  | .return_ => (match st with
    | [] => some (.inr (.inl none))
    | _ => none)
  | _ => none
def am_ft (G : am_G) (mi pc : Nat) : Option am_I := match G mi with
  | some m => m.2.2.2.2.2 pc
  | none => none
def am_nL (G : am_G) (mi : Nat) : Nat := match G mi with
  | some m => m.2.2.1
  | none => 0
def am_act (G : am_G) (X : am_X) (mi : Nat) (s : am_St) : Option am_Ac := match am_ft G mi s.1 with
  | some i => am_ins X mi i.1 i.2.1 i.2.2 s.1 s.2.1 s.2.2.1 s.2.2.2.1 s.2.2.2.2
  | none => none
def am_fl (vs : List Value) : am_Lo := vs.flatMap (fun v => if v.category = 2 then [some v, none] else [some v])
def am_in (nL : Nat) (vs : List Value) : am_Lo := am_fl vs ++ List.replicate (nL - (am_fl vs).length) none
def am_io (nL : Nat) (vs : List Value) : Option am_Lo := if (am_fl vs).length ≤ nL then some (am_in nL vs) else none
def am_co (rv : Bool) (v : Option Value) (r : List Value) : Option (List Value) := match rv, v with
  | true, some v => some (v :: r)
  | false, none => some r
  | _, _ => none
def am_go (G : am_G) (X : am_X) : Nat → Nat → am_St → Option am_Re
  | 0, _, _ => none
  | n + 1, mi, s => match am_act G X mi s with
    | none => none
    | some (.inl s') => am_go G X n mi s'
    | some (.inr (.inl v)) => some (v, s.2.2.2.1, s.2.2.2.2)
    | some (.inr (.inr q)) => match am_io (am_nL G q.1) q.2.1 with
      | none => none
      | some lc => match am_go G X n q.1 (0, lc, [], s.2.2.2.1, s.2.2.2.2) with
        | none => none
        | some r => match am_co q.2.2.2.2 r.1 q.2.2.2.1 with
          | none => none
          | some st => am_go G X n mi (q.2.2.1, s.2.1, st, r.2.1, r.2.2)
theorem am_mono1 (G : am_G) (X : am_X) : ∀ (n mi : Nat) (s : am_St) (r : am_Re), am_go G X n mi s = some r → am_go G X (n + 1) mi s = some r
  | 0, mi, s, r, h => by simp [am_go] at h
  | n + 1, mi, s, r, h => by
    rw [am_go] at h
    rw [am_go]
    cases ha : am_act G X mi s with
    | none => rw [ha] at h; simp at h
    | some a =>
      rw [ha] at h
      match a, h with
      | .inl s', h => exact am_mono1 G X n mi s' r h
      | .inr (.inl v), h => exact h
      | .inr (.inr q), h =>
        dsimp only at h ⊢
        cases hio : am_io (am_nL G q.1) q.2.1 with
        | none => rw [hio] at h; simp at h
        | some lc =>
        rw [hio] at h
        dsimp only at h ⊢
        cases hc : am_go G X n q.1 (0, lc, [], s.2.2.2.1, s.2.2.2.2) with
        | none => rw [hc] at h; simp at h
        | some r1 =>
          rw [am_mono1 G X n _ _ _ hc]
          rw [hc] at h
          dsimp only at h ⊢
          cases hk : am_co q.2.2.2.2 r1.1 q.2.2.2.1 with
          | none => rw [hk] at h; simp at h
          | some st =>
            rw [hk] at h
            exact am_mono1 G X n mi _ r h
theorem am_mono (G : am_G) (X : am_X) {n k mi : Nat} {s : am_St} {r : am_Re} (h : am_go G X n mi s = some r) (hk : n ≤ k) : am_go G X k mi s = some r := by
  induction hk with
  | refl => exact h
  | step _ ih => exact am_mono1 G X _ mi s r ih
noncomputable def am_ev (G : am_G) (X : am_X) (mi pc : Nat) (loc : am_Lo) (st : List Value) (S : am_Sh) (M : am_Me) : Option am_Re :=
  @dite _ (∃ r, ∃ n, am_go G X n mi (pc, loc, st, S, M) = some r) (Classical.propDecidable _) (fun h => some (Classical.choose h)) (fun _ => none)
theorem am_ev_iff {G : am_G} {X : am_X} {mi pc : Nat} {loc : am_Lo} {st : List Value} {S : am_Sh} {M : am_Me} {r : am_Re} : am_ev G X mi pc loc st S M = some r ↔ ∃ n, am_go G X n mi (pc, loc, st, S, M) = some r := by
  unfold am_ev
  constructor
  · intro h
    split at h
    · rename_i hh
      obtain ⟨n, hn⟩ := Classical.choose_spec hh
      exact ⟨n, by rw [← Option.some.inj h]; exact hn⟩
    · cases h
  · rintro ⟨n, hn⟩
    have hh : ∃ r, ∃ n, am_go G X n mi (pc, loc, st, S, M) = some r := ⟨r, n, hn⟩
    rw [dif_pos hh]
    obtain ⟨k, hk⟩ := Classical.choose_spec hh
    have h1 := am_mono G X hn (Nat.le_max_left n k)
    have h2 := am_mono G X hk (Nat.le_max_right n k)
    rw [h1] at h2
    exact h2.symm
theorem am_oext {α : Type} {a b : Option α} (h : ∀ r, a = some r ↔ b = some r) : a = b := by
  cases a with
  | none =>
    cases b with
    | none => rfl
    | some y => exact absurd ((h y).mpr rfl) (by simp)
  | some x => exact ((h x).mp rfl).symm
theorem am_ev_nx {G : am_G} {X : am_X} {mi pc pc' : Nat} {loc loc' : am_Lo} {st st' : List Value} {S S' : am_Sh} {M M' : am_Me} (h : am_act G X mi (pc, loc, st, S, M) = some (.inl (pc', loc', st', S', M'))) : am_ev G X mi pc loc st S M = am_ev G X mi pc' loc' st' S' M' := by
  apply am_oext
  intro r
  rw [am_ev_iff, am_ev_iff]
  constructor
  · rintro ⟨n, hn⟩
    cases n with
    | zero => simp [am_go] at hn
    | succ n =>
      rw [am_go, h] at hn
      exact ⟨n, hn⟩
  · rintro ⟨n, hn⟩
    refine ⟨n + 1, ?_⟩
    rw [am_go, h]
    exact hn
theorem am_ev_rt {G : am_G} {X : am_X} {mi pc : Nat} {loc : am_Lo} {st : List Value} {S : am_Sh} {M : am_Me} {v : Option Value} (h : am_act G X mi (pc, loc, st, S, M) = some (.inr (.inl v))) : am_ev G X mi pc loc st S M = some (v, S, M) := by
  rw [am_ev_iff]
  refine ⟨1, ?_⟩
  rw [am_go, h]
/-- what follows a call that gives a value; that gives none -/
def am_bv (x : Option am_Re) (f : Value → am_Sh → am_Me → Option am_Re) : Option am_Re := match x with
  | some (some v, S, M) => f v S M
  | _ => none
def am_bw (x : Option am_Re) (f : am_Sh → am_Me → Option am_Re) : Option am_Re := match x with
  | some (none, S, M) => f S M
  | _ => none
theorem am_bv_s {v : Value} {S : am_Sh} {M : am_Me} {f : Value → am_Sh → am_Me → Option am_Re} : am_bv (some (some v, S, M)) f = f v S M := rfl
theorem am_bw_s {S : am_Sh} {M : am_Me} {f : am_Sh → am_Me → Option am_Re} : am_bw (some (none, S, M)) f = f S M := rfl
theorem am_ev_cv {G : am_G} {X : am_X} {mi pc pc' c : Nat} {loc lc : am_Lo} {st as r : List Value} {S : am_Sh} {M : am_Me} (h : am_act G X mi (pc, loc, st, S, M) = some (.inr (.inr (c, as, pc', r, true)))) (hl : am_io (am_nL G c) as = some lc) :
    am_ev G X mi pc loc st S M = am_bv (am_ev G X c 0 lc [] S M) (fun v S' M' => am_ev G X mi pc' loc (v :: r) S' M') := by
  apply am_oext
  intro q
  rw [am_ev_iff]
  constructor
  · rintro ⟨n, hn⟩
    cases n with
    | zero => simp [am_go] at hn
    | succ n =>
      rw [am_go, h] at hn
      dsimp only at hn
      rw [hl] at hn
      dsimp only at hn
      cases hc : am_go G X n c (0, lc, [], S, M) with
      | none => rw [hc] at hn; simp at hn
      | some r1 =>
        rw [hc] at hn
        rw [am_ev_iff.mpr ⟨n, hc⟩]
        obtain ⟨v1, S1, M1⟩ := r1
        cases v1 with
        | none => simp [am_co] at hn
        | some v1 => exact am_ev_iff.mpr ⟨n, hn⟩
  · intro hq
    cases hc : am_ev G X c 0 lc [] S M with
    | none => rw [hc] at hq; simp [am_bv] at hq
    | some r1 =>
      rw [hc] at hq
      obtain ⟨v1, S1, M1⟩ := r1
      cases v1 with
      | none => simp [am_bv] at hq
      | some v1 =>
        obtain ⟨n1, h1⟩ := am_ev_iff.mp hc
        obtain ⟨n2, h2⟩ := am_ev_iff.mp hq
        refine ⟨n1 + n2 + 1, ?_⟩
        rw [am_go, h]
        dsimp only
        rw [hl]
        dsimp only
        rw [am_mono G X h1 (Nat.le_add_right n1 n2)]
        exact am_mono G X h2 (Nat.le_add_left n2 n1)
theorem am_ev_cw {G : am_G} {X : am_X} {mi pc pc' c : Nat} {loc lc : am_Lo} {st as r : List Value} {S : am_Sh} {M : am_Me} (h : am_act G X mi (pc, loc, st, S, M) = some (.inr (.inr (c, as, pc', r, false)))) (hl : am_io (am_nL G c) as = some lc) :
    am_ev G X mi pc loc st S M = am_bw (am_ev G X c 0 lc [] S M) (fun S' M' => am_ev G X mi pc' loc r S' M') := by
  apply am_oext
  intro q
  rw [am_ev_iff]
  constructor
  · rintro ⟨n, hn⟩
    cases n with
    | zero => simp [am_go] at hn
    | succ n =>
      rw [am_go, h] at hn
      dsimp only at hn
      rw [hl] at hn
      dsimp only at hn
      cases hc : am_go G X n c (0, lc, [], S, M) with
      | none => rw [hc] at hn; simp at hn
      | some r1 =>
        rw [hc] at hn
        rw [am_ev_iff.mpr ⟨n, hc⟩]
        obtain ⟨v1, S1, M1⟩ := r1
        cases v1 with
        | some v1 => simp [am_co] at hn
        | none => exact am_ev_iff.mpr ⟨n, hn⟩
  · intro hq
    cases hc : am_ev G X c 0 lc [] S M with
    | none => rw [hc] at hq; simp [am_bw] at hq
    | some r1 =>
      rw [hc] at hq
      obtain ⟨v1, S1, M1⟩ := r1
      cases v1 with
      | some v1 => simp [am_bw] at hq
      | none =>
        obtain ⟨n1, h1⟩ := am_ev_iff.mp hc
        obtain ⟨n2, h2⟩ := am_ev_iff.mp hq
        refine ⟨n1 + n2 + 1, ?_⟩
        rw [am_go, h]
        dsimp only
        rw [hl]
        dsimp only
        rw [am_mono G X h1 (Nat.le_add_right n1 n2)]
        exact am_mono G X h2 (Nat.le_add_left n2 n1)
