/-! THE SMALL MACHINE: values, heap, steps -/
abbrev AV : Type := Int ⊕ (Nat ⊕ (Int ⊕ (Int ⊕ (Int ⊕ Unit))))
abbrev aI (x : Int) : AV := .inl x
abbrev aR (a : Nat) : AV := .inr (.inl a)
abbrev aL (x : Int) : AV := .inr (.inr (.inl x))
abbrev aF (x : Int) : AV := .inr (.inr (.inr (.inl x)))
abbrev aD (x : Int) : AV := .inr (.inr (.inr (.inr (.inl x))))
abbrev aU : AV := .inr (.inr (.inr (.inr (.inr ()))))
/-- objects made, their slots, kinds, lengths, references -/
abbrev AG : Type := Nat × Nat × (Nat → Nat) × (Nat → Nat) × (Nat → Int → Nat)
abbrev AM : Type := Nat → Int → Int
def gN (g : AG) : Nat := g.1
def gS (g : AG) : Nat := g.2.1
def gK (g : AG) : Nat → Nat := g.2.2.1
def gL (g : AG) : Nat → Nat := g.2.2.2.1
def gR (g : AG) : Nat → Int → Nat := g.2.2.2.2
abbrev AO : Type := Option AV ⊕ Nat
def wr (x : Int) : Int := x.bmod 4294967296
def wl (x : Int) : Int := x.bmod 18446744073709551616
def upN (f : Nat → Nat) (k v : Nat) : Nat → Nat := fun j => if j = k then v else f j
def upI (f : Int → Int) (k v : Int) : Int → Int := fun j => if j = k then v else f j
def upM (m : AM) (a : Nat) (f : Int → Int) : AM := fun b => if b = a then f else m b
def up2 (m : AM) (a : Nat) (k v : Int) : AM := upM m a (upI (m a) k v)
def upR (r : Nat → Int → Nat) (a : Nat) (f : Int → Nat) : Nat → Int → Nat := fun b => if b = a then f else r b
def up2R (r : Nat → Int → Nat) (a : Nat) (k : Int) (v : Nat) : Nat → Int → Nat := upR r a (fun j => if j = k then v else r a j)
def am_cat (v : AV) : Nat := match v with
  | .inr (.inr (.inl _)) => 2
  | .inr (.inr (.inr (.inr (.inl _)))) => 2
  | _ => 1
/-- a new object or array of a kind -/
def am_alloc (g : AG) (kind len slots : Nat) : AG := (gN g + 1, gS g + slots, upN (gK g) (100 + gN g) kind, upN (gL g) (100 + gN g) len, upR (gR g) (100 + gN g) (fun _ => 0))
def am_zero (g : AG) (m : AM) : AM := upM m (100 + gN g) (fun _ => 0)
def am_len (i : Instr) : Nat := match i with
  | .iload _ | .aload _ | .istore _ | .astore _ | .fload _ | .fstore _ | .dload _ | .dstore _ | .bipush _ | .ldc _ | .newarray _ => 2
  | .sipush _ | .ldc_w _ | .getfield _ | .putfield _ | .getstatic _ | .invokevirtual _ | .invokestatic _ | .invokespecial _ | .new _ | .anewarray _ | .iinc _ _ | .ifCond _ _ | .if_icmp _ _ | .goto _ | .ifnull _ | .ifnonnull _ | .ldc2_w _ | .checkcast _ => 3
  | .multianewarray _ _ => 4
  | _ => 1
def am_isw (i : Instr) : Bool := match i with
  | .tableswitch _ _ _ _ => true
  | _ => false
def am_ins (mi pc : Nat) : Option Instr := match decode (am_code mi) pc with
  | .ok (i, n) => if (am_isw i || n == am_len i) = true then some i else none
  | .error _ => none
def am_cmp (o : ClassFile.Cond) (x y : Int) : Bool := match o with
  | .eq => decide (wr x = wr y)
  | .ne => decide (wr x ≠ wr y)
  | .lt => decide (wr x < wr y)
  | .ge => decide (wr y ≤ wr x)
  | .gt => decide (wr y < wr x)
  | .le => decide (wr x ≤ wr y)
def am_and (x y : Int) : Int := (Int32.ofInt x &&& Int32.ofInt y).toInt
def am_or (x y : Int) : Int := (Int32.ofInt x ||| Int32.ofInt y).toInt
def am_shl (x y : Int) : Int := (Int32.ofInt x <<< (Int32.ofInt y &&& 31)).toInt
def am_shr (x y : Int) : Int := (Int32.ofInt x >>> (Int32.ofInt y &&& 31)).toInt
def am_ushr (x y : Int) : Int := ((Int32.ofInt x).toUInt32 >>> ((Int32.ofInt y).toUInt32 &&& Int32.toUInt32 31)).toInt32.toInt
def am_d (x : Int) : UInt64 := UInt64.ofNat x.toNat
def am_f (x : Int) : UInt32 := UInt32.ofNat x.toNat
def am_c2 (v : Option AV) : Bool := match v with
  | some v => am_cat v == 2
  | none => false
/-- a store of one word: what it overlaps is gone -/
def am_st0 (ls : List AV) (k : Nat) : List AV := match k with
  | 0 => ls
  | j + 1 => if am_c2 ls[j]? = true then ls.set j aU else ls
def am_st1 (ls : List AV) (k : Nat) (v : AV) : List AV := (am_st0 ls k).set k v
def am_st2 (ls : List AV) (k : Nat) (v : AV) : List AV := (am_st1 ls k v).set (k + 1) aU
abbrev AR : Type := Option (Nat × List AV × List AV × AG × AM)
def am_ldI (ls : List AV) (k n pc : Nat) (st : List AV) (g : AG) (m : AM) : AR := match ls[k]? with
  | some (.inl x) => some (pc + n, ls, aI x :: st, g, m)
  | _ => none
def am_ldA (ls : List AV) (k n pc : Nat) (st : List AV) (g : AG) (m : AM) : AR := match ls[k]? with
  | some (.inr (.inl x)) => some (pc + n, ls, aR x :: st, g, m)
  | _ => none
def am_ldF (ls : List AV) (k n pc : Nat) (st : List AV) (g : AG) (m : AM) : AR := match ls[k]? with
  | some (.inr (.inr (.inr (.inl x)))) => some (pc + n, ls, aF x :: st, g, m)
  | _ => none
def am_ldD (ls : List AV) (k n pc : Nat) (st : List AV) (g : AG) (m : AM) : AR := match ls[k]? with
  | some (.inr (.inr (.inr (.inr (.inl x))))) => some (pc + n, ls, aD x :: st, g, m)
  | _ => none
def am_stI (ls : List AV) (k n pc : Nat) (st : List AV) (g : AG) (m : AM) : AR := match st with
  | .inl x :: st' => if k < ls.length then some (pc + n, am_st1 ls k (aI x), st', g, m) else none
  | _ => none
def am_stA (ls : List AV) (k n pc : Nat) (st : List AV) (g : AG) (m : AM) : AR := match st with
  | .inr (.inl x) :: st' => if k < ls.length then some (pc + n, am_st1 ls k (aR x), st', g, m) else none
  | _ => none
def am_stF (ls : List AV) (k n pc : Nat) (st : List AV) (g : AG) (m : AM) : AR := match st with
  | .inr (.inr (.inr (.inl x))) :: st' => if k < ls.length then some (pc + n, am_st1 ls k (aF x), st', g, m) else none
  | _ => none
def am_stD (ls : List AV) (k n pc : Nat) (st : List AV) (g : AG) (m : AM) : AR := match st with
  | .inr (.inr (.inr (.inr (.inl x)))) :: st' => if k + 1 < ls.length then some (pc + n, am_st2 ls k (aD x), st', g, m) else none
  | _ => none
def am_bin (f : Int → Int → Int) (pc : Nat) (ls st : List AV) (g : AG) (m : AM) : AR := match st with
  | .inl y :: .inl x :: st' => some (pc + 1, ls, aI (f x y) :: st', g, m)
  | _ => none
def am_un (f : Int → AV) (pc : Nat) (ls st : List AV) (g : AG) (m : AM) : AR := match st with
  | .inl x :: st' => some (pc + 1, ls, f x :: st', g, m)
  | _ => none
def am_jmp (pc : Nat) (off : Int) (ls st : List AV) (g : AG) (m : AM) : AR := if 0 ≤ (pc : Int) + off then some (((pc : Int) + off).toNat, ls, st, g, m) else none
def am_if (b : Bool) (pc : Nat) (off : Int) (ls st : List AV) (g : AG) (m : AM) : AR := if 0 ≤ (pc : Int) + off then (if b = true then some (((pc : Int) + off).toNat, ls, st, g, m) else some (pc + 3, ls, st, g, m)) else none
/-- is this reference null: only where the small machine knows -/
def am_nul (a : Nat) : Option Bool := if a = 0 then some true else if 100 ≤ a ∨ 10 ≤ a ∧ a < 42 then some false else none
/-- the kind of an array of references of a class -/
def am_aar (ci : Nat) : Nat := if ci = 5 then 26 else if ci = 20 then 25 else if ci = 16 then 23 else if ci = 15 then 24 else 0
def am_clone (pc : Nat) (ls st : List AV) (g : AG) (m : AM) : AR := match st with
  | .inr (.inl a) :: st' => if gK g a = 21 ∧ (st'.map am_cat).sum ≤ 8 then some (pc + 3, ls, aR (100 + gN g) :: st', am_alloc g 21 (gL g a) (gL g a), upM m (100 + gN g) (m a)) else none
  | _ => none
/-- an array is read -/
def am_ald (ks : List Nat) (f : Int → AV) (pc : Nat) (ls st : List AV) (g : AG) (m : AM) : AR := match st with
  | .inl i :: .inr (.inl a) :: st' => if gK g a ∈ ks ∧ 0 ≤ i ∧ i < gL g a then some (pc + 1, ls, f (m a i) :: st', g, m) else none
  | _ => none
def am_getf (mi pc idx : Nat) (ls st : List AV) (g : AG) (m : AM) : AR := match st with
  | .inr (.inl a) :: st' =>
    if gK g a = 14 then (if am_oc mi = 14 ∧ idx = 9 then some (pc + 3, ls, aR (gR g a 0) :: st', g, m) else if am_oc mi = 14 ∧ idx = 15 then some (pc + 3, ls, aI 0 :: st', g, m) else none)
    else match am_fl (am_oc mi) idx with
      | some (_, ci, k, _) => if gK g a = ci ∧ k < am_nf ci then (if am_fkd ci k % 4 = 1 then some (pc + 3, ls, aR (gR g a k) :: st', g, m) else some (pc + 3, ls, aI (m a k) :: st', g, m)) else none
      | none => none
  | _ => none
def am_finok (mi ci k : Nat) : Bool := decide (am_fkd ci k < 4) || (decide ((am_name mi).name = "<init>") && decide (am_own mi = am_cn ci))
def am_putf (mi pc idx : Nat) (ls st : List AV) (g : AG) (m : AM) : AR := match st with
  | .inl x :: .inr (.inl a) :: st' => match am_fl (am_oc mi) idx with
      | some (_, ci, k, _) => if gK g a = ci ∧ k < am_nf ci ∧ am_finok mi ci k = true ∧ (am_fkd ci k % 4 = 0 ∨ (am_fkd ci k % 4 = 2 ∧ (x = 0 ∨ x = 1)) ∨ (am_fkd ci k % 4 = 3 ∧ -128 ≤ x ∧ x < 128)) then some (pc + 3, ls, st', g, up2 m a k x) else none
      | none => none
  | .inr (.inl r) :: .inr (.inl a) :: st' => match am_fl (am_oc mi) idx with
      | some (_, ci, k, _) => if gK g a = ci ∧ k < am_nf ci ∧ am_finok mi ci k = true ∧ am_fkd ci k % 4 = 1 then some (pc + 3, ls, st', (gN g, gS g, gK g, gL g, up2R (gR g) a k r), m) else none
      | none => none
  | _ => none
def am_aat (t : ArrayType) : Nat := match t with
  | .int => 20
  | .byte => 21
  | .boolean => 22
  | _ => 0
def am_multi (g : AG) (n k : Nat) : AG := (gN g + (1 + n), gS g + (n + n * k),
  fun c => if c = 100 + gN g then 25 else if 100 + gN g < c ∧ c ≤ 100 + gN g + n then 20 else gK g c,
  fun c => if c = 100 + gN g then n else if 100 + gN g < c ∧ c ≤ 100 + gN g + n then k else gL g c,
  fun c => if c = 100 + gN g then (fun j => if 0 ≤ j ∧ j < n then 100 + gN g + 1 + j.toNat else 0) else if 100 + gN g < c ∧ c ≤ 100 + gN g + n then (fun _ => 0) else gR g c)
def am_zeros (g : AG) (m : AM) (n : Nat) : AM := fun c => if 100 + gN g ≤ c ∧ c ≤ 100 + gN g + n then (fun _ => 0) else m c
def am_cpy (f h : Int → Int) (sp dp n : Int) : Int → Int := fun j => if dp ≤ j ∧ j < dp + n then f (sp + (j - dp)) else h j
def am_cp (pc : Nat) (ls st : List AV) (g : AG) (m : AM) : AR := match st with
  | .inl n :: .inl dp :: .inr (.inl a) :: .inl sp :: .inr (.inl a0) :: st' => if (gK g a = 20 ∧ gK g a0 = 20 ∨ gK g a = 21 ∧ (gK g a0 = 21 ∨ gK g a0 = 27)) ∧ 0 ≤ sp ∧ 0 ≤ dp ∧ 0 ≤ n ∧ sp + n ≤ gL g a0 ∧ dp + n ≤ gL g a ∧ (st'.map am_cat).sum ≤ 8 then some (pc + 3, ls, st', g, upM m a (am_cpy (m a0) (m a) sp dp n)) else none
  | _ => none
def am_mx (pc : Nat) (ls st : List AV) (g : AG) (m : AM) : AR := match st with
  | .inl y :: .inl x :: st' => if (st'.map am_cat).sum ≤ 8 then some (pc + 3, ls, aI (if wr x < wr y then y else x) :: st', g, m) else none
  | _ => none
def am_mn (pc : Nat) (ls st : List AV) (g : AG) (m : AM) : AR := match st with
  | .inl y :: .inl x :: st' => if (st'.map am_cat).sum ≤ 8 then some (pc + 3, ls, aI (if wr y < wr x then y else x) :: st', g, m) else none
  | _ => none
def am_step (mi pc : Nat) (i : Instr) (ls st : List AV) (g : AG) (m : AM) : AR := match i with
  | .iconst n => some (pc + 1, ls, aI n :: st, g, m)
  | .bipush n => some (pc + 2, ls, aI (Int8.ofInt n).toInt :: st, g, m)
  | .sipush n => some (pc + 3, ls, aI (Int16.ofInt n).toInt :: st, g, m)
  | .lconst n => some (pc + 1, ls, aL (n : Nat) :: st, g, m)
  | .fconst n => if n = 0 then some (pc + 1, ls, aF FP.fconst0.toNat :: st, g, m) else none
  | .dconst n => if n = 0 then some (pc + 1, ls, aD FP.dconst0.toNat :: st, g, m) else none
  | .iload k => am_ldI ls k 2 pc st g m
  | .iload_n k => am_ldI ls k 1 pc st g m
  | .aload k => am_ldA ls k 2 pc st g m
  | .aload_n k => am_ldA ls k 1 pc st g m
  | .fload k => am_ldF ls k 2 pc st g m
  | .dload k => am_ldD ls k 2 pc st g m
  | .istore k => am_stI ls k 2 pc st g m
  | .istore_n k => am_stI ls k 1 pc st g m
  | .astore k => am_stA ls k 2 pc st g m
  | .astore_n k => am_stA ls k 1 pc st g m
  | .fstore k => am_stF ls k 2 pc st g m
  | .dstore k => am_stD ls k 2 pc st g m
  | .iinc k n => match ls[k]? with
    | some (.inl x) => some (pc + 3, am_st1 ls k (aI (x + n)), st, g, m)
    | _ => none
  | .iadd => am_bin (fun x y => x + y) pc ls st g m
  | .isub => am_bin (fun x y => x - y) pc ls st g m
  | .imul => am_bin (fun x y => x * y) pc ls st g m
  | .iand => am_bin am_and pc ls st g m
  | .ior => am_bin am_or pc ls st g m
  | .ishl => am_bin am_shl pc ls st g m
  | .ishr => am_bin am_shr pc ls st g m
  | .iushr => am_bin am_ushr pc ls st g m
  | .ineg => am_un (fun x => aI (-x)) pc ls st g m
  | .aconst_null => some (pc + 1, ls, aR 0 :: st, g, m)
  | .ifnull off => match st with
    | .inr (.inl a) :: st' => match am_nul a with
      | some b => am_if b pc off ls st' g m
      | none => none
    | _ => none
  | .ifnonnull off => match st with
    | .inr (.inl a) :: st' => match am_nul a with
      | some b => am_if (!b) pc off ls st' g m
      | none => none
    | _ => none
  | .dup_x1 => match st with
    | v :: w :: st' => if am_cat v = 1 ∧ am_cat w = 1 then some (pc + 1, ls, v :: w :: v :: st', g, m) else none
    | _ => none
  | .checkcast idx => match st with
    | .inr (.inl a) :: st' => match am_cs (am_oc mi) idx with
      | some (_, ci, _) => if ci = 21 ∧ gK g a = 21 then some (pc + 3, ls, aR a :: st', g, m) else none
      | none => none
    | _ => none
  | .invokevirtual idx => match am_ml (am_oc mi) idx with
    | some (_, 11, _) => am_clone pc ls st g m
    | _ => none
  | .idiv => match st with
    | .inl y :: .inl x :: st' => if wr y ≠ 0 then some (pc + 1, ls, aI ((wr x).tdiv (wr y)) :: st', g, m) else none
    | _ => none
  | .irem => match st with
    | .inl y :: .inl x :: st' => if wr y ≠ 0 then some (pc + 1, ls, aI ((wr x).tmod (wr y)) :: st', g, m) else none
    | _ => none
  | .i2l => am_un (fun x => aL (wr x)) pc ls st g m
  | .i2b => am_un (fun x => aI (x.bmod 256)) pc ls st g m
  | .i2c => am_un (fun x => aI (x % 65536)) pc ls st g m
  | .i2d => am_un (fun x => aD (FP.i2d (Int32.ofInt x)).toNat) pc ls st g m
  | .i2f => am_un (fun x => aF (FP.i2f (Int32.ofInt x)).toNat) pc ls st g m
  | .lcmp => match st with
    | .inr (.inr (.inl y)) :: .inr (.inr (.inl x)) :: st' => some (pc + 1, ls, aI (if wl x < wl y then -1 else if wl x = wl y then 0 else 1) :: st', g, m)
    | _ => none
  | .ddiv => match st with
    | .inr (.inr (.inr (.inr (.inl y)))) :: .inr (.inr (.inr (.inr (.inl x)))) :: st' => if FP.ddiv (am_d x) (am_d y) &&& 0x7fffffffffffffff ≤ 0x7ff0000000000000 then some (pc + 1, ls, aD (FP.ddiv (am_d x) (am_d y)).toNat :: st', g, m) else none
    | _ => none
  | .fdiv => match st with
    | .inr (.inr (.inr (.inl y))) :: .inr (.inr (.inr (.inl x))) :: st' => if FP.fdiv (am_f x) (am_f y) &&& 0x7fffffff ≤ 0x7f800000 then some (pc + 1, ls, aF (FP.fdiv (am_f x) (am_f y)).toNat :: st', g, m) else none
    | _ => none
  | .f2d => match st with
    | .inr (.inr (.inr (.inl x))) :: st' => if FP.f2d (am_f x) &&& 0x7fffffffffffffff ≤ 0x7ff0000000000000 then some (pc + 1, ls, aD (FP.f2d (am_f x)).toNat :: st', g, m) else none
    | _ => none
  | .dcmp o => match st with
    | .inr (.inr (.inr (.inr (.inl y)))) :: .inr (.inr (.inr (.inr (.inl x)))) :: st' => some (pc + 1, ls, aI (Op.cmpValue (FP.dcmp (am_d x) (am_d y)) o).toInt :: st', g, m)
    | _ => none
  | .fcmp o => match st with
    | .inr (.inr (.inr (.inl y))) :: .inr (.inr (.inr (.inl x))) :: st' => some (pc + 1, ls, aI (Op.cmpValue (FP.fcmp (am_f x) (am_f y)) o).toInt :: st', g, m)
    | _ => none
  | .dup => match st with
    | v :: st' => if am_cat v = 1 then some (pc + 1, ls, v :: v :: st', g, m) else none
    | _ => none
  | .pop => match st with
    | v :: st' => if am_cat v = 1 then some (pc + 1, ls, st', g, m) else none
    | _ => none
  | .dup2 => match st with
    | v :: w :: st' => if am_cat v = 1 ∧ am_cat w = 1 then some (pc + 1, ls, v :: w :: v :: w :: st', g, m) else none
    | _ => none
  | .ifCond o off => match st with
    | .inl x :: st' => am_if (am_cmp o x 0) pc off ls st' g m
    | _ => none
  | .if_icmp o off => match st with
    | .inl y :: .inl x :: st' => am_if (am_cmp o x y) pc off ls st' g m
    | _ => none
  | .goto off => am_jmp pc off ls st g m
  | .tableswitch dflt lo hi offs => match st with
    | .inl x :: st' => if wr x < lo ∨ hi < wr x then am_jmp pc dflt ls st' g m else match offs[(wr x - lo).toNat]? with
      | some off => am_jmp pc off ls st' g m
      | none => none
    | _ => none
  | .iaload => am_ald [20, 28] aI pc ls st g m
  | .baload => am_ald [21, 22, 27] aI pc ls st g m
  | .aaload => match st with
    | .inl i :: .inr (.inl a) :: st' => if gK g a ∈ [23, 24, 25, 26] ∧ 0 ≤ i ∧ i < gL g a then some (pc + 1, ls, aR (gR g a i) :: st', g, m) else none
    | _ => none
  | .arraylength => match st with
    | .inr (.inl a) :: st' => if gK g a ∈ [20, 21, 22, 23, 24, 25, 26, 27, 28] then some (pc + 1, ls, aI (gL g a) :: st', g, m) else none
    | _ => none
  | .iastore => match st with
    | .inl x :: .inl i :: .inr (.inl a) :: st' => if gK g a = 20 ∧ 0 ≤ i ∧ i < gL g a then some (pc + 1, ls, st', g, up2 m a i x) else none
    | _ => none
  | .bastore => match st with
    | .inl x :: .inl i :: .inr (.inl a) :: st' => if (gK g a = 21 ∨ gK g a = 22 ∧ (x = 0 ∨ x = 1)) ∧ 0 ≤ i ∧ i < gL g a then some (pc + 1, ls, st', g, up2 m a i (x.bmod 256)) else none
    | _ => none
  | .aastore => match st with
    | .inr (.inl r) :: .inl i :: .inr (.inl a) :: st' => if (gK g a = 26 ∧ gK g r = 5 ∨ gK g a = 25 ∧ gK g r = 20 ∨ gK g a = 23 ∧ gK g r = 16 ∨ gK g a = 24 ∧ gK g r = 15) ∧ 0 ≤ i ∧ i < gL g a then some (pc + 1, ls, st', (gN g, gS g, gK g, gL g, up2R (gR g) a i r), m) else none
    | _ => none
  | .getfield idx => am_getf mi pc idx ls st g m
  | .putfield idx => am_putf mi pc idx ls st g m
  | .getstatic idx => if am_oc mi = 14 ∧ idx = 38 ∨ am_oc mi = 24 ∧ idx = 18 then some (pc + 3, ls, aI 1 :: st, g, m) else if am_oc mi = 14 ∧ idx = 1053 then some (pc + 3, ls, aR 2 :: st, g, m) else if am_oc mi = 27 ∧ idx = 83 then some (pc + 3, ls, aR 50 :: st, g, m) else if am_oc mi = 27 ∧ idx = 87 then some (pc + 3, ls, aR 51 :: st, g, m) else none
  | .ldc idx => match am_ct (am_oc mi) idx with
    | some (_, x, _) => some (pc + 2, ls, aI x :: st, g, m)
    | none => match am_sr (am_oc mi) idx with
      | some (_, c, _) => some (pc + 2, ls, aR c :: st, g, m)
      | none => none
  | .ldc2_w idx => if am_oc mi = 13 ∧ idx = 133 then some (pc + 3, ls, aL (-99) :: st, g, m) else none
  | .ldc_w idx => match am_sr (am_oc mi) idx with
    | some (_, c, _) => some (pc + 3, ls, aR c :: st, g, m)
    | none => none
  | .newarray t => match st with
    | .inl n :: st' => if am_aat t ≠ 0 ∧ 0 ≤ n ∧ n ≤ 100000 then some (pc + 2, ls, aR (100 + gN g) :: st', am_alloc g (am_aat t) n.toNat n.toNat, am_zero g m) else none
    | _ => none
  | .anewarray idx => match st with
    | .inl n :: st' => match am_cs (am_oc mi) idx with
      | some (_, ci, _) => if am_aar ci ≠ 0 ∧ 0 ≤ n ∧ n ≤ 100000 then some (pc + 3, ls, aR (100 + gN g) :: st', am_alloc g (am_aar ci) n.toNat n.toNat, am_zero g m) else none
      | none => none
    | _ => none
  | .multianewarray idx dm => match st with
    | .inl k :: .inl n :: st' => match am_cs (am_oc mi) idx with
      | some (_, ci, _) => if ci = 25 ∧ dm = 2 ∧ 0 ≤ n ∧ n ≤ 100000 ∧ 0 ≤ k ∧ k ≤ 100000 then some (pc + 4, ls, aR (100 + gN g) :: st', am_multi g n.toNat k.toNat, am_zeros g m n.toNat) else none
      | none => none
    | _ => none
  | .new idx => match am_cs (am_oc mi) idx with
    | some (_, ci, _) => if am_ob ci then some (pc + 3, ls, aR (100 + gN g) :: st, am_alloc g ci 0 (am_inst.getD ci 0), am_zero g m) else none
    | none => none
  | .invokestatic idx => match am_ml (am_oc mi) idx with
    | some (_, 4, _) => am_cp pc ls st g m
    | some (_, 6, _) => am_mx pc ls st g m
    | some (_, 7, _) => am_mn pc ls st g m
    | _ => none
  | .invokespecial idx => match am_ml (am_oc mi) idx with
    | some (_, 5, _) => match st with
      | .inr (.inl a) :: st' => if am_ob (gK g a) ∧ (st'.map am_cat).sum ≤ 8 then some (pc + 3, ls, st', g, m) else none
      | _ => none
    | _ => none
  | _ => none
/-- what a method answers: its type keeps it as it is -/
def am_rok (mi : Nat) (x : Int) : Bool := match am_rt mi with
  | some .int => true
  | some .boolean => decide (x = 0) || decide (x = 1)
  | some .char => decide (0 ≤ x) && decide (x < 65536)
  | some .byte => decide (-128 ≤ x) && decide (x < 128)
  | _ => false
/-- new E; dup; ldc; E.<init>(text); athrow: the number of the exception's class -/
def am_exc (mi pc idx : Nat) : Option Nat := match am_cs (am_oc mi) idx with
  | some (_, ci, _) => if 10 ≤ ci then some ci else none
  | none => none
def am_exok (mi E is ic : Nat) : Bool := decide (am_oc mi = 0) && (decide (E = 10 ∧ ic = 101) || decide (E = 11 ∧ ic = 125) || decide (E = 12 ∧ ic = 348)) && (am_msgT.find? (fun q => q.1 == is)).isSome
def am_ret (mi pc : Nat) (i : Instr) (st : List AV) (g : AG) : Option (AO × AG) := match i with
  | .ireturn => match st with
    | [.inl x] => if am_rok mi x = true then some (.inl (some (aI x)), g) else none
    | _ => none
  | .areturn => match st with
    | [.inr (.inl r)] => match am_rt mi with
      | some (.object _) => some (.inl (some (aR r)), g)
      | some (.array _) => some (.inl (some (aR r)), g)
      | _ => none
    | _ => none
  | .lreturn => match st with
    | [.inr (.inr (.inl x))] => if am_rt mi = some .long then some (.inl (some (aL x)), g) else none
    | _ => none
  | .dreturn => match st with
    | [.inr (.inr (.inr (.inr (.inl x))))] => if am_rt mi = some .double then some (.inl (some (aD x)), g) else none
    | _ => none
  | .freturn => match st with
    | [.inr (.inr (.inr (.inl x)))] => if am_rt mi = some .float then some (.inl (some (aF x)), g) else none
    | _ => none
  | .return_ => match st with
    | [] => if am_rt mi = none then some (.inl none, g) else none
    | _ => none
  | _ => none
/-- an exception's making, whole: its class's link, its text's place, its constructor's place; wide: ldc_w -/
def am_thr (mi pc : Nat) : Option (Nat × Nat × Nat × Nat × Bool) := match am_ins mi pc with
  | some (.new ik) => match am_ins mi (pc + 4) with
    | some (.ldc is) => match am_ins mi (pc + 6) with
      | some (.invokespecial ic) => if am_ins mi (pc + 3) = some .dup ∧ am_ins mi (pc + 9) = some .athrow then some (ik, is, ic, 6, false) else none
      | _ => none
    | some (.ldc_w is) => match am_ins mi (pc + 7) with
      | some (.invokespecial ic) => if am_ins mi (pc + 3) = some .dup ∧ am_ins mi (pc + 10) = some .athrow then some (ik, is, ic, 7, true) else none
      | _ => none
    | _ => none
  | _ => none
def am_call (mi : Nat) (i : Instr) (st : List AV) (g : AG) : Option (Nat × List AV × List AV) := match i with
  | .invokevirtual idx => match am_ml (am_oc mi) idx with
    | some (_, 0, y, _) => match st.drop (am_na y) with
      | .inr (.inl a) :: rest => if (gK g a = am_oc y ∨ am_oc y = 14 ∧ gK g a = 19) ∧ (rest.map am_cat).sum ≤ 8 ∧ am_na y ≤ st.length ∧ ((st.take (am_na y)).map am_cat).sum = am_na y then some (y, aR a :: (st.take (am_na y)).reverse, rest) else none
      | _ => none
    | some (_, 8, y, _) => match st.drop (am_na y) with
      | .inr (.inl a) :: rest => if gK g a = 18 ∧ (rest.map am_cat).sum ≤ 8 ∧ am_na y ≤ st.length ∧ ((st.take (am_na y)).map am_cat).sum = am_na y then some (y, aR a :: (st.take (am_na y)).reverse, rest) else none
      | _ => none
    | _ => none
  | .invokestatic idx => match am_ml (am_oc mi) idx with
    | some (_, 1, y, _) => if ((st.drop (am_na y)).map am_cat).sum ≤ 8 ∧ am_na y ≤ st.length ∧ ((st.take (am_na y)).map am_cat).sum = am_na y then some (y, (st.take (am_na y)).reverse, st.drop (am_na y)) else none
    | _ => none
  | .invokespecial idx => match am_ml (am_oc mi) idx with
    | some (_, 2, y, _) => match st.drop (am_na y) with
      | .inr (.inl a) :: rest => if am_ob (gK g a) ∧ (rest.map am_cat).sum ≤ 8 ∧ am_na y ≤ st.length ∧ ((st.take (am_na y)).map am_cat).sum = am_na y then some (y, aR a :: (st.take (am_na y)).reverse, rest) else none
      | _ => none
    | some (_, 3, y, _) => match st.drop (am_na y) with
      | .inr (.inl a) :: rest => if am_ob (gK g a) ∧ (rest.map am_cat).sum ≤ 8 ∧ am_na y ≤ st.length ∧ ((st.take (am_na y)).map am_cat).sum = am_na y then some (y, aR a :: (st.take (am_na y)).reverse, rest) else none
      | _ => none
    | some (_, 10, y, _) => match st.drop (am_na y) with
      | .inr (.inl a) :: rest => if gK g a = 18 ∧ (rest.map am_cat).sum ≤ 8 ∧ am_na y ≤ st.length ∧ ((st.take (am_na y)).map am_cat).sum = am_na y then some (y, aR a :: (st.take (am_na y)).reverse, rest) else none
      | _ => none
    | _ => none
  | _ => none
/-- the handler that takes an exception of the class E here: it answers a number -/
def am_find (mi pc E : Nat) : List (Nat × Nat × Nat × Nat) → Option (Nat × Nat)
  | [] => none
  | (a, b, h, t) :: r => match am_cs (am_oc mi) t with
    | some (_, ci, _) => if a ≤ pc ∧ pc < b ∧ ci = E ∧ t ≠ 0 then some (h, t) else if (10 ≤ ci ∧ ci < 13) ∧ t ≠ 0 then am_find mi pc E r else none
    | none => none
def am_hret (mi h : Nat) : Option Int := match am_ins mi h with
  | some (.astore_n k) => match am_ins mi (h + 1) with
    | some (.iconst n) => if am_ins mi (h + 2) = some .ireturn ∧ (k : Nat) < am_nL mi ∧ am_rt mi = some .int then some n else none
    | _ => none
  | some (.astore k) => match am_ins mi (h + 2) with
    | some (.iconst n) => if am_ins mi (h + 3) = some .ireturn ∧ k < am_nL mi ∧ am_rt mi = some .int then some n else none
    | _ => none
  | _ => none
def am_pad (y : Nat) (as : List AV) : List AV := as ++ List.replicate (am_nL y - as.length) aU
def am_push (v : Option AV) (rest : List AV) : List AV := match v with
  | some v => v :: rest
  | none => rest
def am_exec : Nat → Nat → Nat → Nat → List AV → List AV → AG → AM → Option (AO × AG × AM)
  | 0, _, _, _, _, _, _, _ => none
  | f + 1, d, mi, pc, ls, st, g, m => match am_ins mi pc with
    | none => none
    | some i => match am_ret mi pc i st g with
      | some (o, g') => some (o, g', m)
      | none => match am_call mi i st g with
        | some (y, as, rest) => match d with
          | 0 => none
          | d' + 1 => if as.length ≤ am_nL y then (match am_exec f d' y 0 (am_pad y as) [] g m with
            | none => none
            | some (.inl v, g', m') => am_exec f (d' + 1) mi (pc + 3) ls (am_push v rest) g' m'
            | some (.inr E, g', m') => if am_hh mi = [] then some (.inr E, g', m') else match am_find mi pc E (am_hh mi) with
              | some (h, _) => (am_hret mi h).map (fun n => (.inl (some (aI n)), g', m'))
              | none => none) else none
        | none => match am_step mi pc i ls st g m with
          | some (pc', ls', st', g', m') => am_exec f d mi pc' ls' st' g' m'
          | none => match am_thr mi pc with
            | some (ik, is, ic, _) => match am_exc mi pc ik with
              | some E => if am_hh mi = [] ∧ (st.map am_cat).sum ≤ 8 ∧ am_exok mi E is ic = true then some (.inr E, am_alloc g 30 0 6, m) else none
              | none => none
            | none => none
