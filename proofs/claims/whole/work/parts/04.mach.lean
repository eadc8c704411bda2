/-! one instruction that is no call, no answer and makes nothing; the script is sn numbers sx -/
def am_arr (sh : am_Sh) (k : Int) (kind : Nat) : Option (Nat × List Nat) := (sh[k.toNat]?).bind fun o => if o.1 = kind then some o.2 else none
def am_stp (sn : Nat) (sx : Nat → Int) (e : am_E) (pc : Nat) (L st : List am_V) (sh : am_Sh) (g : am_G) : Option am_St :=
  match e.1 with
  | .iconst n => some (pc + 1, L, (0, n) :: st, sh, g)
  | .bipush n => if -128 ≤ n ∧ n ≤ 127 then some (pc + 2, L, (0, n) :: st, sh, g) else none
  | .sipush n => if -32768 ≤ n ∧ n ≤ 32767 then some (pc + 3, L, (0, n) :: st, sh, g) else none
  | .lconst n => some (pc + 1, L, (1, ((n : Nat) : Int)) :: st, sh, g)
  | .ldc _ => if e.2.2.1 = 4 then some (pc + 2, L, (4, e.2.2.2) :: st, sh, g) else if e.2.2.1 = 0 then some (pc + 2, L, (0, e.2.2.2) :: st, sh, g) else none
  | .ldc_w _ => some (pc + 3, L, (0, e.2.2.2) :: st, sh, g)
  | .ldc2_w _ => some (pc + 3, L, (1, e.2.2.2) :: st, sh, g)
  | .iload_n i => (am_ld 0 L i).bind fun v => some (pc + 1, L, v :: st, sh, g)
  | .iload i => (am_ld 0 L i).bind fun v => some (pc + 2, L, v :: st, sh, g)
  | .lload_n i => (am_ld 1 L i).bind fun v => some (pc + 1, L, v :: st, sh, g)
  | .lload i => (am_ld 1 L i).bind fun v => some (pc + 2, L, v :: st, sh, g)
  | .aload_n i => (am_ldr L i).bind fun v => some (pc + 1, L, v :: st, sh, g)
  | .aload i => (am_ldr L i).bind fun v => some (pc + 2, L, v :: st, sh, g)
  | .istore_n i => (am_pp 0 st).bind fun q => if (i : Nat) < L.length then some (pc + 1, am_s1 L i (0, q.1), q.2, sh, g) else none
  | .istore i => (am_pp 0 st).bind fun q => if i < L.length then some (pc + 2, am_s1 L i (0, q.1), q.2, sh, g) else none
  | .lstore_n i => (am_pp 1 st).bind fun q => if (i : Nat) + 1 < L.length then some (pc + 1, am_s2 L i (1, q.1), q.2, sh, g) else none
  | .lstore i => (am_pp 1 st).bind fun q => if i + 1 < L.length then some (pc + 2, am_s2 L i (1, q.1), q.2, sh, g) else none
  | .astore_n i => match st with
    | [] => none
    | v :: t => if am_isr v.1 = true ∧ (i : Nat) < L.length then some (pc + 1, am_s1 L i v, t, sh, g) else none
  | .astore i => match st with
    | [] => none
    | v :: t => if am_isr v.1 = true ∧ i < L.length then some (pc + 2, am_s1 L i v, t, sh, g) else none
  | .iinc i n => (am_ld 0 L i).bind fun v => if i < L.length then some (pc + 3, am_s1 L i (0, v.2 + n), st, sh, g) else none
  | .iadd => am_nx (pc + 1) L sh g (am_i2 (fun x y => x + y) st)
  | .isub => am_nx (pc + 1) L sh g (am_i2 (fun x y => x - y) st)
  | .imul => am_nx (pc + 1) L sh g (am_i2 (fun x y => x * y) st)
  | .ineg => am_nx (pc + 1) L sh g (am_i1 (fun x => -x) st)
  | .iand => am_nx (pc + 1) L sh g (am_i2 (fun x y => (Int32.ofInt x &&& Int32.ofInt y).toInt) st)
  | .ior => am_nx (pc + 1) L sh g (am_i2 (fun x y => (Int32.ofInt x ||| Int32.ofInt y).toInt) st)
  | .ixor => am_nx (pc + 1) L sh g (am_i2 (fun x y => (Int32.ofInt x ^^^ Int32.ofInt y).toInt) st)
  | .ishl => am_nx (pc + 1) L sh g (am_i2 (fun x y => (Int32.ofInt x <<< (Int32.ofInt y &&& 31)).toInt) st)
  | .ishr => am_nx (pc + 1) L sh g (am_i2 (fun x y => (Int32.ofInt x >>> (Int32.ofInt y &&& 31)).toInt) st)
  | .iushr => am_nx (pc + 1) L sh g (am_i2 (fun x y => (((Int32.ofInt x).toUInt32 >>> ((Int32.ofInt y).toUInt32 &&& Int32.toUInt32 31)).toInt32).toInt) st)
  | .idiv => (am_pp 0 st).bind fun y => (am_pp 0 y.2).bind fun x => if w32 y.1 = 0 then none else some (pc + 1, L, (0, Int.tdiv (w32 x.1) (w32 y.1)) :: x.2, sh, g)
  | .irem => (am_pp 0 st).bind fun y => (am_pp 0 y.2).bind fun x => if w32 y.1 = 0 then none else some (pc + 1, L, (0, Int.tmod (w32 x.1) (w32 y.1)) :: x.2, sh, g)
  | .ladd => am_nx (pc + 1) L sh g (am_l2 (fun x y => x + y) st)
  | .lsub => am_nx (pc + 1) L sh g (am_l2 (fun x y => x - y) st)
  | .lmul => am_nx (pc + 1) L sh g (am_l2 (fun x y => x * y) st)
  | .lneg => am_nx (pc + 1) L sh g (am_l1 (fun x => -x) st)
  | .land => am_nx (pc + 1) L sh g (am_l2 (fun x y => (Int64.ofInt x &&& Int64.ofInt y).toInt) st)
  | .lor => am_nx (pc + 1) L sh g (am_l2 (fun x y => (Int64.ofInt x ||| Int64.ofInt y).toInt) st)
  | .lshl => am_nx (pc + 1) L sh g (am_ls (fun x y => (Int64.ofInt x <<< ((Int32.ofInt y).toInt64 &&& 63)).toInt) st)
  | .lshr => am_nx (pc + 1) L sh g (am_ls (fun x y => (Int64.ofInt x >>> ((Int32.ofInt y).toInt64 &&& 63)).toInt) st)
  | .lushr => am_nx (pc + 1) L sh g (am_ls (fun x y => (((Int64.ofInt x).toUInt64 >>> ((Int32.ofInt y).toInt64.toUInt64 &&& Int64.toUInt64 63)).toInt64).toInt) st)
  | .ldiv => (am_pp 1 st).bind fun y => (am_pp 1 y.2).bind fun x => if w64 y.1 = 0 then none else some (pc + 1, L, (1, Int.tdiv (w64 x.1) (w64 y.1)) :: x.2, sh, g)
  | .lrem => (am_pp 1 st).bind fun y => (am_pp 1 y.2).bind fun x => if w64 y.1 = 0 then none else some (pc + 1, L, (1, Int.tmod (w64 x.1) (w64 y.1)) :: x.2, sh, g)
  | .lcmp => (am_pp 1 st).bind fun y => (am_pp 1 y.2).bind fun x => some (pc + 1, L, (0, if w64 y.1 < w64 x.1 then 1 else if w64 x.1 = w64 y.1 then 0 else -1) :: x.2, sh, g)
  | .i2l => (am_pp 0 st).bind fun x => some (pc + 1, L, (1, w32 x.1) :: x.2, sh, g)
  | .l2i => (am_pp 1 st).bind fun x => some (pc + 1, L, (0, x.1) :: x.2, sh, g)
  | .dup => match st with
    | [] => none
    | v :: t => if v.1 = 1 then none else some (pc + 1, L, v :: v :: t, sh, g)
  | .dup2 => match st with
    | [] => none
    | v :: t => if v.1 = 1 then some (pc + 1, L, v :: v :: t, sh, g) else match t with
      | [] => none
      | u :: r => if u.1 = 1 then none else some (pc + 1, L, v :: u :: v :: u :: r, sh, g)
  | .pop => match st with
    | [] => none
    | v :: t => if v.1 = 1 then none else some (pc + 1, L, t, sh, g)
  | .goto _ => some (e.2.2.1, L, st, sh, g)
  | .ifCond c _ => (am_pp 0 st).bind fun x => some (if am_cm c (w32 x.1) 0 = true then e.2.2.1 else pc + 3, L, x.2, sh, g)
  | .if_icmp c _ => (am_pp 0 st).bind fun y => (am_pp 0 y.2).bind fun x => some (if am_cm c (w32 x.1) (w32 y.1) = true then e.2.2.1 else pc + 3, L, x.2, sh, g)
  | .tableswitch d lo hi offs => (am_pp 0 st).bind fun x => (am_sw pc d lo hi offs (w32 x.1)).bind fun q => some (q, L, x.2, sh, g)
  | .arraylength => match st with
    | [] => none
    | v :: t => if v.1 = 5 then some (pc + 1, L, (0, (sn : Int)) :: t, sh, g) else if v.1 = 2 then (sh[v.2.toNat]?).bind fun o => if o.1 < 4 then some (pc + 1, L, (0, (o.2.1 : Int)) :: t, sh, g) else none else none
  | .iaload => (am_pp 0 st).bind fun i => match i.2 with
    | [] => none
    | v :: t => if v.1 = 5 then (am_xs sn i.1).bind fun j => some (pc + 1, L, (0, sx j) :: t, sh, g) else if v.1 = 2 then (am_arr sh v.2 0).bind fun o => (am_xs o.1 i.1).bind fun j => some (pc + 1, L, (0, g v.2.toNat j) :: t, sh, g) else none
  | .laload => (am_pp 0 st).bind fun i => (am_pp 2 i.2).bind fun v => (am_arr sh v.1 1).bind fun o => (am_xs o.1 i.1).bind fun j => some (pc + 1, L, (1, g v.1.toNat j) :: v.2, sh, g)
  | .baload => (am_pp 0 st).bind fun i => (am_pp 2 i.2).bind fun v => (am_arr sh v.1 2).bind fun o => (am_xs o.1 i.1).bind fun j => some (pc + 1, L, (0, g v.1.toNat j) :: v.2, sh, g)
  | .aaload => (am_pp 0 st).bind fun i => (am_pp 2 i.2).bind fun v => (am_arr sh v.1 3).bind fun o => (am_xs o.1 i.1).bind fun j => (o.2[j]?).bind fun r => if r = 0 then none else some (pc + 1, L, (2, ((r - 1 : Nat) : Int)) :: v.2, sh, g)
  | .iastore => (am_pp 0 st).bind fun x => (am_pp 0 x.2).bind fun i => (am_pp 2 i.2).bind fun v => (am_arr sh v.1 0).bind fun o => (am_xs o.1 i.1).bind fun j => some (pc + 1, L, v.2, sh, am_up g v.1.toNat j x.1)
  | .lastore => (am_pp 1 st).bind fun x => (am_pp 0 x.2).bind fun i => (am_pp 2 i.2).bind fun v => (am_arr sh v.1 1).bind fun o => (am_xs o.1 i.1).bind fun j => some (pc + 1, L, v.2, sh, am_up g v.1.toNat j x.1)
  | .bastore => (am_pp 0 st).bind fun x => (am_pp 0 x.2).bind fun i => (am_pp 2 i.2).bind fun v => (am_arr sh v.1 2).bind fun o => (am_xs o.1 i.1).bind fun j => if x.1 = 0 ∨ x.1 = 1 then some (pc + 1, L, v.2, sh, am_up g v.1.toNat j x.1) else none
  | .aastore => (am_pp 2 st).bind fun x => (am_pp 0 x.2).bind fun i => (am_pp 2 i.2).bind fun v => (am_arr sh v.1 3).bind fun o => (am_xs o.1 i.1).bind fun j => (am_arr sh x.1 5).bind fun _ => if j < o.2.length then some (pc + 1, L, v.2, sh.set v.1.toNat (3, o.1, o.2.set j (x.1.toNat + 1)), g) else none
  | .getfield _ => (am_pp 2 st).bind fun v => (am_arr sh v.1 (4 + e.2.2.1)).bind fun o => ((am_cls.getD e.2.2.1 [])[e.2.2.2.toNat]?).bind fun t =>
      if t = 2 then (o.2[e.2.2.2.toNat]?).bind fun r => if r = 0 then none else some (pc + 3, L, (2, ((r - 1 : Nat) : Int)) :: v.2, sh, g)
      else if t = 1 then some (pc + 3, L, (1, g v.1.toNat e.2.2.2.toNat) :: v.2, sh, g) else some (pc + 3, L, (0, g v.1.toNat e.2.2.2.toNat) :: v.2, sh, g)
  | .putfield _ => match st with
    | [] => none
    | x :: s1 => (am_pp 2 s1).bind fun v => (am_arr sh v.1 (4 + e.2.2.1)).bind fun o => ((am_cls.getD e.2.2.1 [])[e.2.2.2.toNat]?).bind fun t =>
      if t = 2 then (if x.1 = 2 ∧ e.2.2.2.toNat < o.2.length then some (pc + 3, L, v.2, sh.set v.1.toNat (4 + e.2.2.1, o.1, o.2.set e.2.2.2.toNat (x.2.toNat + 1)), g) else none)
      else if t = 1 then (if x.1 = 1 then some (pc + 3, L, v.2, sh, am_up g v.1.toNat e.2.2.2.toNat x.2) else none)
      else if t = 3 then (if x.1 = 0 ∧ (x.2 = 0 ∨ x.2 = 1) then some (pc + 3, L, v.2, sh, am_up g v.1.toNat e.2.2.2.toNat x.2) else none)
      else (if x.1 = 0 then some (pc + 3, L, v.2, sh, am_up g v.1.toNat e.2.2.2.toNat x.2) else none)
  | _ => none
