/-! the pure machine: values with counted addresses, cells as lists of values -/
def px_up (f : Nat → Option px_C) (a : Nat) (c : px_C) : Nat → Option px_C := fun q => if q = a then some c else f q
def px_set (h : px_H) (a : Nat) (c : px_C) : px_H := (h.1, h.2.1, px_up h.2.2 a c)
def px_new (h : px_H) (n : Nat) (c : px_C) : px_H := (h.1 + 1, h.2.1 + n, px_up h.2.2 h.1 c)
def px_at (m pc : Nat) : Option px_E := (px_codes.getD m []).lookup pc
def px_len : Instr → Nat
  | .iload _ => 2
  | .istore _ => 2
  | .aload _ => 2
  | .astore _ => 2
  | .lload _ => 2
  | .lstore _ => 2
  | .bipush _ => 2
  | .ldc _ => 2
  | .newarray _ => 2
  | .sipush _ => 3
  | .ldc_w _ => 3
  | .ldc2_w _ => 3
  | .getfield _ => 3
  | .getstatic _ => 3
  | .putfield _ => 3
  | .invokevirtual _ => 3
  | .invokestatic _ => 3
  | .invokespecial _ => 3
  | .new _ => 3
  | .anewarray _ => 3
  | .iinc _ _ => 3
  | .goto _ => 3
  | .if_icmp _ _ => 3
  | .ifCond _ _ => 3
  | _ => 1
def px_ldi (L : px_L) (i : Nat) (st : List Value) : Option (List Value) := match L[i]? with
  | some (some (.int x)) => some (.int x :: st)
  | _ => none
def px_ldl (L : px_L) (i : Nat) (st : List Value) : Option (List Value) := match L[i]? with
  | some (some (.long x)) => some (.long x :: st)
  | _ => none
def px_lda (L : px_L) (i : Nat) (st : List Value) : Option (List Value) := match L[i]? with
  | some (some (.ref x)) => some (.ref x :: st)
  | _ => none
def px_i1 (f : Int32 → Int32) : List Value → Option (List Value)
  | .int x :: r => some (.int (f x) :: r)
  | _ => none
def px_i2 (f : Int32 → Int32 → Int32) : List Value → Option (List Value)
  | .int y :: .int x :: r => some (.int (f x y) :: r)
  | _ => none
def px_l2 (f : Int64 → Int64 → Int64) : List Value → Option (List Value)
  | .long y :: .long x :: r => some (.long (f x y) :: r)
  | _ => none
def px_lsh (f : Int64 → Int32 → Int64) : List Value → Option (List Value)
  | .int y :: .long x :: r => some (.long (f x y) :: r)
  | _ => none
def px_idiv : List Value → Option (List Value)
  | .int y :: .int x :: r => if y = 0 then none else some (.int (x / y) :: r)
  | _ => none
def px_ldiv : List Value → Option (List Value)
  | .long y :: .long x :: r => if y = 0 then none else some (.long (x / y) :: r)
  | _ => none
def px_lrem : List Value → Option (List Value)
  | .long y :: .long x :: r => if y = 0 then none else some (.long (x - x / y * y) :: r)
  | _ => none
def px_i2l : List Value → Option (List Value)
  | .int x :: r => some (.long x.toInt64 :: r)
  | _ => none
def px_l2i : List Value → Option (List Value)
  | .long x :: r => some (.int x.toInt32 :: r)
  | _ => none
def px_lcmp : List Value → Option (List Value)
  | .long y :: .long x :: r => some (.int (lg_cmp x y) :: r)
  | _ => none
def px_dup : List Value → Option (List Value)
  | v :: r => if v.category = 1 then some (v :: v :: r) else none
  | _ => none
def px_dup2 : List Value → Option (List Value)
  | v :: w :: r => if v.category = 1 ∧ w.category = 1 then some (v :: w :: v :: w :: r) else none
  | _ => none
def px_pop : List Value → Option (List Value)
  | v :: r => if v.category = 1 then some r else none
  | _ => none
def px_stk (i : Instr) (L : px_L) (st : List Value) : Option (List Value) := match i with
  | .iconst n => some (.int (Int32.ofInt n) :: st)
  | .bipush n => some (.int (Int8.ofInt n).toInt32 :: st)
  | .sipush n => some (.int (Int16.ofInt n).toInt32 :: st)
  | .iload_n k => px_ldi L k.val st
  | .iload k => px_ldi L k st
  | .lload_n k => px_ldl L k.val st
  | .lload k => px_ldl L k st
  | .aload_n k => px_lda L k.val st
  | .aload k => px_lda L k st
  | .iadd => px_i2 (fun x y => x + y) st
  | .isub => px_i2 (fun x y => x - y) st
  | .imul => px_i2 (fun x y => x * y) st
  | .iand => px_i2 (fun x y => x &&& y) st
  | .ior => px_i2 (fun x y => x ||| y) st
  | .ixor => px_i2 (fun x y => x ^^^ y) st
  | .ishl => px_i2 (fun x y => x <<< (y &&& 31)) st
  | .ishr => px_i2 (fun x y => x >>> (y &&& 31)) st
  | .iushr => px_i2 (fun x y => (x.toUInt32 >>> (y.toUInt32 &&& Int32.toUInt32 31)).toInt32) st
  | .ineg => px_i1 (fun x => -x) st
  | .i2b => px_i1 (fun x => x.toInt8.toInt32) st
  | .i2s => px_i1 (fun x => x.toInt16.toInt32) st
  | .i2c => px_i1 (fun x => (x.toUInt32 % 65536).toInt32) st
  | .idiv => px_idiv st
  | .i2l => px_i2l st
  | .l2i => px_l2i st
  | .ladd => px_l2 (fun x y => x + y) st
  | .lsub => px_l2 (fun x y => x - y) st
  | .lmul => px_l2 (fun x y => x * y) st
  | .land => px_l2 (fun x y => x &&& y) st
  | .lor => px_l2 (fun x y => x ||| y) st
  | .ldiv => px_ldiv st
  | .lrem => px_lrem st
  | .lshl => px_lsh (fun x y => x <<< (y.toInt64 &&& 63)) st
  | .lshr => px_lsh (fun x y => x >>> (y.toInt64 &&& 63)) st
  | .lushr => px_lsh (fun x y => (x.toUInt64 >>> (y.toInt64.toUInt64 &&& Int64.toUInt64 63)).toInt64) st
  | .lcmp => px_lcmp st
  | .dup => px_dup st
  | .dup2 => px_dup2 st
  | .pop => px_pop st
  | _ => none
def px_isL : Option (Option Value) → Bool
  | some (some v) => v.category == 2
  | _ => false
def px_clr (L : px_L) : Nat → px_L
  | 0 => L
  | j + 1 => if px_isL L[j]? then L.set j none else L
def px_st1 (L : px_L) (i : Nat) (v : Value) : px_L := (px_clr L i).set i (some v)
def px_st2 (L : px_L) (i : Nat) (v : Value) : px_L := ((px_clr L i).set i (some v)).set (i + 1) none
def px_sti (L : px_L) (i : Nat) : List Value → Option (px_L × List Value)
  | .int x :: r => if i < L.length then some (px_st1 L i (.int x), r) else none
  | _ => none
def px_sta (L : px_L) (i : Nat) : List Value → Option (px_L × List Value)
  | .ref x :: r => if i < L.length then some (px_st1 L i (.ref x), r) else none
  | _ => none
def px_stl (L : px_L) (i : Nat) : List Value → Option (px_L × List Value)
  | .long x :: r => if i + 1 < L.length then some (px_st2 L i (.long x), r) else none
  | _ => none
def px_iic (L : px_L) (i : Nat) (n : Int) (st : List Value) : Option (px_L × List Value) := match L[i]? with
  | some (some (.int x)) => some (px_st1 L i (.int (x + Int32.ofInt n)), st)
  | _ => none
def px_lop (i : Instr) (L : px_L) (st : List Value) : Option (px_L × List Value) := match i with
  | .istore_n k => px_sti L k.val st
  | .istore k => px_sti L k st
  | .astore_n k => px_sta L k.val st
  | .astore k => px_sta L k st
  | .lstore_n k => px_stl L k.val st
  | .lstore k => px_stl L k st
  | .iinc k n => px_iic L k n st
  | _ => none
def px_cmp : Jvm.ClassFile.Cond → Int32 → Int32 → Bool
  | .eq, x, y => decide (x = y)
  | .ne, x, y => decide (¬ x = y)
  | .lt, x, y => decide (x < y)
  | .ge, x, y => decide (y ≤ x)
  | .gt, x, y => decide (y < x)
  | .le, x, y => decide (x ≤ y)
def px_tgt (pc : Nat) (o : Option Int) (r : List Value) : Option (Nat × List Value) := match o with
  | some off => if 0 ≤ (pc : Int) + off then some (((pc : Int) + off).toNat, r) else none
  | none => none
def px_ifc (c : Jvm.ClassFile.Cond) (t f : Nat) : List Value → Option (Nat × List Value)
  | .int x :: r => some (if px_cmp c x 0 then t else f, r)
  | _ => none
def px_icm (c : Jvm.ClassFile.Cond) (t f : Nat) : List Value → Option (Nat × List Value)
  | .int y :: .int x :: r => some (if px_cmp c x y then t else f, r)
  | _ => none
def px_tsw (pc : Nat) (d lo hi : Int) (offs : Array Int) : List Value → Option (Nat × List Value)
  | .int x :: r => px_tgt pc (if x.toInt < lo ∨ hi < x.toInt then some d else offs[(x.toInt - lo).toNat]?) r
  | _ => none
def px_lsw (pc : Nat) (d : Int) (ps : Array (Int × Int)) : List Value → Option (Nat × List Value)
  | .int x :: r => px_tgt pc (some (Op.lookupswitch.offset ps.toList d x.toInt)) r
  | _ => none
def px_br (e : px_E) (pc : Nat) (st : List Value) : Option (Nat × List Value) := match e.1 with
  | .goto _ => some (e.2.2.1, st)
  | .ifCond c _ => px_ifc c e.2.2.1 (pc + 3) st
  | .if_icmp c _ => px_icm c e.2.2.1 (pc + 3) st
  | .tableswitch d lo hi offs => px_tsw pc d lo hi offs st
  | .lookupswitch d ps => px_lsw pc d ps st
  | _ => none
def px_atys : List FieldType := [.int, .long, .char, .short, .byte, .object "JobTests$StepMemory", .object "JobTests$TestCase"]
def px_ty (ci k : Nat) : FieldType := (px_tys.getD ci (fun _ => .int)) k
def px_getf (ci k : Nat) (h : px_H) : List Value → Option (List Value × px_H)
  | .ref a :: r => match h.2.2 a with
    | some (c, vs) => if c = ci then (vs[k]?).map (fun v => (v :: r, h)) else none
    | none => none
  | _ => none
def px_putf (ci k : Nat) (h : px_H) : List Value → Option (List Value × px_H)
  | v :: .ref a :: r => match h.2.2 a with
    | some (c, vs) => if c = ci ∧ k < vs.length ∧ narrow (px_ty ci k) v = v ∧ fits (px_ty ci k) v = true then some (r, px_set h a (c, vs.set k v)) else none
    | none => none
  | _ => none
def px_ald (kd : Nat) (h : px_H) : List Value → Option (List Value × px_H)
  | .int i :: .ref a :: r => match h.2.2 a with
    | some (c, vs) => if c = kd ∧ ¬ i < 0 then (vs[i.toNatClampNeg]?).map (fun v => (v :: r, h)) else none
    | none => none
  | _ => none
def px_aald (h : px_H) : List Value → Option (List Value × px_H)
  | .int i :: .ref a :: r => match h.2.2 a with
    | some (c, vs) => if (c = 55 ∨ c = 56) ∧ ¬ i < 0 then (vs[i.toNatClampNeg]?).map (fun v => (v :: r, h)) else none
    | none => none
  | _ => none
def px_ast (kd : Nat) (ty : FieldType) (h : px_H) : List Value → Option (List Value × px_H)
  | .int x :: .int i :: .ref a :: r => match h.2.2 a with
    | some (c, vs) => if c = kd ∧ 17 ≤ a ∧ ¬ i < 0 ∧ i.toNatClampNeg < vs.length then some (r, px_set h a (c, vs.set i.toNatClampNeg (narrow ty (.int x)))) else none
    | none => none
  | _ => none
def px_last (h : px_H) : List Value → Option (List Value × px_H)
  | .long x :: .int i :: .ref a :: r => match h.2.2 a with
    | some (c, vs) => if c = 51 ∧ 17 ≤ a ∧ ¬ i < 0 ∧ i.toNatClampNeg < vs.length then some (r, px_set h a (c, vs.set i.toNatClampNeg (.long x))) else none
    | none => none
  | _ => none
def px_aast (h : px_H) : List Value → Option (List Value × px_H)
  | .ref b :: .int i :: .ref a :: r => match h.2.2 a, h.2.2 b with
    | some (c, vs), some (d, _) => if ((c = 55 ∧ d = 9) ∨ (c = 56 ∧ d = 10)) ∧ 17 ≤ a ∧ ¬ i < 0 ∧ i.toNatClampNeg < vs.length then some (r, px_set h a (c, vs.set i.toNatClampNeg (.ref b))) else none
    | _, _ => none
  | _ => none
def px_alen (h : px_H) : List Value → Option (List Value × px_H)
  | .ref a :: r => match h.2.2 a with
    | some (c, vs) => if 50 ≤ c then some (.int (Int32.ofNat vs.length) :: r, h) else none
    | none => none
  | _ => none
def px_newa (tag : Nat) (h : px_H) : List Value → Option (List Value × px_H)
  | .int n :: r => match px_atys[tag]? with
    | some ty => if ¬ n < 0 ∧ n.toNatClampNeg ≤ 67108864 then some (.ref h.1 :: r, px_new h n.toNatClampNeg (50 + tag, List.replicate n.toNatClampNeg (defaultValue ty))) else none
    | none => none
  | _ => none
def px_newo (ci : Nat) (h : px_H) (st : List Value) : Option (List Value × px_H) := match vwCl[ci]? with
  | some r => some (.ref h.1 :: st, px_new h r.2.2 (ci, (List.range r.2.2).map (fun k => defaultValue (px_ty ci k))))
  | none => none
def px_sum (st : List Value) : Nat := (st.map fun v => v.category).sum
def px_oin (h : px_H) : List Value → Option (List Value × px_H)
  | .ref _ :: r => if px_sum r ≤ 8 then some (r, h) else none
  | _ => none
def px_max (h : px_H) : List Value → Option (List Value × px_H)
  | .int y :: .int x :: r => if px_sum r ≤ 8 then some (.int (if x < y then y else x) :: r, h) else none
  | _ => none
def px_min (h : px_H) : List Value → Option (List Value × px_H)
  | .int y :: .int x :: r => if px_sum r ≤ 8 then some (.int (if y < x then y else x) :: r, h) else none
  | _ => none
def px_ints : List Value → Option (List Int32)
  | [] => some []
  | .int x :: r => (px_ints r).map (fun l => x :: l)
  | _ => none
def px_cpy (xs ys : List Int32) (sp dp n : Nat) : List Int32 := (List.range ys.length).map (fun k => if dp ≤ k ∧ k < dp + n then xs.getD (sp + (k - dp)) 0 else ys.getD k 0)
def px_acp (h : px_H) : List Value → Option (List Value × px_H)
  | .int n :: .int dp :: .ref b :: .int sp :: .ref a :: r => match h.2.2 a, h.2.2 b with
    | some (c, vs), some (d, ws) => (match px_ints vs, px_ints ws with
      | some xs, some ys => if c = 50 ∧ d = 50 ∧ 17 ≤ a ∧ 17 ≤ b ∧ a ≠ b ∧ ¬ n < 0 ∧ ¬ sp < 0 ∧ ¬ dp < 0 ∧ sp.toNatClampNeg + n.toNatClampNeg ≤ xs.length ∧ dp.toNatClampNeg + n.toNatClampNeg ≤ ys.length ∧ px_sum r ≤ 8 then some (r, px_set h b (50, (px_cpy xs ys sp.toNatClampNeg dp.toNatClampNeg n.toNatClampNeg).map Value.int)) else none
      | _, _ => none)
    | _, _ => none
  | _ => none
def px_hop (e : px_E) (st : List Value) (h : px_H) : Option (List Value × px_H) := match e.1 with
  | .getfield _ => px_getf e.2.2.1 e.2.2.2.1 h st
  | .putfield _ => px_putf e.2.2.1 e.2.2.2.1 h st
  | .iaload => px_ald 50 h st
  | .laload => px_ald 51 h st
  | .caload => px_ald 52 h st
  | .saload => px_ald 53 h st
  | .baload => px_ald 54 h st
  | .aaload => px_aald h st
  | .iastore => px_ast 50 .int h st
  | .castore => px_ast 52 .char h st
  | .sastore => px_ast 53 .short h st
  | .bastore => px_ast 54 .byte h st
  | .lastore => px_last h st
  | .aastore => px_aast h st
  | .arraylength => px_alen h st
  | .newarray _ => px_newa e.2.2.1 h st
  | .anewarray _ => px_newa e.2.2.1 h st
  | .new _ => px_newo e.2.2.1 h st
  | .ldc _ => some (e.2.2.2.2 :: st, h)
  | .ldc_w _ => some (e.2.2.2.2 :: st, h)
  | .ldc2_w _ => some (e.2.2.2.2 :: st, h)
  | .invokespecial _ => px_oin h st
  | .invokestatic _ => if e.2.2.2.1 = 11 then px_max h st else if e.2.2.2.1 = 12 then px_min h st else if e.2.2.2.1 = 16 then px_acp h st else none
  | .getstatic _ => if e.2.2.1 < 2 then some (e.2.2.2.2 :: st, h) else none
  | _ => none
/-- an instruction that is no call of the system's own and no return -/
def px_op (e : px_E) (pc : Nat) (L : px_L) (st : List Value) (h : px_H) : Option (Nat × px_L × List Value × px_H) := match px_stk e.1 L st with
  | some st' => some (pc + px_len e.1, L, st', h)
  | none => match px_lop e.1 L st with
    | some q => some (pc + px_len e.1, q.1, q.2, h)
    | none => match px_br e pc st with
      | some q => some (q.1, L, q.2, h)
      | none => (px_hop e st h).map (fun q => (pc + px_len e.1, L, q.1, q.2))
/-- 0 plain, 1 a call of the system's own, 2 a return -/
def px_kd (e : px_E) : Nat := match e.1 with
  | .ireturn => 2
  | .return_ => 2
  | .invokevirtual _ => if e.2.2.2.1 < 10 then 1 else 0
  | .invokestatic _ => if e.2.2.2.1 < 10 then 1 else 0
  | .invokespecial _ => if e.2.2.2.1 < 10 then 1 else 0
  | _ => 0
def px_sl (vs : List Value) : px_L := vs.flatMap fun v => if v.category = 2 then [some v, none] else [some v]
def px_ent (m : Nat) (vs : List Value) : px_L := px_sl vs ++ List.replicate (px_mls.getD m 0 - (px_sl vs).length) none
def px_rcv (k m : Nat) (h : px_H) : List Value → Bool
  | .ref b :: _ => match k with
    | 1 => (match h.2.2 b with
      | some (c, _) => decide (c = px_owns.getD m 60) && decide (c < 50)
      | none => false)
    | 2 => true
    | 3 => true
    | 4 => true
    | _ => false
  | _ => k == 2
/-- the arguments of a call, and what is left of the stack -/
def px_cut (e : px_E) (st : List Value) (h : px_H) : Option (List Value × List Value) :=
  if (st.take (px_nps.getD e.2.2.1 0 + (if e.2.2.2.1 = 2 then 0 else 1))).length = px_nps.getD e.2.2.1 0 + (if e.2.2.2.1 = 2 then 0 else 1)
    ∧ px_sum (st.drop (px_nps.getD e.2.2.1 0 + (if e.2.2.2.1 = 2 then 0 else 1))) ≤ 8
    ∧ (px_sl (st.take (px_nps.getD e.2.2.1 0 + (if e.2.2.2.1 = 2 then 0 else 1))).reverse).length ≤ px_mls.getD e.2.2.1 0
    ∧ px_rcv e.2.2.2.1 e.2.2.1 h (st.take (px_nps.getD e.2.2.1 0 + (if e.2.2.2.1 = 2 then 0 else 1))).reverse = true
  then some ((st.take (px_nps.getD e.2.2.1 0 + (if e.2.2.2.1 = 2 then 0 else 1))).reverse, st.drop (px_nps.getD e.2.2.1 0 + (if e.2.2.2.1 = 2 then 0 else 1))) else none
def px_ret (m : Nat) (i : Instr) (st : List Value) : Option (Option Value) := match i, px_rts.getD m none with
  | .return_, none => (match st with
    | [] => some none
    | _ => none)
  | .ireturn, some ty => (match st with
    | [.int v] => if narrow ty (.int v) = .int v then some (some (.int v)) else none
    | _ => none)
  | _, _ => none
def px_run : Nat → Nat → Nat → px_L → List Value → px_H → Option (px_H × Option Value)
  | 0, _, _, _, _, _ => none
  | n + 1, m, pc, L, st, h => match px_at m pc with
    | none => none
    | some e => match px_kd e with
      | 0 => (match px_op e pc L st h with
        | some q => px_run n m q.1 q.2.1 q.2.2.1 q.2.2.2
        | none => none)
      | 1 => (match px_cut e st h with
        | some q => (match px_run n e.2.2.1 0 (px_ent e.2.2.1 q.1) [] h with
          | some r => px_run n m (pc + 3) L (r.2.toList ++ q.2) r.1
          | none => none)
        | none => none)
      | _ => (px_ret m e.1 st).map (fun v => (h, v))
