/-- the locals at a method's entry -/
def am_exp (args : List Value) : am_L := args.flatMap fun v => if v.category = 2 then [some v, none] else [some v]
def am_ent (y : Nat) (args : List Value) : am_L := am_exp args ++ List.replicate (am_mL y - (am_exp args).length) none
def am_nk (t : ArrayType) : Option (Nat × ((Nat → Int32) ⊕ (Nat → Int64) ⊕ (Nat → UInt32) ⊕ (Nat → UInt64) ⊕ (Nat → Option Nat))) := match t with
  | .int => some (0, .inl (fun _ => 0))
  | .long => some (1, .inr (.inl (fun _ => 0)))
  | .boolean => some (2, .inl (fun _ => 0))
  | _ => none
def am_newa (o : Option (Nat × ((Nat → Int32) ⊕ (Nat → Int64) ⊕ (Nat → UInt32) ⊕ (Nat → UInt64) ⊕ (Nat → Option Nat)))) (n : Int32) (M : am_M) : Option am_M := match o with
  | some (k, f) => if 0 ≤ n ∧ n.toNatClampNeg ≤ 1000 then some (am_add M (.inl (k, n.toNatClampNeg, f))) else none
  | none => none
def am_call (y : Nat) (args : List Value) (pc : Nat) (L : am_L) (st : List Value) (M : am_M) : am_A := if am_sw st ≤ 8 ∧ (am_exp args).length ≤ am_mL y then some (.inr (.inr (y, args, (pc + 3, L, st, M)))) else none
/-- a call with a receiver; b: its class is looked at -/
def am_cv (b : Bool) (y n pc : Nat) (L : am_L) (st : List Value) (M : am_M) : am_A := match st.drop n with
  | .ref a :: r => if b = false ∨ am_cls M a = some (am_mC y) then am_call y (.ref a :: (st.take n).reverse) pc L r M else none
  | _ => none
/-- Math.max, min of ints, max, min, abs of longs -/
def am_ms (v : Int) (pc : Nat) (L : am_L) (st : List Value) (M : am_M) : am_A :=
  if v = 10 then (match st with
    | .int b :: .int a :: r => if am_sw r ≤ 8 then am_go (pc + 3) L (.int (if a < b then b else a) :: r) M else none
    | _ => none) else if v = 11 then (match st with
    | .int b :: .int a :: r => if am_sw r ≤ 8 then am_go (pc + 3) L (.int (if b < a then b else a) :: r) M else none
    | _ => none) else if v = 12 then (match st with
    | .long b :: .long a :: r => if am_sw r ≤ 8 then am_go (pc + 3) L (.long (if b < a then a else b) :: r) M else none
    | _ => none) else if v = 13 then (match st with
    | .long b :: .long a :: r => if am_sw r ≤ 8 then am_go (pc + 3) L (.long (if b < a then b else a) :: r) M else none
    | _ => none) else (match st with
    | .long a :: r => if am_sw r ≤ 8 then am_go (pc + 3) L (.long (if 0 < a then a else -a) :: r) M else none
    | _ => none)
def am_rrt (t : Option FieldType) : Bool := match t with
  | some (.object _) => true
  | some (.array _) => true
  | _ => false
def am_act (G : Nat → Value) (y : Nat) (x : am_I) (pc : Nat) (L : am_L) (st : List Value) (M : am_M) : am_A :=
  match x.1 with
  | .aconst_null => am_go (pc + 1) L (.null :: st) M
  | .iconst n => am_go (pc + 1) L (.int (Int32.ofInt n) :: st) M
  | .lconst n => am_go (pc + 1) L (.long (Int64.ofNat n) :: st) M
  | .bipush n => am_go (pc + 2) L (.int (Int8.ofInt n).toInt32 :: st) M
  | .sipush n => am_go (pc + 3) L (.int (Int16.ofInt n).toInt32 :: st) M
  | .ldc _ => if x.2.2.1 = 0 then am_go (pc + 2) L (.int (Int32.ofInt x.2.2.2.2.2) :: st) M else am_go (pc + 2) L (G x.2.2.2.1 :: st) M
  | .ldc_w _ => if x.2.2.1 = 0 then am_go (pc + 3) L (.int (Int32.ofInt x.2.2.2.2.2) :: st) M else none
  | .ldc2_w _ => am_go (pc + 3) L (.long (Int64.ofInt x.2.2.2.2.2) :: st) M
  | .iload i => am_load am_isi i 2 pc L st M
  | .iload_n i => am_load am_isi i.val 1 pc L st M
  | .lload i => am_load am_isl i 2 pc L st M
  | .lload_n i => am_load am_isl i.val 1 pc L st M
  | .aload i => am_load am_isr i 2 pc L st M
  | .aload_n i => am_load am_isr i.val 1 pc L st M
  | .istore i => am_stor1 am_isi i 2 pc L st M
  | .istore_n i => am_stor1 am_isi i.val 1 pc L st M
  | .lstore i => am_stor2 i 2 pc L st M
  | .lstore_n i => am_stor2 i.val 1 pc L st M
  | .astore i => am_stor1 am_isr i 2 pc L st M
  | .astore_n i => am_stor1 am_isr i.val 1 pc L st M
  | .iinc i n => match L[i]? with
    | some (some (.int a)) => if i < L.length then am_go (pc + 3) (am_s1 L i (.int (a + Int32.ofInt n))) st M else none
    | _ => none
  | .iadd => am_ii (fun a b => a + b) pc L st M
  | .isub => am_ii (fun a b => a - b) pc L st M
  | .imul => am_ii (fun a b => a * b) pc L st M
  | .iand => am_ii (fun a b => a &&& b) pc L st M
  | .ishr => am_ii (fun a b => a >>> (b &&& 31)) pc L st M
  | .idiv => am_iz (fun a b => a / b) pc L st M
  | .irem => am_iz (fun a b => a - a / b * b) pc L st M
  | .ineg => am_i1 (fun a => .int (-a)) pc L st M
  | .ladd => am_ll (fun a b => a + b) pc L st M
  | .lsub => am_ll (fun a b => a - b) pc L st M
  | .lmul => am_ll (fun a b => a * b) pc L st M
  | .land => am_ll (fun a b => a &&& b) pc L st M
  | .lor => am_ll (fun a b => a ||| b) pc L st M
  | .ldiv => am_lz (fun a b => a / b) pc L st M
  | .lneg => am_l1 (fun a => .long (-a)) pc L st M
  | .lshl => am_li (fun a b => a <<< (b.toInt64 &&& 63)) pc L st M
  | .lshr => am_li (fun a b => a >>> (b.toInt64 &&& 63)) pc L st M
  | .i2l => am_i1 (fun a => .long a.toInt64) pc L st M
  | .i2b => am_i1 (fun a => .int a.toInt8.toInt32) pc L st M
  | .i2s => am_i1 (fun a => .int a.toInt16.toInt32) pc L st M
  | .i2c => am_i1 (fun a => .int (a.toUInt32 % 65536).toInt32) pc L st M
  | .l2i => am_l1 (fun a => .int a.toInt32) pc L st M
  | .lcmp => match st with
    | .long b :: .long a :: r => am_go (pc + 1) L (.int (lg_cmp a b) :: r) M
    | _ => none
  | .pop => match st with
    | v :: r => if v.category = 1 then am_go (pc + 1) L r M else none
    | _ => none
  | .dup => match st with
    | v :: r => if v.category = 1 then am_go (pc + 1) L (v :: v :: r) M else none
    | _ => none
  | .dup_x1 => match st with
    | v :: w :: r => if v.category = 1 ∧ w.category = 1 then am_go (pc + 1) L (v :: w :: v :: r) M else none
    | _ => none
  | .dup2 => match st with
    | v :: w :: r => if v.category = 1 ∧ w.category = 1 then am_go (pc + 1) L (v :: w :: v :: w :: r) M else none
    | _ => none
  | .ifCond c off => match st with
    | .int a :: r => am_br (am_cnd c a 0) pc off L r M
    | _ => none
  | .if_icmp c off => match st with
    | .int b :: .int a :: r => am_br (am_cnd c a b) pc off L r M
    | _ => none
  | .ifnull off => match st with
    | v :: r => if am_isr v = true then am_br (decide (v = .null)) pc off L r M else none
    | _ => none
  | .ifnonnull off => match st with
    | v :: r => if am_isr v = true then am_br (decide (¬ v = .null)) pc off L r M else none
    | _ => none
  | .goto off => am_jmp pc off L st M
  | .tableswitch d lo hi offs => match st with
    | .int a :: r => am_swt pc d lo hi offs a.toInt L r M
    | _ => none
  | .lookupswitch d ps => match st with
    | .int a :: r => am_lk pc d ps a.toInt L r M
    | _ => none
  | .getfield _ => match st with
    | .ref a :: r => am_psh (am_fld M a x.2.2.1 x.2.2.2.1) (pc + 3) L r M
    | _ => none
  | .putfield _ => match st with
    | v :: .ref a :: r => if x.2.2.1 = 11 then none else am_opt (am_pf M a x.2.2.1 x.2.2.2.1 (am_fty x.2.2.1 x.2.2.2.1) v) (pc + 3) L r
    | _ => none
  | .getstatic _ => if x.2.2.1 = 1 then am_go (pc + 3) L (.int 1 :: st) M else am_go (pc + 3) L (G x.2.2.1 :: st) M
  | .arraylength => match st with
    | .ref a :: r => match am_len M a with
      | some n => am_go (pc + 1) L (.int (Int32.ofNat n) :: r) M
      | none => none
    | _ => none
  | .iaload => match st with
    | .int i :: .ref a :: r => am_psh (am_ag 0 M a i) (pc + 1) L r M
    | _ => none
  | .laload => match st with
    | .int i :: .ref a :: r => am_psh (am_ag 1 M a i) (pc + 1) L r M
    | _ => none
  | .baload => match st with
    | .int i :: .ref a :: r => am_psh (am_ag 2 M a i) (pc + 1) L r M
    | _ => none
  | .aaload => match st with
    | .int i :: .ref a :: r => am_psh (am_ag 3 M a i) (pc + 1) L r M
    | _ => none
  | .iastore => match st with
    | .int x :: .int i :: .ref a :: r => am_opt (am_pi M a i x) (pc + 1) L r
    | _ => none
  | .lastore => match st with
    | .long x :: .int i :: .ref a :: r => am_opt (am_pl M a i x) (pc + 1) L r
    | _ => none
  | .bastore => match st with
    | .int x :: .int i :: .ref a :: r => am_opt (am_pz M a i x) (pc + 1) L r
    | _ => none
  | .aastore => match st with
    | .ref v :: .int i :: .ref a :: r => am_opt (am_pr M a i v) (pc + 1) L r
    | _ => none
  | .new _ => am_go (pc + 3) L (.ref M.1 :: st) (am_add M (.inr (x.2.2.1, am_dv x.2.2.1)))
  | .newarray t => match st with
    | .int n :: r => am_opt (am_newa (am_nk t) n M) (pc + 2) L (.ref M.1 :: r)
    | _ => none
  | .anewarray _ => match st with
    | .int n :: r => am_opt (am_newa (some (10 + x.2.2.1, .inr (.inr (.inr (.inr (fun _ => none)))))) n M) (pc + 3) L (.ref M.1 :: r)
    | _ => none
  | .invokevirtual _ => am_cv true x.2.2.1 x.2.2.2.1 pc L st M
  | .invokestatic _ => if x.2.2.2.2.2 = 6 then (match st with
    | .int n :: .int dp :: .ref a :: .int sp :: .ref a0 :: r => if am_sw r ≤ 8 then am_opt (am_cp M a0 sp a dp n) (pc + 3) L r else none
    | _ => none) else if 10 ≤ x.2.2.2.2.2 then am_ms x.2.2.2.2.2 pc L st M else if x.2.2.2.1 ≤ st.length then am_call x.2.2.1 (st.take x.2.2.2.1).reverse pc L (st.drop x.2.2.2.1) M else none
  | .invokespecial _ => if x.2.2.2.2.2 = 5 then (match st with
    | .ref a :: r => if am_sw r ≤ 8 then am_go (pc + 3) L r M else none
    | _ => none) else am_cv false x.2.2.1 x.2.2.2.1 pc L st M
  | .ireturn => match st with
    | [.int a] => if am_okr (am_mR y) a = true then some (.inr (.inl (some (.int a), M))) else none
    | _ => none
  | .lreturn => match st with
    | [.long a] => if am_mR y = some .long then some (.inr (.inl (some (.long a), M))) else none
    | _ => none
  | .areturn => match st with
    | [v] => if am_isr v = true ∧ am_rrt (am_mR y) = true then some (.inr (.inl (some v, M))) else none
    | _ => none
  | .return_ => match st with
    | [] => if am_mR y = none then some (.inr (.inl (none, M))) else none
    | _ => none
  | _ => none
def am_runN (G : Nat → Value) : Nat → Nat → Nat → am_F → Option am_R
  | 0, _, _, _ => none
  | n + 1, d, y, c => match (am_code y c.1).bind (fun x => am_act G y x c.1 c.2.1 c.2.2.1 c.2.2.2) with
    | none => none
    | some (.inl c') => am_runN G n d y c'
    | some (.inr (.inl r)) => some r
    | some (.inr (.inr (z, args, c'))) => if d = 0 then none else match am_runN G n (d - 1) z (0, am_ent z args, [], c'.2.2.2) with
      | none => none
      | some r => am_runN G n d y (c'.1, c'.2.1, r.1.toList ++ c'.2.2.1, r.2)
