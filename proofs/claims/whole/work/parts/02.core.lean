/-! AN ABSTRACT MACHINE: bytecode over a memory of cells, as a function. A cell: an array (its kind, its length, its contents) or an object (its class, its fields). -/
abbrev am_C : Type := (Nat × vp_A) ⊕ (Nat × List Value)
abbrev am_M : Type := Nat × (Nat → Option am_C)
abbrev am_L : Type := List (Option Value)
abbrev am_F : Type := Nat × am_L × List Value × am_M
abbrev am_R : Type := Option Value × am_M
abbrev am_A : Type := Option (am_F ⊕ (am_R ⊕ (Nat × List Value × am_F)))
/-- an instruction, its length, two numbers, the place of its word in lw_tbl, a number -/
abbrev am_I : Type := Instr × Nat × Nat × Nat × Nat × Int
def am_isi (v : Value) : Bool := match v with | .int _ => true | _ => false
def am_isl (v : Value) : Bool := match v with | .long _ => true | _ => false
def am_isr (v : Value) : Bool := match v with | .ref _ => true | .null => true | _ => false
def am_set (M : am_M) (q : Nat) (e : am_C) : am_M := (M.1, fun j => if j = q then some e else M.2 j)
def am_add (M : am_M) (e : am_C) : am_M := (M.1 + 1, fun j => if j = M.1 then some e else M.2 j)
def am_go (pc : Nat) (L : am_L) (st : List Value) (M : am_M) : am_A := some (.inl (pc, L, st, M))
def am_sw (st : List Value) : Nat := (st.map fun v => v.category).sum
/-- kinds of arrays: 0 int, 1 long, 2 boolean; 3 byte and 5 int, old ones that nobody writes; 10 + c: of references to the class c -/
def am_rd (f : (Nat → Int32) ⊕ (Nat → Int64) ⊕ (Nat → UInt32) ⊕ (Nat → UInt64) ⊕ (Nat → Option Nat)) (j : Nat) : Value := match f with
  | .inl f => .int (f j)
  | .inr (.inl f) => .long (f j)
  | .inr (.inr (.inl f)) => .float (f j)
  | .inr (.inr (.inr (.inl f))) => .double (f j)
  | .inr (.inr (.inr (.inr f))) => va_rf (f j)
/-- a field of an object of the class ci -/
def am_fld (M : am_M) (a ci k : Nat) : Option Value := match M.2 a with
  | some (.inr (c, fs)) => if c = ci then fs[k]? else none
  | _ => none
def am_okf (ty : FieldType) (v : Value) : Bool := match ty, v with
  | .int, .int _ => true
  | .long, .long _ => true
  | .boolean, .int x => decide (x = 0 ∨ x = 1)
  | .object _, .ref _ => true
  | .object _, .null => true
  | .array _, .ref _ => true
  | .array _, .null => true
  | _, _ => false
def am_pf (M : am_M) (a ci k : Nat) (ty : FieldType) (v : Value) : Option am_M := match M.2 a with
  | some (.inr (c, fs)) => if c = ci ∧ k < fs.length ∧ am_okf ty v = true then some (am_set M a (.inr (ci, fs.set k v))) else none
  | _ => none
def am_cls (M : am_M) (a : Nat) : Option Nat := match M.2 a with
  | some (.inr (c, _)) => some c
  | _ => none
def am_len (M : am_M) (a : Nat) : Option Nat := match M.2 a with
  | some (.inl (_, n, _)) => some n
  | _ => none
/-- item i of an array of a kind of t: 0 ints, 1 longs, 2 booleans and bytes, 3 references -/
def am_okk (t k : Nat) : Bool := match t with
  | 0 => k == 0 || k == 5
  | 1 => k == 1
  | 2 => k == 2 || k == 3
  | _ => decide (10 ≤ k)
def am_ag (t : Nat) (M : am_M) (a : Nat) (i : Int32) : Option Value := match M.2 a with
  | some (.inl (k, n, f)) => if am_okk t k = true ∧ 0 ≤ i ∧ i.toNatClampNeg < n then some (am_rd f i.toNatClampNeg) else none
  | _ => none
def am_pi (M : am_M) (a : Nat) (i x : Int32) : Option am_M := match M.2 a with
  | some (.inl (k, n, .inl f)) => if k = 0 ∧ 0 ≤ i ∧ i.toNatClampNeg < n then some (am_set M a (.inl (0, n, .inl (upd f i.toNatClampNeg x)))) else none
  | _ => none
def am_pl (M : am_M) (a : Nat) (i : Int32) (x : Int64) : Option am_M := match M.2 a with
  | some (.inl (k, n, .inr (.inl f))) => if k = 1 ∧ 0 ≤ i ∧ i.toNatClampNeg < n then some (am_set M a (.inl (1, n, .inr (.inl (vp_updL f i.toNatClampNeg x))))) else none
  | _ => none
def am_pz (M : am_M) (a : Nat) (i x : Int32) : Option am_M := match M.2 a with
  | some (.inl (k, n, .inl f)) => if k = 2 ∧ 0 ≤ i ∧ i.toNatClampNeg < n ∧ (x = 0 ∨ x = 1) then some (am_set M a (.inl (2, n, .inl (upd f i.toNatClampNeg x)))) else none
  | _ => none
def am_pr (M : am_M) (a : Nat) (i : Int32) (v : Nat) : Option am_M := match M.2 a with
  | some (.inl (k, n, .inr (.inr (.inr (.inr f))))) => if 10 ≤ k ∧ 0 ≤ i ∧ i.toNatClampNeg < n ∧ am_cls M v = some (k - 10) then some (am_set M a (.inl (k, n, .inr (.inr (.inr (.inr (va_up f i.toNatClampNeg (some v)))))))) else none
  | _ => none
/-- System.arraycopy of ints -/
def am_cp (M : am_M) (a0 : Nat) (sp : Int32) (a : Nat) (dp n : Int32) : Option am_M := match M.2 a0, M.2 a with
  | some (.inl (k0, n0, .inl f)), some (.inl (k1, n1, .inl g)) => if k0 = 0 ∧ k1 = 0 ∧ 0 ≤ sp ∧ 0 ≤ dp ∧ 0 ≤ n ∧ sp.toNatClampNeg + n.toNatClampNeg ≤ n0 ∧ dp.toNatClampNeg + n.toNatClampNeg ≤ n1 then some (am_set M a (.inl (0, n1, .inl (va_cpy f g sp.toNatClampNeg dp.toNatClampNeg n.toNatClampNeg)))) else none
  | _, _ => none
def am_load (chk : Value → Bool) (i len pc : Nat) (L : am_L) (st : List Value) (M : am_M) : am_A := match L[i]? with
  | some (some v) => if chk v = true then am_go (pc + len) L (v :: st) M else none
  | _ => none
def am_kill (L : am_L) (i : Nat) : am_L := match i with
  | 0 => L
  | k + 1 => match L[k]? with
    | some (some w) => if w.category = 2 then L.set k none else L
    | _ => L
def am_s1 (L : am_L) (i : Nat) (v : Value) : am_L := (am_kill L i).set i (some v)
def am_s2 (L : am_L) (i : Nat) (v : Value) : am_L := ((am_kill L i).set i (some v)).set (i + 1) none
def am_stor1 (chk : Value → Bool) (i len pc : Nat) (L : am_L) (st : List Value) (M : am_M) : am_A := match st with
  | v :: r => if chk v = true ∧ i < L.length then am_go (pc + len) (am_s1 L i v) r M else none
  | _ => none
def am_stor2 (i len pc : Nat) (L : am_L) (st : List Value) (M : am_M) : am_A := match st with
  | .long v :: r => if i + 1 < L.length then am_go (pc + len) (am_s2 L i (.long v)) r M else none
  | _ => none
def am_ii (f : Int32 → Int32 → Int32) (pc : Nat) (L : am_L) (st : List Value) (M : am_M) : am_A := match st with
  | .int b :: .int a :: r => am_go (pc + 1) L (.int (f a b) :: r) M
  | _ => none
def am_iz (f : Int32 → Int32 → Int32) (pc : Nat) (L : am_L) (st : List Value) (M : am_M) : am_A := match st with
  | .int b :: .int a :: r => if b = 0 then none else am_go (pc + 1) L (.int (f a b) :: r) M
  | _ => none
def am_ll (f : Int64 → Int64 → Int64) (pc : Nat) (L : am_L) (st : List Value) (M : am_M) : am_A := match st with
  | .long b :: .long a :: r => am_go (pc + 1) L (.long (f a b) :: r) M
  | _ => none
def am_lz (f : Int64 → Int64 → Int64) (pc : Nat) (L : am_L) (st : List Value) (M : am_M) : am_A := match st with
  | .long b :: .long a :: r => if b = 0 then none else am_go (pc + 1) L (.long (f a b) :: r) M
  | _ => none
def am_li (f : Int64 → Int32 → Int64) (pc : Nat) (L : am_L) (st : List Value) (M : am_M) : am_A := match st with
  | .int b :: .long a :: r => am_go (pc + 1) L (.long (f a b) :: r) M
  | _ => none
def am_i1 (f : Int32 → Value) (pc : Nat) (L : am_L) (st : List Value) (M : am_M) : am_A := match st with
  | .int a :: r => am_go (pc + 1) L (f a :: r) M
  | _ => none
def am_l1 (f : Int64 → Value) (pc : Nat) (L : am_L) (st : List Value) (M : am_M) : am_A := match st with
  | .long a :: r => am_go (pc + 1) L (f a :: r) M
  | _ => none
def am_jmp (pc : Nat) (off : Int) (L : am_L) (st : List Value) (M : am_M) : am_A := if 0 ≤ (pc : Int) + off then am_go ((pc : Int) + off).toNat L st M else none
def am_br (b : Bool) (pc : Nat) (off : Int) (L : am_L) (st : List Value) (M : am_M) : am_A := if 0 ≤ (pc : Int) + off then (if b = true then am_go ((pc : Int) + off).toNat L st M else am_go (pc + 3) L st M) else none
def am_cnd (c : ClassFile.Cond) (a b : Int32) : Bool := match c with
  | .eq => decide (a = b)
  | .ne => decide (¬ a = b)
  | .lt => decide (a < b)
  | .ge => decide (b ≤ a)
  | .gt => decide (b < a)
  | .le => decide (a ≤ b)
def am_swt (pc : Nat) (dflt lo hi : Int) (offs : Array Int) (x : Int) (L : am_L) (st : List Value) (M : am_M) : am_A :=
  if x < lo ∨ hi < x then am_jmp pc dflt L st M else match offs[(x - lo).toNat]? with
  | some off => am_jmp pc off L st M
  | none => none
def am_lk (pc : Nat) (dflt : Int) (ps : Array (Int × Int)) (x : Int) (L : am_L) (st : List Value) (M : am_M) : am_A :=
  if (ps.toList.zip (ps.toList.drop 1)).all (fun (a, next) => a.1 < next.1) = true then am_jmp pc (Op.lookupswitch.offset ps.toList dflt x) L st M else none
def am_opt (o : Option am_M) (pc : Nat) (L : am_L) (st : List Value) : am_A := match o with
  | some M => am_go pc L st M
  | none => none
def am_psh (o : Option Value) (pc : Nat) (L : am_L) (st : List Value) (M : am_M) : am_A := match o with
  | some v => am_go pc L (v :: st) M
  | none => none
/-- what is asked of an int that a method of a type answers -/
def am_okr (ty : Option FieldType) (x : Int32) : Bool := match ty with
  | some .int => true
  | some .boolean => decide (x = 0 ∨ x = 1)
  | some .byte => decide (x.toInt8.toInt32 = x)
  | some .char => decide (x.toUInt32.toUInt16.toUInt32.toInt32 = x)
  | _ => false
