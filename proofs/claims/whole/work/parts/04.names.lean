def am_mN (y : Nat) : MethodName := (am_m y).1
def am_mB (y : Nat) : ByteArray := (am_m y).2.1
def am_mL (y : Nat) : Nat := (am_m y).2.2.1
def am_mR (y : Nat) : Option FieldType := (am_m y).2.2.2.1
/-- the number of the receiver's class -/
def am_mC (y : Nat) : Nat := (am_m y).2.2.2.2.2.2.2.2
def am_fty (ci k : Nat) : FieldType := (am_ft.getD ci []).getD k .int
def am_dv (ci : Nat) : List Value := (am_ft.getD ci []).map defaultValue
def am_code (y pc : Nat) : Option am_I := ((am_cd y).find? (fun q => q.1 == pc)).map (fun q => q.2)
