/-- what is known of the tables at the law's entry: s0; b0: the heap's size there; G: addresses of constants; D, dA: the classes' numbers -/
def am_strs : List (String × Nat × Nat × String) := [("CushionHall", 67, 10, "late tired * 2 ; leave time = 0 ;"), ("CushionHall$Tape", 120, 11, "kind"), ("CushionHall$Tape", 122, 12, "hall"), ("CushionHall$Tape", 124, 13, "pitch"), ("CushionHall$Tape", 126, 14, "many"), ("CushionHall$Tape", 128, 15, "time"), ("CushionHall$Tape", 130, 16, "tired"), ("CushionHall$Tape", 132, 17, "late"), ("CushionHall$Tape", 134, 18, "leave"), ("CushionHall$Tape", 136, 19, "or"), ("CushionHall$Tape", 138, 20, "and"), ("CushionHall$Tape", 140, 21, "not"), ("CushionHall$Tape", 97, 22, "();+-*<=")]
def am_Env (s0 : State) (b0 : Nat) (G : Nat → Value) (D : va_G) (dA : Nat → ClassId) : Prop :=
  (∀ w ∈ lw_tbl, w.before #[] s0 = true) ∧ (∀ (ci : Nat) (q : vw_C), am_cl[ci]? = some q → u_Kn s0 q.1 q.2.1 q.2.2 (D.1 ci) (D.2 ci)) ∧ (∀ k, am_kok k = true → ArrOfT s0 (dA k) (am_ty k) ∧ va_RA s0 (dA k) (am_ty k)) ∧ b0 = s0.heap.size ∧
  va_Z "CushionHall" "UNDER" "[I" (G 0) (fun q => b0 ≤ q) s0 s0.heap ∧ va_Z "java/lang/String" "COMPACT_STRINGS" "Z" (.int 1) (fun q => b0 ≤ q) s0 s0.heap ∧ va_Z "jdk/internal/util/Preconditions" "SIOOBE_FORMATTER" "Ljava/util/function/BiFunction;" (G 2) (fun q => b0 ≤ q) s0 s0.heap ∧
  ∀ q ∈ am_strs, ∃ a : Nat, G q.2.2.1 = .ref a ∧ vk_R q.1 q.2.1 q.2.2.2 a s0
def am_Ctx (p : Program) (R : Room) (s : State) (m : MethodId) (meth : Method) (c : Code) (s0 : State) (b0 : Nat) (G : Nat → Value) (D : va_G) (dA : Nat → ClassId) (y : Nat) : Prop :=
  p.tables.exec = Jvm.exec ∧ c.code = am_mB y ∧ c.maxLocals = am_mL y ∧ s.vm.findClass (am_own y) = some m.cls ∧ ((am_mN y).name = "<init>" → meth.name = "<init>") ∧ s0.WarmedH s.vm ∧ 1 ≤ R.frames ∧ 64 ≤ R.locals ∧ am_Env s0 b0 G D dA
def am_W (p : Program) (l : Launch) (e : Env) (R : Room) (s : State) (m : MethodId) (args : Array Value) (below : List Frame) (meth : Method) (c : Code) (Q : State → Prop) (s0 : State) (b0 : Nat) (D : va_G) (dA : Nat → ClassId) (y : Nat) (f : am_F) (cells slots : Nat) : Prop :=
  ∀ (H : Heap) (ls : Array Slot) (locs : List Loc), am_Rel s0 b0 D dA f.2.2.2 H → lv_has ls (am_mL y) (am_as f.2.1) → f.2.1.length = am_mL y → (∀ q ∈ locs, b0 ≤ q.base) → W p l e R s m args below meth c H locs cells slots Q (F0 m f.1 ls f.2.2.1)
theorem am_wd {s0 : State} {b0 : Nat} {G : Nat → Value} {D : va_G} {dA : Nat → ClassId} {s : State} {args : Array Value} {w : Jvm.Cond} (E : am_Env s0 b0 G D dA) (hW : s0.WarmedH s.vm) (h : w ∈ lw_tbl) (hg : goodWord w = true) : w.before args s = true := word_at hW (good_of_word hg) (E.1 w h)
section
variable {p : Program} {l : Launch} {e : Env} {R : Room} {s : State} {m : MethodId} {args : Array Value} {below : List Frame} {meth : Method} {c : Code} {Q : State → Prop} {s0 : State} {b0 : Nat} {G : Nat → Value} {D : va_G} {dA : Nat → ClassId} {y pc : Nat} {L : am_L} {st : List Value} {M : am_M} {c' : am_F} {cells slots : Nat}
theorem am_t_iadd (X : am_Ctx p R s m meth c s0 b0 G D dA y) (hd : decode (am_mB y) pc = .ok (.iadd, 1)) (ha : am_ii (fun a b => a + b) pc L st M = some (.inl c')) (K : am_W p l e R s m args below meth c Q s0 b0 D dA y c' cells slots) : am_W p l e R s m args below meth c Q s0 b0 D dA y (pc, L, st, M) cells slots := by
  unfold am_ii at ha
  split at ha
  · rw [am_go] at ha
    cases ha
    intro H ls locs hR hl hL hq
    exact lv_iadd X.1 X.2.1 hd (K H ls locs hR hl hL hq)
  · cases ha
theorem am_t_isub (X : am_Ctx p R s m meth c s0 b0 G D dA y) (hd : decode (am_mB y) pc = .ok (.isub, 1)) (ha : am_ii (fun a b => a - b) pc L st M = some (.inl c')) (K : am_W p l e R s m args below meth c Q s0 b0 D dA y c' cells slots) : am_W p l e R s m args below meth c Q s0 b0 D dA y (pc, L, st, M) cells slots := by
  unfold am_ii at ha
  split at ha
  · rw [am_go] at ha
    cases ha
    intro H ls locs hR hl hL hq
    exact lv_isub X.1 X.2.1 hd (K H ls locs hR hl hL hq)
  · cases ha
theorem am_t_imul (X : am_Ctx p R s m meth c s0 b0 G D dA y) (hd : decode (am_mB y) pc = .ok (.imul, 1)) (ha : am_ii (fun a b => a * b) pc L st M = some (.inl c')) (K : am_W p l e R s m args below meth c Q s0 b0 D dA y c' cells slots) : am_W p l e R s m args below meth c Q s0 b0 D dA y (pc, L, st, M) cells slots := by
  unfold am_ii at ha
  split at ha
  · rw [am_go] at ha
    cases ha
    intro H ls locs hR hl hL hq
    exact lv_imul X.1 X.2.1 hd (K H ls locs hR hl hL hq)
  · cases ha
theorem am_t_iand (X : am_Ctx p R s m meth c s0 b0 G D dA y) (hd : decode (am_mB y) pc = .ok (.iand, 1)) (ha : am_ii (fun a b => a &&& b) pc L st M = some (.inl c')) (K : am_W p l e R s m args below meth c Q s0 b0 D dA y c' cells slots) : am_W p l e R s m args below meth c Q s0 b0 D dA y (pc, L, st, M) cells slots := by
  unfold am_ii at ha
  split at ha
  · rw [am_go] at ha
    cases ha
    intro H ls locs hR hl hL hq
    exact lv_iand X.1 X.2.1 hd (K H ls locs hR hl hL hq)
  · cases ha
theorem am_t_ishr (X : am_Ctx p R s m meth c s0 b0 G D dA y) (hd : decode (am_mB y) pc = .ok (.ishr, 1)) (ha : am_ii (fun a b => a >>> (b &&& 31)) pc L st M = some (.inl c')) (K : am_W p l e R s m args below meth c Q s0 b0 D dA y c' cells slots) : am_W p l e R s m args below meth c Q s0 b0 D dA y (pc, L, st, M) cells slots := by
  unfold am_ii at ha
  split at ha
  · rw [am_go] at ha
    cases ha
    intro H ls locs hR hl hL hq
    exact lv_ishr X.1 X.2.1 hd (K H ls locs hR hl hL hq)
  · cases ha
theorem am_t_idiv (X : am_Ctx p R s m meth c s0 b0 G D dA y) (hd : decode (am_mB y) pc = .ok (.idiv, 1)) (ha : am_iz (fun a b => a / b) pc L st M = some (.inl c')) (K : am_W p l e R s m args below meth c Q s0 b0 D dA y c' cells slots) : am_W p l e R s m args below meth c Q s0 b0 D dA y (pc, L, st, M) cells slots := by
  unfold am_iz at ha
  split at ha
  · split at ha
    · cases ha
    · next hne =>
      rw [am_go] at ha
      cases ha
      intro H ls locs hR hl hL hq
      exact lv_idiv X.1 X.2.1 hd hne (K H ls locs hR hl hL hq)
  · cases ha
theorem am_t_irem (X : am_Ctx p R s m meth c s0 b0 G D dA y) (hd : decode (am_mB y) pc = .ok (.irem, 1)) (ha : am_iz (fun a b => a - a / b * b) pc L st M = some (.inl c')) (K : am_W p l e R s m args below meth c Q s0 b0 D dA y c' cells slots) : am_W p l e R s m args below meth c Q s0 b0 D dA y (pc, L, st, M) cells slots := by
  unfold am_iz at ha
  split at ha
  · split at ha
    · cases ha
    · next hne =>
      rw [am_go] at ha
      cases ha
      intro H ls locs hR hl hL hq
      exact lv_irem X.1 X.2.1 hd hne (K H ls locs hR hl hL hq)
  · cases ha
theorem am_t_ladd (X : am_Ctx p R s m meth c s0 b0 G D dA y) (hd : decode (am_mB y) pc = .ok (.ladd, 1)) (ha : am_ll (fun a b => a + b) pc L st M = some (.inl c')) (K : am_W p l e R s m args below meth c Q s0 b0 D dA y c' cells slots) : am_W p l e R s m args below meth c Q s0 b0 D dA y (pc, L, st, M) cells slots := by
  unfold am_ll at ha
  split at ha
  · rw [am_go] at ha
    cases ha
    intro H ls locs hR hl hL hq
    exact lv_ladd X.1 X.2.1 hd (K H ls locs hR hl hL hq)
  · cases ha
theorem am_t_lsub (X : am_Ctx p R s m meth c s0 b0 G D dA y) (hd : decode (am_mB y) pc = .ok (.lsub, 1)) (ha : am_ll (fun a b => a - b) pc L st M = some (.inl c')) (K : am_W p l e R s m args below meth c Q s0 b0 D dA y c' cells slots) : am_W p l e R s m args below meth c Q s0 b0 D dA y (pc, L, st, M) cells slots := by
  unfold am_ll at ha
  split at ha
  · rw [am_go] at ha
    cases ha
    intro H ls locs hR hl hL hq
    exact lv_lsub X.1 X.2.1 hd (K H ls locs hR hl hL hq)
  · cases ha
theorem am_t_lmul (X : am_Ctx p R s m meth c s0 b0 G D dA y) (hd : decode (am_mB y) pc = .ok (.lmul, 1)) (ha : am_ll (fun a b => a * b) pc L st M = some (.inl c')) (K : am_W p l e R s m args below meth c Q s0 b0 D dA y c' cells slots) : am_W p l e R s m args below meth c Q s0 b0 D dA y (pc, L, st, M) cells slots := by
  unfold am_ll at ha
  split at ha
  · rw [am_go] at ha
    cases ha
    intro H ls locs hR hl hL hq
    exact lv_lmul X.1 X.2.1 hd (K H ls locs hR hl hL hq)
  · cases ha
theorem am_t_land (X : am_Ctx p R s m meth c s0 b0 G D dA y) (hd : decode (am_mB y) pc = .ok (.land, 1)) (ha : am_ll (fun a b => a &&& b) pc L st M = some (.inl c')) (K : am_W p l e R s m args below meth c Q s0 b0 D dA y c' cells slots) : am_W p l e R s m args below meth c Q s0 b0 D dA y (pc, L, st, M) cells slots := by
  unfold am_ll at ha
  split at ha
  · rw [am_go] at ha
    cases ha
    intro H ls locs hR hl hL hq
    exact lv_land X.1 X.2.1 hd (K H ls locs hR hl hL hq)
  · cases ha
theorem am_t_lor (X : am_Ctx p R s m meth c s0 b0 G D dA y) (hd : decode (am_mB y) pc = .ok (.lor, 1)) (ha : am_ll (fun a b => a ||| b) pc L st M = some (.inl c')) (K : am_W p l e R s m args below meth c Q s0 b0 D dA y c' cells slots) : am_W p l e R s m args below meth c Q s0 b0 D dA y (pc, L, st, M) cells slots := by
  unfold am_ll at ha
  split at ha
  · rw [am_go] at ha
    cases ha
    intro H ls locs hR hl hL hq
    exact lv_lor X.1 X.2.1 hd (K H ls locs hR hl hL hq)
  · cases ha
theorem am_t_ldiv (X : am_Ctx p R s m meth c s0 b0 G D dA y) (hd : decode (am_mB y) pc = .ok (.ldiv, 1)) (ha : am_lz (fun a b => a / b) pc L st M = some (.inl c')) (K : am_W p l e R s m args below meth c Q s0 b0 D dA y c' cells slots) : am_W p l e R s m args below meth c Q s0 b0 D dA y (pc, L, st, M) cells slots := by
  unfold am_lz at ha
  split at ha
  · split at ha
    · cases ha
    · next hne =>
      rw [am_go] at ha
      cases ha
      intro H ls locs hR hl hL hq
      exact lv_ldiv X.1 X.2.1 hd hne (K H ls locs hR hl hL hq)
  · cases ha
theorem am_t_lshl (X : am_Ctx p R s m meth c s0 b0 G D dA y) (hd : decode (am_mB y) pc = .ok (.lshl, 1)) (ha : am_li (fun a b => a <<< (b.toInt64 &&& 63)) pc L st M = some (.inl c')) (K : am_W p l e R s m args below meth c Q s0 b0 D dA y c' cells slots) : am_W p l e R s m args below meth c Q s0 b0 D dA y (pc, L, st, M) cells slots := by
  unfold am_li at ha
  split at ha
  · rw [am_go] at ha
    cases ha
    intro H ls locs hR hl hL hq
    exact lv_lshl X.1 X.2.1 hd rfl (K H ls locs hR hl hL hq)
  · cases ha
theorem am_t_lshr (X : am_Ctx p R s m meth c s0 b0 G D dA y) (hd : decode (am_mB y) pc = .ok (.lshr, 1)) (ha : am_li (fun a b => a >>> (b.toInt64 &&& 63)) pc L st M = some (.inl c')) (K : am_W p l e R s m args below meth c Q s0 b0 D dA y c' cells slots) : am_W p l e R s m args below meth c Q s0 b0 D dA y (pc, L, st, M) cells slots := by
  unfold am_li at ha
  split at ha
  · rw [am_go] at ha
    cases ha
    intro H ls locs hR hl hL hq
    exact lv_lshr X.1 X.2.1 hd rfl (K H ls locs hR hl hL hq)
  · cases ha
theorem am_t_ineg (X : am_Ctx p R s m meth c s0 b0 G D dA y) (hd : decode (am_mB y) pc = .ok (.ineg, 1)) (ha : am_i1 (fun a => .int (-a)) pc L st M = some (.inl c')) (K : am_W p l e R s m args below meth c Q s0 b0 D dA y c' cells slots) : am_W p l e R s m args below meth c Q s0 b0 D dA y (pc, L, st, M) cells slots := by
  unfold am_i1 at ha
  split at ha
  · rw [am_go] at ha
    cases ha
    intro H ls locs hR hl hL hq
    exact lv_ineg X.1 X.2.1 hd (K H ls locs hR hl hL hq)
  · cases ha
theorem am_t_lneg (X : am_Ctx p R s m meth c s0 b0 G D dA y) (hd : decode (am_mB y) pc = .ok (.lneg, 1)) (ha : am_l1 (fun a => .long (-a)) pc L st M = some (.inl c')) (K : am_W p l e R s m args below meth c Q s0 b0 D dA y c' cells slots) : am_W p l e R s m args below meth c Q s0 b0 D dA y (pc, L, st, M) cells slots := by
  unfold am_l1 at ha
  split at ha
  · rw [am_go] at ha
    cases ha
    intro H ls locs hR hl hL hq
    exact lv_lneg X.1 X.2.1 hd (K H ls locs hR hl hL hq)
  · cases ha
theorem am_t_i2l (X : am_Ctx p R s m meth c s0 b0 G D dA y) (hd : decode (am_mB y) pc = .ok (.i2l, 1)) (ha : am_i1 (fun a => .long a.toInt64) pc L st M = some (.inl c')) (K : am_W p l e R s m args below meth c Q s0 b0 D dA y c' cells slots) : am_W p l e R s m args below meth c Q s0 b0 D dA y (pc, L, st, M) cells slots := by
  unfold am_i1 at ha
  split at ha
  · rw [am_go] at ha
    cases ha
    intro H ls locs hR hl hL hq
    exact lv_i2l X.1 X.2.1 hd rfl (K H ls locs hR hl hL hq)
  · cases ha
theorem am_t_i2b (X : am_Ctx p R s m meth c s0 b0 G D dA y) (hd : decode (am_mB y) pc = .ok (.i2b, 1)) (ha : am_i1 (fun a => .int a.toInt8.toInt32) pc L st M = some (.inl c')) (K : am_W p l e R s m args below meth c Q s0 b0 D dA y c' cells slots) : am_W p l e R s m args below meth c Q s0 b0 D dA y (pc, L, st, M) cells slots := by
  unfold am_i1 at ha
  split at ha
  · rw [am_go] at ha
    cases ha
    intro H ls locs hR hl hL hq
    exact lv_i2b X.1 X.2.1 hd rfl (K H ls locs hR hl hL hq)
  · cases ha
theorem am_t_i2s (X : am_Ctx p R s m meth c s0 b0 G D dA y) (hd : decode (am_mB y) pc = .ok (.i2s, 1)) (ha : am_i1 (fun a => .int a.toInt16.toInt32) pc L st M = some (.inl c')) (K : am_W p l e R s m args below meth c Q s0 b0 D dA y c' cells slots) : am_W p l e R s m args below meth c Q s0 b0 D dA y (pc, L, st, M) cells slots := by
  unfold am_i1 at ha
  split at ha
  · rw [am_go] at ha
    cases ha
    intro H ls locs hR hl hL hq
    exact lv_i2s X.1 X.2.1 hd rfl (K H ls locs hR hl hL hq)
  · cases ha
theorem am_t_i2c (X : am_Ctx p R s m meth c s0 b0 G D dA y) (hd : decode (am_mB y) pc = .ok (.i2c, 1)) (ha : am_i1 (fun a => .int (a.toUInt32 % 65536).toInt32) pc L st M = some (.inl c')) (K : am_W p l e R s m args below meth c Q s0 b0 D dA y c' cells slots) : am_W p l e R s m args below meth c Q s0 b0 D dA y (pc, L, st, M) cells slots := by
  unfold am_i1 at ha
  split at ha
  · rw [am_go] at ha
    cases ha
    intro H ls locs hR hl hL hq
    exact lv_i2c X.1 X.2.1 hd rfl (K H ls locs hR hl hL hq)
  · cases ha
theorem am_t_l2i (X : am_Ctx p R s m meth c s0 b0 G D dA y) (hd : decode (am_mB y) pc = .ok (.l2i, 1)) (ha : am_l1 (fun a => .int a.toInt32) pc L st M = some (.inl c')) (K : am_W p l e R s m args below meth c Q s0 b0 D dA y c' cells slots) : am_W p l e R s m args below meth c Q s0 b0 D dA y (pc, L, st, M) cells slots := by
  unfold am_l1 at ha
  split at ha
  · rw [am_go] at ha
    cases ha
    intro H ls locs hR hl hL hq
    exact lv_l2i X.1 X.2.1 hd rfl (K H ls locs hR hl hL hq)
  · cases ha
theorem am_t_null (X : am_Ctx p R s m meth c s0 b0 G D dA y) (hd : decode (am_mB y) pc = .ok (.aconst_null, 1)) (ha : am_go (pc + 1) L (.null :: st) M = some (.inl c')) (K : am_W p l e R s m args below meth c Q s0 b0 D dA y c' cells slots) : am_W p l e R s m args below meth c Q s0 b0 D dA y (pc, L, st, M) cells slots := by
  rw [am_go] at ha
  cases ha
  intro H ls locs hR hl hL hq
  exact lv_null X.1 X.2.1 hd (K H ls locs hR hl hL hq)
theorem am_t_iconst (X : am_Ctx p R s m meth c s0 b0 G D dA y) {n : Int} (hd : decode (am_mB y) pc = .ok (.iconst n, 1)) (ha : am_go (pc + 1) L (.int (Int32.ofInt n) :: st) M = some (.inl c')) (K : am_W p l e R s m args below meth c Q s0 b0 D dA y c' cells slots) : am_W p l e R s m args below meth c Q s0 b0 D dA y (pc, L, st, M) cells slots := by
  rw [am_go] at ha
  cases ha
  intro H ls locs hR hl hL hq
  exact lv_iconst X.1 X.2.1 hd rfl (K H ls locs hR hl hL hq)
theorem am_t_lconst (X : am_Ctx p R s m meth c s0 b0 G D dA y) {n : Fin 2} (hd : decode (am_mB y) pc = .ok (.lconst n, 1)) (ha : am_go (pc + 1) L (.long (Int64.ofNat n) :: st) M = some (.inl c')) (K : am_W p l e R s m args below meth c Q s0 b0 D dA y c' cells slots) : am_W p l e R s m args below meth c Q s0 b0 D dA y (pc, L, st, M) cells slots := by
  rw [am_go] at ha
  cases ha
  intro H ls locs hR hl hL hq
  exact lv_lconst X.1 X.2.1 hd rfl (K H ls locs hR hl hL hq)
theorem am_t_bipush (X : am_Ctx p R s m meth c s0 b0 G D dA y) {n : Int} (hd : decode (am_mB y) pc = .ok (.bipush n, 2)) (ha : am_go (pc + 2) L (.int (Int8.ofInt n).toInt32 :: st) M = some (.inl c')) (K : am_W p l e R s m args below meth c Q s0 b0 D dA y c' cells slots) : am_W p l e R s m args below meth c Q s0 b0 D dA y (pc, L, st, M) cells slots := by
  rw [am_go] at ha
  cases ha
  intro H ls locs hR hl hL hq
  exact lv_bipush X.1 X.2.1 hd rfl (K H ls locs hR hl hL hq)
theorem am_t_sipush (X : am_Ctx p R s m meth c s0 b0 G D dA y) {n : Int} (hd : decode (am_mB y) pc = .ok (.sipush n, 3)) (ha : am_go (pc + 3) L (.int (Int16.ofInt n).toInt32 :: st) M = some (.inl c')) (K : am_W p l e R s m args below meth c Q s0 b0 D dA y c' cells slots) : am_W p l e R s m args below meth c Q s0 b0 D dA y (pc, L, st, M) cells slots := by
  rw [am_go] at ha
  cases ha
  intro H ls locs hR hl hL hq
  exact lv_sipush X.1 X.2.1 hd rfl (K H ls locs hR hl hL hq)
theorem am_t_ldc (X : am_Ctx p R s m meth c s0 b0 G D dA y) {i : Nat} {v : Int32} (hw : Jvm.Cond.constant (am_own y) i v ∈ lw_tbl) (hd : decode (am_mB y) pc = .ok (.ldc i, 2)) (ha : am_go (pc + 2) L (.int v :: st) M = some (.inl c')) (K : am_W p l e R s m args below meth c Q s0 b0 D dA y c' cells slots) : am_W p l e R s m args below meth c Q s0 b0 D dA y (pc, L, st, M) cells slots := by
  rw [am_go] at ha
  cases ha
  intro H ls locs hR hl hL hq
  exact W.ldc X.1 X.2.1 X.2.2.2.1 (am_wd X.2.2.2.2.2.2.2.2 X.2.2.2.2.2.1 hw (by first | rfl | simp [goodWord, Cond.onTables, Cond.keeps, Cond.steady])) rfl hd (K H ls locs hR hl hL hq)
theorem am_t_ldcw (X : am_Ctx p R s m meth c s0 b0 G D dA y) {i : Nat} {v : Int32} (hw : Jvm.Cond.constant (am_own y) i v ∈ lw_tbl) (hd : decode (am_mB y) pc = .ok (.ldc_w i, 3)) (ha : am_go (pc + 3) L (.int v :: st) M = some (.inl c')) (K : am_W p l e R s m args below meth c Q s0 b0 D dA y c' cells slots) : am_W p l e R s m args below meth c Q s0 b0 D dA y (pc, L, st, M) cells slots := by
  rw [am_go] at ha
  cases ha
  intro H ls locs hR hl hL hq
  exact lv_ldcw X.1 X.2.1 X.2.2.2.1 (am_wd X.2.2.2.2.2.2.2.2 X.2.2.2.2.2.1 hw (by first | rfl | simp [goodWord, Cond.onTables, Cond.keeps, Cond.steady])) hd (K H ls locs hR hl hL hq)
theorem am_t_ldc2 (X : am_Ctx p R s m meth c s0 b0 G D dA y) {i : Nat} {v : Int64} (hw : Jvm.Cond.constantLong (am_own y) i v ∈ lw_tbl) (hd : decode (am_mB y) pc = .ok (.ldc2_w i, 3)) (ha : am_go (pc + 3) L (.long v :: st) M = some (.inl c')) (K : am_W p l e R s m args below meth c Q s0 b0 D dA y c' cells slots) : am_W p l e R s m args below meth c Q s0 b0 D dA y (pc, L, st, M) cells slots := by
  rw [am_go] at ha
  cases ha
  intro H ls locs hR hl hL hq
  exact W.ldc2 X.1 X.2.1 X.2.2.2.1 (am_wd X.2.2.2.2.2.2.2.2 X.2.2.2.2.2.1 hw (by first | rfl | simp [goodWord, Cond.onTables, Cond.keeps, Cond.steady])) rfl hd (K H ls locs hR hl hL hq)
theorem am_t_ldcs (X : am_Ctx p R s m meth c s0 b0 G D dA y) {i k : Nat} {tx : String} (hw : (am_own y, i, k, tx) ∈ am_strs) (hd : decode (am_mB y) pc = .ok (.ldc i, 2)) (ha : am_go (pc + 2) L (G k :: st) M = some (.inl c')) (K : am_W p l e R s m args below meth c Q s0 b0 D dA y c' cells slots) : am_W p l e R s m args below meth c Q s0 b0 D dA y (pc, L, st, M) cells slots := by
  rw [am_go] at ha
  cases ha
  obtain ⟨a, h1, h2⟩ := X.2.2.2.2.2.2.2.2.2.2.2.2.2.2.2 (am_own y, i, k, tx) hw
  intro H ls locs hR hl hL hq
  have K2 := K H ls locs hR hl hL hq
  have h1 : G k = .ref a := h1
  rw [h1] at K2
  exact va_ldcS X.1 X.2.1 X.2.2.2.1 (h2.warm X.2.2.2.2.2.1) hd K2
theorem am_t_iload (X : am_Ctx p R s m meth c s0 b0 G D dA y) {i : Nat} (hd : decode (am_mB y) pc = .ok (.iload i, 2)) (ha : am_load am_isi i 2 pc L st M = some (.inl c')) (K : am_W p l e R s m args below meth c Q s0 b0 D dA y c' cells slots) : am_W p l e R s m args below meth c Q s0 b0 D dA y (pc, L, st, M) cells slots := by
  unfold am_load at ha
  split at ha
  · next v hv =>
    split at ha
    · next hc =>
      rw [am_go] at ha
      cases ha
      intro H ls locs hR hl hL hq
      cases v with
      | int x => exact lv_iload X.1 X.2.1 hd (am_has hl hv) (K H ls locs hR hl hL hq)
      | _ => cases hc
    · cases ha
  · cases ha
theorem am_t_lload (X : am_Ctx p R s m meth c s0 b0 G D dA y) {i : Nat} (hd : decode (am_mB y) pc = .ok (.lload i, 2)) (ha : am_load am_isl i 2 pc L st M = some (.inl c')) (K : am_W p l e R s m args below meth c Q s0 b0 D dA y c' cells slots) : am_W p l e R s m args below meth c Q s0 b0 D dA y (pc, L, st, M) cells slots := by
  unfold am_load at ha
  split at ha
  · next v hv =>
    split at ha
    · next hc =>
      rw [am_go] at ha
      cases ha
      intro H ls locs hR hl hL hq
      cases v with
      | long x => exact lv_lload X.1 X.2.1 hd (am_has hl hv) (K H ls locs hR hl hL hq)
      | _ => cases hc
    · cases ha
  · cases ha
theorem am_t_aload (X : am_Ctx p R s m meth c s0 b0 G D dA y) {i : Nat} (hd : decode (am_mB y) pc = .ok (.aload i, 2)) (ha : am_load am_isr i 2 pc L st M = some (.inl c')) (K : am_W p l e R s m args below meth c Q s0 b0 D dA y c' cells slots) : am_W p l e R s m args below meth c Q s0 b0 D dA y (pc, L, st, M) cells slots := by
  unfold am_load at ha
  split at ha
  · next v hv =>
    split at ha
    · next hc =>
      rw [am_go] at ha
      cases ha
      intro H ls locs hR hl hL hq
      cases v with
      | ref x => exact lv_aload X.1 X.2.1 hd (am_has hl hv) (K H ls locs hR hl hL hq)
      | null => exact lv_aloadN X.1 X.2.1 hd (am_has hl hv) (K H ls locs hR hl hL hq)
      | _ => cases hc
    · cases ha
  · cases ha
theorem am_t_iload_n (X : am_Ctx p R s m meth c s0 b0 G D dA y) {i : Fin 4} (hd : decode (am_mB y) pc = .ok (.iload_n i, 1)) (ha : am_load am_isi i.val 1 pc L st M = some (.inl c')) (K : am_W p l e R s m args below meth c Q s0 b0 D dA y c' cells slots) : am_W p l e R s m args below meth c Q s0 b0 D dA y (pc, L, st, M) cells slots := by
  unfold am_load at ha
  split at ha
  · next v hv =>
    split at ha
    · next hc =>
      rw [am_go] at ha
      cases ha
      intro H ls locs hR hl hL hq
      cases v with
      | int x => exact lv_iload_n X.1 X.2.1 hd rfl (am_has hl hv) (K H ls locs hR hl hL hq)
      | _ => cases hc
    · cases ha
  · cases ha
theorem am_t_lload_n (X : am_Ctx p R s m meth c s0 b0 G D dA y) {i : Fin 4} (hd : decode (am_mB y) pc = .ok (.lload_n i, 1)) (ha : am_load am_isl i.val 1 pc L st M = some (.inl c')) (K : am_W p l e R s m args below meth c Q s0 b0 D dA y c' cells slots) : am_W p l e R s m args below meth c Q s0 b0 D dA y (pc, L, st, M) cells slots := by
  unfold am_load at ha
  split at ha
  · next v hv =>
    split at ha
    · next hc =>
      rw [am_go] at ha
      cases ha
      intro H ls locs hR hl hL hq
      cases v with
      | long x => exact lv_lload_n X.1 X.2.1 hd rfl (am_has hl hv) (K H ls locs hR hl hL hq)
      | _ => cases hc
    · cases ha
  · cases ha
theorem am_t_aload_n (X : am_Ctx p R s m meth c s0 b0 G D dA y) {i : Fin 4} (hd : decode (am_mB y) pc = .ok (.aload_n i, 1)) (ha : am_load am_isr i.val 1 pc L st M = some (.inl c')) (K : am_W p l e R s m args below meth c Q s0 b0 D dA y c' cells slots) : am_W p l e R s m args below meth c Q s0 b0 D dA y (pc, L, st, M) cells slots := by
  unfold am_load at ha
  split at ha
  · next v hv =>
    split at ha
    · next hc =>
      rw [am_go] at ha
      cases ha
      intro H ls locs hR hl hL hq
      cases v with
      | ref x => exact lv_aload_n X.1 X.2.1 hd rfl (am_has hl hv) (K H ls locs hR hl hL hq)
      | null => exact lv_aload_nN X.1 X.2.1 hd rfl (am_has hl hv) (K H ls locs hR hl hL hq)
      | _ => cases hc
    · cases ha
  · cases ha
theorem am_t_istore (X : am_Ctx p R s m meth c s0 b0 G D dA y) {i : Nat} (hd : decode (am_mB y) pc = .ok (.istore i, 2)) (ha : am_stor1 am_isi i 2 pc L st M = some (.inl c')) (K : am_W p l e R s m args below meth c Q s0 b0 D dA y c' cells slots) : am_W p l e R s m args below meth c Q s0 b0 D dA y (pc, L, st, M) cells slots := by
  unfold am_stor1 at ha
  split at ha
  · next v r =>
    split at ha
    · next hc =>
      obtain ⟨hc, hi⟩ := hc
      rw [am_go] at ha
      cases ha
      intro H ls locs hR hl hL hq
      have hL : L.length = am_mL y := hL
      cases v with
      | int x => exact lv_istore X.1 X.2.1 hd hl (hL ▸ hi) rfl (fun ls' hl' => K H ls' locs hR (am_has_s1 hi hl') ((am_s1_len L i _).trans hL) hq)
      | _ => cases hc
    · cases ha
  · cases ha
theorem am_t_astore (X : am_Ctx p R s m meth c s0 b0 G D dA y) {i : Nat} (hd : decode (am_mB y) pc = .ok (.astore i, 2)) (ha : am_stor1 am_isr i 2 pc L st M = some (.inl c')) (K : am_W p l e R s m args below meth c Q s0 b0 D dA y c' cells slots) : am_W p l e R s m args below meth c Q s0 b0 D dA y (pc, L, st, M) cells slots := by
  unfold am_stor1 at ha
  split at ha
  · next v r =>
    split at ha
    · next hc =>
      obtain ⟨hc, hi⟩ := hc
      rw [am_go] at ha
      cases ha
      intro H ls locs hR hl hL hq
      have hL : L.length = am_mL y := hL
      cases v with
      | ref x => exact lv_astore X.1 X.2.1 hd hl (hL ▸ hi) rfl (fun ls' hl' => K H ls' locs hR (am_has_s1 hi hl') ((am_s1_len L i _).trans hL) hq)
      | null => exact lv_astoreN X.1 X.2.1 hd hl (hL ▸ hi) rfl (fun ls' hl' => K H ls' locs hR (am_has_s1 hi hl') ((am_s1_len L i _).trans hL) hq)
      | _ => cases hc
    · cases ha
  · cases ha
theorem am_t_istore_n (X : am_Ctx p R s m meth c s0 b0 G D dA y) {i : Fin 4} (hd : decode (am_mB y) pc = .ok (.istore_n i, 1)) (ha : am_stor1 am_isi i.val 1 pc L st M = some (.inl c')) (K : am_W p l e R s m args below meth c Q s0 b0 D dA y c' cells slots) : am_W p l e R s m args below meth c Q s0 b0 D dA y (pc, L, st, M) cells slots := by
  unfold am_stor1 at ha
  split at ha
  · next v r =>
    split at ha
    · next hc =>
      obtain ⟨hc, hi⟩ := hc
      rw [am_go] at ha
      cases ha
      intro H ls locs hR hl hL hq
      have hL : L.length = am_mL y := hL
      cases v with
      | int x => exact lv_istore_n X.1 X.2.1 hd rfl hl (hL ▸ hi) rfl (fun ls' hl' => K H ls' locs hR (am_has_s1 hi hl') ((am_s1_len L i.val _).trans hL) hq)
      | _ => cases hc
    · cases ha
  · cases ha
theorem am_t_astore_n (X : am_Ctx p R s m meth c s0 b0 G D dA y) {i : Fin 4} (hd : decode (am_mB y) pc = .ok (.astore_n i, 1)) (ha : am_stor1 am_isr i.val 1 pc L st M = some (.inl c')) (K : am_W p l e R s m args below meth c Q s0 b0 D dA y c' cells slots) : am_W p l e R s m args below meth c Q s0 b0 D dA y (pc, L, st, M) cells slots := by
  unfold am_stor1 at ha
  split at ha
  · next v r =>
    split at ha
    · next hc =>
      obtain ⟨hc, hi⟩ := hc
      rw [am_go] at ha
      cases ha
      intro H ls locs hR hl hL hq
      have hL : L.length = am_mL y := hL
      cases v with
      | ref x => exact lv_astore_n X.1 X.2.1 hd rfl hl (hL ▸ hi) rfl (fun ls' hl' => K H ls' locs hR (am_has_s1 hi hl') ((am_s1_len L i.val _).trans hL) hq)
      | null => exact lv_astore_nN X.1 X.2.1 hd rfl hl (hL ▸ hi) rfl (fun ls' hl' => K H ls' locs hR (am_has_s1 hi hl') ((am_s1_len L i.val _).trans hL) hq)
      | _ => cases hc
    · cases ha
  · cases ha
theorem am_t_lstore (X : am_Ctx p R s m meth c s0 b0 G D dA y) {i : Nat} (hd : decode (am_mB y) pc = .ok (.lstore i, 2)) (ha : am_stor2 i 2 pc L st M = some (.inl c')) (K : am_W p l e R s m args below meth c Q s0 b0 D dA y c' cells slots) : am_W p l e R s m args below meth c Q s0 b0 D dA y (pc, L, st, M) cells slots := by
  unfold am_stor2 at ha
  split at ha
  · next v r =>
    split at ha
    · next hi =>
      rw [am_go] at ha
      cases ha
      intro H ls locs hR hl hL hq
      have hL : L.length = am_mL y := hL
      exact lv_lstore X.1 X.2.1 hd hl (hL ▸ hi) rfl (fun ls' hl' => K H ls' locs hR (am_has_s2 hi hl') ((am_s2_len L i _).trans hL) hq)
    · cases ha
  · cases ha
theorem am_t_lstore_n (X : am_Ctx p R s m meth c s0 b0 G D dA y) {i : Fin 4} (hd : decode (am_mB y) pc = .ok (.lstore_n i, 1)) (ha : am_stor2 i.val 1 pc L st M = some (.inl c')) (K : am_W p l e R s m args below meth c Q s0 b0 D dA y c' cells slots) : am_W p l e R s m args below meth c Q s0 b0 D dA y (pc, L, st, M) cells slots := by
  unfold am_stor2 at ha
  split at ha
  · next v r =>
    split at ha
    · next hi =>
      rw [am_go] at ha
      cases ha
      intro H ls locs hR hl hL hq
      have hL : L.length = am_mL y := hL
      exact lv_lstore_n X.1 X.2.1 hd rfl hl (hL ▸ hi) rfl (fun ls' hl' => K H ls' locs hR (am_has_s2 hi hl') ((am_s2_len L i.val _).trans hL) hq)
    · cases ha
  · cases ha
theorem am_t_iinc (X : am_Ctx p R s m meth c s0 b0 G D dA y) {i : Nat} {n : Int} {a : Int32} (hd : decode (am_mB y) pc = .ok (.iinc i n, 3)) (hv : L[i]? = some (some (.int a))) (ha : am_go (pc + 3) (am_s1 L i (.int (a + Int32.ofInt n))) st M = some (.inl c')) (K : am_W p l e R s m args below meth c Q s0 b0 D dA y c' cells slots) : am_W p l e R s m args below meth c Q s0 b0 D dA y (pc, L, st, M) cells slots := by
  rw [am_go] at ha
  cases ha
  have hi : i < L.length := (List.getElem?_eq_some_iff.mp hv).1
  intro H ls locs hR hl hL hq
  have hL : L.length = am_mL y := hL
  obtain ⟨k, hk⟩ := List.getElem?_of_mem (am_as_iff.mpr hv)
  exact lv_iinc X.1 X.2.1 hd hl hk rfl (hL ▸ hi) rfl (fun ls' hl' => K H ls' locs hR (am_has_s1 hi hl') ((am_s1_len L i _).trans hL) hq)
theorem am_t_lcmp (X : am_Ctx p R s m meth c s0 b0 G D dA y) {a b : Int64} (hd : decode (am_mB y) pc = .ok (.lcmp, 1)) (ha : am_go (pc + 1) L (.int (lg_cmp a b) :: st) M = some (.inl c')) (K : am_W p l e R s m args below meth c Q s0 b0 D dA y c' cells slots) : am_W p l e R s m args below meth c Q s0 b0 D dA y (pc, L, .long b :: .long a :: st, M) cells slots := by
  rw [am_go] at ha
  cases ha
  intro H ls locs hR hl hL hq
  exact W.lcmp X.1 X.2.1 hd (K H ls locs hR hl hL hq)
theorem am_t_pop (X : am_Ctx p R s m meth c s0 b0 G D dA y) {v : Value} (hv : v.category = 1) (hd : decode (am_mB y) pc = .ok (.pop, 1)) (ha : am_go (pc + 1) L st M = some (.inl c')) (K : am_W p l e R s m args below meth c Q s0 b0 D dA y c' cells slots) : am_W p l e R s m args below meth c Q s0 b0 D dA y (pc, L, v :: st, M) cells slots := by
  rw [am_go] at ha
  cases ha
  intro H ls locs hR hl hL hq
  exact lv_pop X.1 X.2.1 hd hv (K H ls locs hR hl hL hq)
theorem am_t_dup (X : am_Ctx p R s m meth c s0 b0 G D dA y) {v : Value} (hv : v.category = 1) (hd : decode (am_mB y) pc = .ok (.dup, 1)) (ha : am_go (pc + 1) L (v :: v :: st) M = some (.inl c')) (K : am_W p l e R s m args below meth c Q s0 b0 D dA y c' cells slots) : am_W p l e R s m args below meth c Q s0 b0 D dA y (pc, L, v :: st, M) cells slots := by
  rw [am_go] at ha
  cases ha
  intro H ls locs hR hl hL hq
  exact lv_dup X.1 X.2.1 hd hv (K H ls locs hR hl hL hq)
theorem am_t_dup_x1 (X : am_Ctx p R s m meth c s0 b0 G D dA y) {v v2 : Value} (hv : v.category = 1) (hv2 : v2.category = 1) (hd : decode (am_mB y) pc = .ok (.dup_x1, 1)) (ha : am_go (pc + 1) L (v :: v2 :: v :: st) M = some (.inl c')) (K : am_W p l e R s m args below meth c Q s0 b0 D dA y c' cells slots) : am_W p l e R s m args below meth c Q s0 b0 D dA y (pc, L, v :: v2 :: st, M) cells slots := by
  rw [am_go] at ha
  cases ha
  intro H ls locs hR hl hL hq
  exact lv_dup_x1 X.1 X.2.1 hd hv hv2 (K H ls locs hR hl hL hq)
theorem am_t_dup2 (X : am_Ctx p R s m meth c s0 b0 G D dA y) {v v2 : Value} (hv : v.category = 1) (hv2 : v2.category = 1) (hd : decode (am_mB y) pc = .ok (.dup2, 1)) (ha : am_go (pc + 1) L (v :: v2 :: v :: v2 :: st) M = some (.inl c')) (K : am_W p l e R s m args below meth c Q s0 b0 D dA y c' cells slots) : am_W p l e R s m args below meth c Q s0 b0 D dA y (pc, L, v :: v2 :: st, M) cells slots := by
  rw [am_go] at ha
  cases ha
  intro H ls locs hR hl hL hq
  exact lv_dup2_11 X.1 X.2.1 hd hv hv2 (K H ls locs hR hl hL hq)
theorem am_t_goto (X : am_Ctx p R s m meth c s0 b0 G D dA y) {off : Int} (hd : decode (am_mB y) pc = .ok (.goto off, 3)) (ha : am_jmp pc off L st M = some (.inl c')) (K : am_W p l e R s m args below meth c Q s0 b0 D dA y c' cells slots) : am_W p l e R s m args below meth c Q s0 b0 D dA y (pc, L, st, M) cells slots := by
  unfold am_jmp at ha
  split at ha
  · next h0 =>
    rw [am_go] at ha
    cases ha
    intro H ls locs hR hl hL hq
    exact lv_goto X.1 X.2.1 hd (by omega) (K H ls locs hR hl hL hq)
  · cases ha
theorem am_t_if (X : am_Ctx p R s m meth c s0 b0 G D dA y) {cd : ClassFile.Cond} {off : Int} {a : Int32} (hd : decode (am_mB y) pc = .ok (.ifCond cd off, 3)) (ha : am_br (am_cnd cd a 0) pc off L st M = some (.inl c')) (K : am_W p l e R s m args below meth c Q s0 b0 D dA y c' cells slots) : am_W p l e R s m args below meth c Q s0 b0 D dA y (pc, L, .int a :: st, M) cells slots := by
  unfold am_br at ha
  split at ha
  · next h0 =>
    intro H ls locs hR hl hL hq
    have ht : (pc : Int) + off = ((((pc : Int) + off).toNat : Nat) : Int) := by omega
    cases cd
    all_goals
      unfold am_cnd at ha
      simp only [decide_eq_true_eq] at ha
    · refine lv_if_eq X.1 X.2.1 hd ht (fun hc => ?_) (fun hc => ?_)
      · rw [if_pos hc, am_go] at ha
        cases ha
        exact K H ls locs hR hl hL hq
      · rw [if_neg hc, am_go] at ha
        cases ha
        exact K H ls locs hR hl hL hq
    · refine lv_if_ne X.1 X.2.1 hd ht (fun hc => ?_) (fun hc => ?_)
      · rw [if_pos hc, am_go] at ha
        cases ha
        exact K H ls locs hR hl hL hq
      · rw [if_neg (fun h => h hc), am_go] at ha
        cases ha
        exact K H ls locs hR hl hL hq
    · refine lv_if_lt X.1 X.2.1 hd ht (fun hc => ?_) (fun hc => ?_)
      · rw [if_pos hc, am_go] at ha
        cases ha
        exact K H ls locs hR hl hL hq
      · rw [if_neg hc, am_go] at ha
        cases ha
        exact K H ls locs hR hl hL hq
    · refine lv_if_ge X.1 X.2.1 hd ht (fun hc => ?_) (fun hc => ?_)
      · rw [if_pos hc, am_go] at ha
        cases ha
        exact K H ls locs hR hl hL hq
      · rw [if_neg hc, am_go] at ha
        cases ha
        exact K H ls locs hR hl hL hq
    · refine lv_if_gt X.1 X.2.1 hd ht (fun hc => ?_) (fun hc => ?_)
      · rw [if_pos hc, am_go] at ha
        cases ha
        exact K H ls locs hR hl hL hq
      · rw [if_neg hc, am_go] at ha
        cases ha
        exact K H ls locs hR hl hL hq
    · refine lv_if_le X.1 X.2.1 hd ht (fun hc => ?_) (fun hc => ?_)
      · rw [if_pos hc, am_go] at ha
        cases ha
        exact K H ls locs hR hl hL hq
      · rw [if_neg hc, am_go] at ha
        cases ha
        exact K H ls locs hR hl hL hq
  · cases ha
theorem am_t_icmp (X : am_Ctx p R s m meth c s0 b0 G D dA y) {cd : ClassFile.Cond} {off : Int} {a b : Int32} (hd : decode (am_mB y) pc = .ok (.if_icmp cd off, 3)) (ha : am_br (am_cnd cd a b) pc off L st M = some (.inl c')) (K : am_W p l e R s m args below meth c Q s0 b0 D dA y c' cells slots) : am_W p l e R s m args below meth c Q s0 b0 D dA y (pc, L, .int b :: .int a :: st, M) cells slots := by
  unfold am_br at ha
  split at ha
  · next h0 =>
    intro H ls locs hR hl hL hq
    have ht : (pc : Int) + off = ((((pc : Int) + off).toNat : Nat) : Int) := by omega
    cases cd
    all_goals
      unfold am_cnd at ha
      simp only [decide_eq_true_eq] at ha
    · refine lv_icmp_eq X.1 X.2.1 hd ht (fun hc => ?_) (fun hc => ?_)
      · rw [if_pos hc, am_go] at ha
        cases ha
        exact K H ls locs hR hl hL hq
      · rw [if_neg hc, am_go] at ha
        cases ha
        exact K H ls locs hR hl hL hq
    · refine lv_icmp_ne X.1 X.2.1 hd ht (fun hc => ?_) (fun hc => ?_)
      · rw [if_pos hc, am_go] at ha
        cases ha
        exact K H ls locs hR hl hL hq
      · rw [if_neg (fun h => h hc), am_go] at ha
        cases ha
        exact K H ls locs hR hl hL hq
    · refine lv_icmp_lt X.1 X.2.1 hd ht (fun hc => ?_) (fun hc => ?_)
      · rw [if_pos hc, am_go] at ha
        cases ha
        exact K H ls locs hR hl hL hq
      · rw [if_neg hc, am_go] at ha
        cases ha
        exact K H ls locs hR hl hL hq
    · refine lv_icmp_ge X.1 X.2.1 hd ht (fun hc => ?_) (fun hc => ?_)
      · rw [if_pos hc, am_go] at ha
        cases ha
        exact K H ls locs hR hl hL hq
      · rw [if_neg hc, am_go] at ha
        cases ha
        exact K H ls locs hR hl hL hq
    · refine lv_icmp_gt X.1 X.2.1 hd ht (fun hc => ?_) (fun hc => ?_)
      · rw [if_pos hc, am_go] at ha
        cases ha
        exact K H ls locs hR hl hL hq
      · rw [if_neg hc, am_go] at ha
        cases ha
        exact K H ls locs hR hl hL hq
    · refine lv_icmp_le X.1 X.2.1 hd ht (fun hc => ?_) (fun hc => ?_)
      · rw [if_pos hc, am_go] at ha
        cases ha
        exact K H ls locs hR hl hL hq
      · rw [if_neg hc, am_go] at ha
        cases ha
        exact K H ls locs hR hl hL hq
  · cases ha
theorem am_t_ifnull (X : am_Ctx p R s m meth c s0 b0 G D dA y) {off : Int} {v : Value} (hv : am_isr v = true) (hd : decode (am_mB y) pc = .ok (.ifnull off, 3)) (ha : am_br (decide (v = .null)) pc off L st M = some (.inl c')) (K : am_W p l e R s m args below meth c Q s0 b0 D dA y c' cells slots) : am_W p l e R s m args below meth c Q s0 b0 D dA y (pc, L, v :: st, M) cells slots := by
  unfold am_br at ha
  split at ha
  · next h0 =>
    intro H ls locs hR hl hL hq
    have ht : (pc : Int) + off = ((((pc : Int) + off).toNat : Nat) : Int) := by omega
    cases v with
    | ref x =>
      simp only [decide_eq_true_eq, reduceCtorEq, not_false_eq_true, if_true, if_false, am_go] at ha
      cases ha
      exact lv_ifnull X.1 X.2.1 hd (K H ls locs hR hl hL hq)
    | null =>
      simp only [decide_eq_true_eq, not_true_eq_false, if_true, if_false, am_go] at ha
      cases ha
      exact lv_ifnullN X.1 X.2.1 hd ht (K H ls locs hR hl hL hq)
    | _ => cases hv
  · cases ha
theorem am_t_ifnonnull (X : am_Ctx p R s m meth c s0 b0 G D dA y) {off : Int} {v : Value} (hv : am_isr v = true) (hd : decode (am_mB y) pc = .ok (.ifnonnull off, 3)) (ha : am_br (decide (¬ v = .null)) pc off L st M = some (.inl c')) (K : am_W p l e R s m args below meth c Q s0 b0 D dA y c' cells slots) : am_W p l e R s m args below meth c Q s0 b0 D dA y (pc, L, v :: st, M) cells slots := by
  unfold am_br at ha
  split at ha
  · next h0 =>
    intro H ls locs hR hl hL hq
    have ht : (pc : Int) + off = ((((pc : Int) + off).toNat : Nat) : Int) := by omega
    cases v with
    | ref x =>
      simp only [decide_eq_true_eq, reduceCtorEq, not_false_eq_true, if_true, if_false, am_go] at ha
      cases ha
      exact lv_ifnonnull X.1 X.2.1 hd ht (K H ls locs hR hl hL hq)
    | null =>
      simp only [decide_eq_true_eq, not_true_eq_false, if_true, if_false, am_go] at ha
      cases ha
      exact lv_ifnonnullN X.1 X.2.1 hd (K H ls locs hR hl hL hq)
    | _ => cases hv
  · cases ha
theorem am_t_tsw (X : am_Ctx p R s m meth c s0 b0 G D dA y) {d lo hi : Int} {offs : Array Int} {len : Nat} {a : Int32} (hd : decode (am_mB y) pc = .ok (.tableswitch d lo hi offs, len)) (ha : am_swt pc d lo hi offs a.toInt L st M = some (.inl c')) (K : am_W p l e R s m args below meth c Q s0 b0 D dA y c' cells slots) : am_W p l e R s m args below meth c Q s0 b0 D dA y (pc, L, .int a :: st, M) cells slots := by
  unfold am_swt at ha
  intro H ls locs hR hl hL hq
  split at ha
  · next h1 =>
    unfold am_jmp at ha
    split at ha
    · next h0 =>
      rw [am_go] at ha
      cases ha
      exact lv_tableOut X.1 X.2.1 hd h1 (by omega) (K H ls locs hR hl hL hq)
    · cases ha
  · next h1 =>
    split at ha
    · next off ho =>
      unfold am_jmp at ha
      split at ha
      · next h0 =>
        rw [am_go] at ha
        cases ha
        exact lv_tableIn X.1 X.2.1 hd (fun h => h1 (Or.inl h)) (fun h => h1 (Or.inr h)) ho (by omega) (K H ls locs hR hl hL hq)
      · cases ha
    · cases ha
theorem am_t_lsw (X : am_Ctx p R s m meth c s0 b0 G D dA y) {d : Int} {ps : Array (Int × Int)} {len : Nat} {a : Int32} (hd : decode (am_mB y) pc = .ok (.lookupswitch d ps, len)) (ha : am_lk pc d ps a.toInt L st M = some (.inl c')) (K : am_W p l e R s m args below meth c Q s0 b0 D dA y c' cells slots) : am_W p l e R s m args below meth c Q s0 b0 D dA y (pc, L, .int a :: st, M) cells slots := by
  unfold am_lk at ha
  intro H ls locs hR hl hL hq
  split at ha
  · next h1 =>
    unfold am_jmp at ha
    split at ha
    · next h0 =>
      rw [am_go] at ha
      cases ha
      exact lv_lookup X.1 X.2.1 hd h1 rfl (by omega) (K H ls locs hR hl hL hq)
    · cases ha
  · cases ha
end
