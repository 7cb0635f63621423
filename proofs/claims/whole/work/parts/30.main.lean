/-- the abstract machine's answer is the machine's: from any frame of a method -/
def am_Snd (l : Launch) (s0 : State) (b0 : Nat) (G : Nat → Value) (D : va_G) (dA : Nat → ClassId) (n : Nat) : Prop :=
  ∀ (d y : Nat) (f : am_F) (r : am_R), am_runN G n d y f = some r → ∀ (p : Program) (e : Env) (R : Room) (s : State) (m : MethodId) (args : Array Value) (below : List Frame) (meth : Method) (c : Code) (Q : State → Prop) (cells slots : Nat), am_Ctx p R s m meth c s0 b0 G D dA y → d + 1 ≤ R.frames → 64 * (d + 1) ≤ R.locals → cells + (r.2.1 - f.2.2.2.1) ≤ R.cells → slots + 1000 * (r.2.1 - f.2.2.2.1) ≤ R.slots →
  (∀ (H : Heap) (ls : Array Slot) (locs : List Loc) (pc : Nat) (i : Instr), am_Rel s0 b0 D dA r.2 H → (∀ q ∈ locs, b0 ≤ q.base) → am_retok y i r.1 → decode (am_mB y) pc = .ok (i, 1) → W p l e R s m args below meth c H locs (cells + (r.2.1 - f.2.2.2.1)) (slots + 1000 * (r.2.1 - f.2.2.2.1)) Q (F0 m pc ls r.1.toList)) →
  am_W p l e R s m args below meth c Q s0 b0 D dA y f cells slots
def am_rm (d k : Nat) : Room := { frames := d + 1, cells := k, slots := 1000 * k, locals := 64 * (d + 1) }
def am_Pc (s0 : State) (b0 : Nat) (D : va_G) (dA : Nat → ClassId) (As : List Value) (M : am_M) : Array Value → State → Prop := va_Pc As (fun U => s0.WarmedH U.vm ∧ am_Rel s0 b0 D dA M U.heap)
def am_Qc (s0 : State) (b0 : Nat) (D : va_G) (dA : Nat → ClassId) (r : am_R) : Array Value → State → Outcome → State → Prop := fun _ _ oc t => oc = .returned r.1 ∧ am_Rel s0 b0 D dA r.2 t.heap
def am_ws (y : Nat) : List Jvm.Cond := [.code (am_mN y) (am_mB y) (am_mL y) (am_mR y)]
theorem am_mchk_spec {y : Nat} (h : am_mchk y = true) : Jvm.Cond.code (am_mN y) (am_mB y) (am_mL y) (am_mR y) ∈ lw_tbl ∧ Jvm.Cond.initialized (am_mN y).cls ∈ lw_tbl ∧ (am_mN y).cls ≠ "java/lang/invoke/MethodHandle" ∧ (am_mN y).cls ≠ "java/lang/invoke/VarHandle" ∧ Jvm.plainName (am_mN y).cls = true ∧ am_mL y ≤ 40 := by
  unfold am_mchk at h
  simp only [Bool.and_eq_true, decide_eq_true_eq] at h
  exact ⟨am_word_in h.1, am_word_in h.2.1, h.2.2.1, h.2.2.2.1, h.2.2.2.2.1, h.2.2.2.2.2⟩
theorem am_okr_nar {ty : FieldType} {a : Int32} (h : am_okr (some ty) a = true) : narrow ty (.int a) = .int a := by
  unfold am_okr at h
  split at h
  · next h' => cases h'; rfl
  · next h' => cases h'; rcases of_decide_eq_true h with rfl | rfl <;> decide
  · next h' =>
    cases h'
    have := of_decide_eq_true h
    show Value.int _ = _
    rw [this]
  · next h' =>
    cases h'
    have := of_decide_eq_true h
    show Value.int _ = _
    rw [this]
  · cases h
/-- a method's contract out of one run -/
theorem am_met {l : Launch} {s0 : State} {b0 : Nat} {G : Nat → Value} {D : va_G} {dA : Nat → ClassId} (E : am_Env s0 b0 G D dA) {n : Nat} (S : am_Snd l s0 b0 G D dA n) {d z : Nat} {As : List Value} {M : am_M} {r : am_R} (hz : am_runN G n d z (0, am_ent z As, [], M) = some r) (hm : am_mchk z = true) (hA : (am_exp As).length ≤ am_mL z) : Met l (am_mN z) (am_ws z) (am_rm d (r.2.1 - M.1)) (am_Pc s0 b0 D dA As M) (am_Qc s0 b0 D dA r) (r.2.1 - M.1) (1000 * (r.2.1 - M.1)) (fun q => b0 ≤ q) := by
  obtain ⟨-, -, -, -, hpl, -⟩ := am_mchk_spec hm
  refine Met.ofW (cc := am_mB z) (maxL := am_mL z) (ret := am_mR z) (ws' := []) hpl rfl ?_
  intro p e s m args below meth c s₁ B hml hv
  obtain ⟨rfl, hW, hR⟩ := hv
  have X : am_Ctx p (headSpec (am_ws z) (am_rm d (r.2.1 - M.1))).room s m meth c s0 b0 G D dA z := ⟨B.exec, B.bytes, hml, findClass_of_methodNamed B.named, fun h => (name_of_methodNamed B.named B.method).1.trans h, hW, Nat.succ_le_succ (Nat.zero_le _), by show 64 ≤ 64 * (d + 1); omega, E⟩
  have hr := B.returns
  have hlocks := B.notSynchronized
  rw [lg_entry_eq]
  refine S d z _ r hz p e _ s m As.toArray below meth c _ 0 0 X (Nat.le_refl _) (Nat.le_refl _) (by show 0 + (r.2.1 - M.1) ≤ r.2.1 - M.1; omega) (by show 0 + 1000 * (r.2.1 - M.1) ≤ 1000 * (r.2.1 - M.1); omega) ?_ s.heap _ [] hR (am_ent_has hA) (am_ent_len hA) (fun q h => by cases h)
  intro H ls locs pc i hR' hq hret hd
  rw [show 0 + (r.2.1 - (0, am_ent z As, ([] : List Value), M).2.2.2.1) = r.2.1 - M.1 from Nat.zero_add _, show 0 + 1000 * (r.2.1 - (0, am_ent z As, ([] : List Value), M).2.2.2.1) = 1000 * (r.2.1 - M.1) from Nat.zero_add _]
  obtain ⟨rv, M'⟩ := r
  rcases hret with ⟨rfl, a, ha, hok⟩ | ⟨rfl, a, ha, hty⟩ | ⟨rfl, v, ha, hv, hty⟩ | ⟨rfl, ha, hty⟩
  · have ha : rv = some (.int a) := ha
    subst ha
    cases hty : am_mR z with
    | none => rw [hty] at hok; cases hok
    | some ty =>
      rw [hty] at hok hr
      exact W.zret X.1 X.2.1 hr (am_okr_nar hok) (fun t ht _ => ⟨rfl, by rw [ht]; exact hR'⟩) hq hd
  · have ha : rv = some (.long a) := ha
    subst ha
    rw [hty] at hr
    exact W.lret X.1 X.2.1 hr (fun t ht _ => ⟨rfl, by rw [ht]; exact hR'⟩) hq hd
  · have ha : rv = some v := ha
    subst ha
    cases hty' : am_mR z with
    | none => rw [hty'] at hty; cases hty
    | some rt =>
      rw [hty'] at hty hr
      refine W.aret X.1 X.2.1 hr ?_ ?_ (fun t ht _ => ⟨rfl, by rw [ht]; exact hR'⟩) hq hd
      · cases rt with
        | object nm => exact Or.inl ⟨nm, rfl⟩
        | array t => exact Or.inr ⟨t, rfl⟩
        | _ => cases hty
      · cases v with
        | null => exact Or.inl rfl
        | ref a => exact Or.inr ⟨a, rfl⟩
        | _ => cases hv
  · have ha : rv = none := ha
    subst ha
    rw [hty] at hr
    exact W.vret X.1 X.2.1 hr (fun t ht _ => ⟨rfl, by rw [ht]; exact hR'⟩) hq hd
section
variable {p : Program} {l : Launch} {e : Env} {R : Room} {s : State} {m : MethodId} {args : Array Value} {below : List Frame} {meth : Method} {c : Code} {Q : State → Prop} {s0 : State} {b0 : Nat} {G : Nat → Value} {D : va_G} {dA : Nat → ClassId} {y pc : Nat} {L : am_L} {st : List Value} {M : am_M} {cells slots : Nat} {H : Heap} {locs : List Loc} {ls : Array Slot}
/-- the receiver's cell -/
theorem am_recv (X : am_Ctx p R s m meth c s0 b0 G D dA y) {a ci : Nat} (hR : am_Rel s0 b0 D dA M H) (h : am_cls M a = some ci) : ∃ cell : Cell, H[a]? = some cell ∧ cell.vm.isStatics = false ∧ s.vm.findClass (am_nm ci) = some cell.cls := by
  unfold am_cls at h
  split at h
  · next c2 fs hM =>
    cases h
    rcases hR.2.2.2 a _ hM with ⟨hci, hb, hlen, cell, q1, q2, q3, q4⟩ | ⟨hci, v0, v1, hfs, hO, -⟩
    · exact ⟨cell, q1, by rw [q3]; rfl, by rw [q2]; exact ((am_K X).1 _ _ (am_cl_at hci)).2.1⟩
    · subst hci
      obtain ⟨cell, g1, g2, g3, -⟩ := hO.moved X.2.2.2.2.2.1.alike
      exact ⟨cell, g1, g2, g3⟩
  · cases h
theorem am_blind {As : List Value} : FrameBlind (am_Pc s0 b0 D dA As M) := fun _ _ _ _ q => q
/-- a call, by a contract of a run -/
theorem am_callW (X : am_Ctx p R s m meth c s0 b0 G D dA y) {x : am_I} {z d : Nat} {As st' : List Value} {r : am_R} (hM : Met l (am_mN z) (am_ws z) (am_rm d (r.2.1 - M.1)) (am_Pc s0 b0 D dA As M) (am_Qc s0 b0 D dA r) (r.2.1 - M.1) (1000 * (r.2.1 - M.1)) (fun q => b0 ≤ q)) (hc : am_ichk y (pc, x) = true) (hk : am_callok x z As st st' M) (h8 : am_sw st' ≤ 8) (hfr : d + 2 ≤ R.frames) (hlo : 64 * (d + 2) ≤ R.locals) (hcell : cells + (r.2.1 - M.1) ≤ R.cells) (hslot : slots + 1000 * (r.2.1 - M.1) ≤ R.slots)
    (K : am_W p l e R s m args below meth c Q s0 b0 D dA y (pc + 3, L, r.1.toList ++ st', r.2) (cells + (r.2.1 - M.1)) (slots + 1000 * (r.2.1 - M.1))) : am_W p l e R s m args below meth c Q s0 b0 D dA y (pc, L, st, M) cells slots := by
  obtain ⟨ins, len, r1, r2, r3, v⟩ := x
  obtain ⟨hz1, hk⟩ := hk
  have hz1 : z = r1 := hz1
  subst hz1
  unfold am_ichk at hc
  simp only [Bool.and_eq_true, decide_eq_true_eq] at hc
  obtain ⟨hd, hlen, hlk⟩ := hc
  have wd : ∀ {w : Jvm.Cond}, w ∈ lw_tbl → goodWord w = true → ∀ {A : Array Value}, w.before A s = true := fun h1 h2 A => am_wd X.2.2.2.2.2.2.2.2 X.2.2.2.2.2.1 h1 h2
  intro H ls locs hR hl hL hq
  have hR : am_Rel s0 b0 D dA M H := hR
  -- the machine's run of the call gives the walk on
  have fin : va_Run p l e R s m args below meth c H locs cells slots (r.2.1 - M.1) (1000 * (r.2.1 - M.1)) (F0 m pc ls st) st' (am_Qc s0 b0 D dA r As.toArray) (fun q => b0 ≤ q) → W p l e R s m args below meth c H locs cells slots Q (F0 m pc ls st) := by
    intro hr T hT Y
    obtain ⟨v', st₀, t, T', L', h0, X', hL', e1, e2, ⟨hv, hrel⟩, stp⟩ := hr T hT Y
    have hv : v' = r.1 := Outcome.returned.inj hv
    subst hv
    obtain ⟨t2, a1, b1⟩ := K T'.heap ls (locs ++ L') (by rw [e1]; exact hrel) hl hL (fun q h => by
      rcases List.mem_append.mp h with h | h
      · exact hq q h
      · exact hL' q h) T' rfl X'
    exact ⟨t2, stp t2 a1, b1⟩
  have hpre : ∀ U : State, U.heap = H → s.WarmedH U.vm → am_Pc s0 b0 D dA As M As.toArray U := fun U hU hW => ⟨rfl, State.WarmedH.trans X.2.2.2.2.2.1 hW, by rw [hU]; exact hR⟩
  have hrooms : (am_rm d (r.2.1 - M.1)).frames + 1 ≤ R.frames := hfr
  have hW8 : 2 * (F0 m pc ls st).monitorRoom + (st'.map fun v => v.category).sum ≤ 8 := by
    have h8 : (st'.map fun v => v.category).sum ≤ 8 := h8
    show 2 * 0 + (st'.map fun v => v.category).sum ≤ 8
    omega
  have base : am_mchk z = true → am_args z r2 = true → (am_mL z ≤ 40 ∧ (∀ w ∈ am_ws z, w.before args s = true) ∧ GoodIn (am_ws z) (am_ws z) ∧ (Jvm.Cond.initialized (am_mN z).cls).before args s = true ∧ ((am_mN z).cls ≠ "java/lang/invoke/MethodHandle" ∧ (am_mN z).cls ≠ "java/lang/invoke/VarHandle" ∧ (parseMethodDescriptor (am_mN z).desc).map (fun d => d.parameters.length) = some r2) ∧ ((am_rm d (r.2.1 - M.1)).frames + 1 ≤ R.frames ∧ 8 + (am_mL z + 11) + (am_rm d (r.2.1 - M.1)).locals ≤ R.locals)) := by
    intro hm ha
    obtain ⟨g1, g2, g3, g4, g5, g6⟩ := am_mchk_spec hm
    have gd : goodWord (Jvm.Cond.code (am_mN z) (am_mB z) (am_mL z) (am_mR z)) = true := by first | rfl | simp [goodWord, Cond.onTables, Cond.keeps, Cond.steady]
    refine ⟨g6, fun w hw => ?_, fun w hw => ⟨hw, ?_⟩, wd g2 (by first | rfl | simp [goodWord, Cond.onTables, Cond.keeps, Cond.steady]), ⟨g3, g4, of_decide_eq_true ha⟩, hrooms, ?_⟩
    · rw [List.mem_singleton.mp hw]; exact wd g1 gd
    · rw [List.mem_singleton.mp hw]; exact good_of_word gd
    · show 8 + (am_mL z + 11) + 64 * (d + 1) ≤ R.locals
      omega
  rcases hk with ⟨i, a, Bs, hi, rfl, hn, hst, hcl⟩ | ⟨i, hi, h6, h10, hn, hst⟩ | ⟨i, a, Bs, hi, h5, rfl, hn, hst⟩
  · have hi : ins = .invokevirtual i := hi
    subst hi
    obtain rfl : len = 3 := by simpa [am_lenok] using hlen
    simp only [am_lchk, Bool.and_eq_true, decide_eq_true_eq] at hlk
    obtain ⟨hm, har, -, hlw, ⟨-, hnm⟩, hiw, hsw⟩ := hlk
    obtain ⟨b1, b2, b3, b4, b5, b6⟩ := base hm har
    obtain ⟨cell, c1, c2, c3⟩ := am_recv X hR hcl
    have hst : st = Bs.reverse ++ .ref a :: st' := hst
    refine fin (va_runV (C := (am_mN z).cls) (Ts := am_ws z) (As := Bs) (rest := st') (bytes := am_mB z) (maxL := am_mL z) (ret := am_mR z) (n := r2) (g := F0 m pc ls st) ⟨X.1, X.2.1, X.2.2.1, X.2.2.2.1, b2⟩ hM ⟨callB_of r2 b2 b3 rfl rfl rfl b4 (wd (am_word_in hlw) (by first | rfl | simp [goodWord, Cond.onTables, Cond.keeps, Cond.steady])) b5 b6, wd (am_word_in hiw) (by first | rfl | simp [goodWord, Cond.onTables, Cond.keeps, Cond.steady]), wd (am_word_in hsw) (by first | rfl | simp [goodWord, Cond.onTables, Cond.keeps, Cond.steady])⟩ ⟨am_blind, ⟨cell, c1, c2, by rw [← hnm]; exact c3⟩, hpre⟩ rfl hn hl.1 hst hW8 hd ⟨hcell, hslot⟩)
  · have hi : ins = .invokestatic i := hi
    subst hi
    obtain rfl : len = 3 := by simpa [am_lenok] using hlen
    simp only [am_lchk] at hlk
    rw [if_neg h6, if_neg h10] at hlk
    simp only [Bool.and_eq_true] at hlk
    obtain ⟨hm, har, hsw, hlw⟩ := hlk
    obtain ⟨b1, b2, b3, b4, b5, b6⟩ := base hm har
    split at hlw
    · exact fin (va_runS (Ts := am_ws z) (As := As) (rest := st') (bytes := am_mB z) (maxL := am_mL z) (ret := am_mR z) (n := r2) (g := F0 m pc ls st) ⟨X.1, X.2.1, X.2.2.1, X.2.2.2.1, b2⟩ hM ⟨callB_of r2 b2 b3 rfl rfl rfl b4 (wd (am_word_in hlw) (by first | rfl | simp [goodWord, Cond.onTables, Cond.keeps, Cond.steady])) b5 b6, wd (am_word_in hsw) (by first | rfl | simp [goodWord, Cond.onTables, Cond.keeps, Cond.steady])⟩ ⟨am_blind, hpre⟩ rfl hn hl.1 hst hW8 hd ⟨hcell, hslot⟩)
    · exact fin (va_runSN (Ts := am_ws z) (As := As) (rest := st') (bytes := am_mB z) (maxL := am_mL z) (ret := am_mR z) (n := r2) (g := F0 m pc ls st) ⟨X.1, X.2.1, X.2.2.1, X.2.2.2.1, b2⟩ hM ⟨va_cnB r2 b2 b3 rfl rfl rfl (va_Nw.warmM X.2.2.2.2.2.1 (X.2.2.2.2.2.2.2.2.1 _ (am_word_in hlw))) b4 b5 b6, wd (am_word_in hsw) (by first | rfl | simp [goodWord, Cond.onTables, Cond.keeps, Cond.steady]), trivial⟩ ⟨am_blind, hpre⟩ rfl hn hl.1 hst hW8 hd ⟨hcell, hslot⟩)
  · have hi : ins = .invokespecial i := hi
    subst hi
    obtain rfl : len = 3 := by simpa [am_lenok] using hlen
    simp only [am_lchk] at hlk
    rw [if_neg h5] at hlk
    simp only [Bool.and_eq_true, decide_eq_true_eq] at hlk
    obtain ⟨hm, har, hiw, hnm, hrt, hlw⟩ := hlk
    obtain ⟨b1, b2, b3, b4, b5, b6⟩ := base hm har
    have hst : st = Bs.reverse ++ .ref a :: st' := hst
    have hw0 : am_ws z = Jvm.Cond.code (am_mN z) (am_mB z) (am_mL z) none :: [] := by
      have hrt : am_mR z = none := hrt
      unfold am_ws
      rw [hrt]
    split at hlw
    · exact fin (va_runI (Ts := am_ws z) (As := Bs) (rest := st') (bytes := am_mB z) (maxL := am_mL z) (n := r2) (g := F0 m pc ls st) ⟨X.1, X.2.1, X.2.2.1, X.2.2.2.1, b2⟩ hM ⟨callB_of r2 b2 b3 hw0 rfl rfl b4 (wd (am_word_in hlw) (by first | rfl | simp [goodWord, Cond.onTables, Cond.keeps, Cond.steady])) b5 b6, hnm, wd (am_word_in hiw) (by first | rfl | simp [goodWord, Cond.onTables, Cond.keeps, Cond.steady])⟩ ⟨am_blind, hpre⟩ rfl hn hl.1 hst hW8 hd ⟨hcell, hslot⟩)
    · exact fin (va_runIN (Ts := am_ws z) (As := Bs) (rest := st') (bytes := am_mB z) (maxL := am_mL z) (n := r2) (g := F0 m pc ls st) ⟨X.1, X.2.1, X.2.2.1, X.2.2.2.1, b2⟩ hM ⟨va_cnB r2 b2 b3 hw0 rfl rfl (va_Nw.warmM X.2.2.2.2.2.1 (X.2.2.2.2.2.2.2.2.1 _ (am_word_in hlw))) b4 b5 b6, hnm, wd (am_word_in hiw) (by first | rfl | simp [goodWord, Cond.onTables, Cond.keeps, Cond.steady])⟩ ⟨am_blind, hpre⟩ rfl hn hl.1 hst hW8 hd ⟨hcell, hslot⟩)
end
/-- is the method of a call looked at -/
theorem am_callok_mchk {y pc : Nat} {x : am_I} {z : Nat} {As st st' : List Value} {M : am_M} (hc : am_ichk y (pc, x) = true) (hk : am_callok x z As st st' M) : am_mchk z = true := by
  obtain ⟨ins, len, r1, r2, r3, v⟩ := x
  obtain ⟨hz1, hk⟩ := hk
  have hz1 : z = r1 := hz1
  subst hz1
  unfold am_ichk at hc
  simp only [Bool.and_eq_true, decide_eq_true_eq] at hc
  obtain ⟨hd, hlen, hlk⟩ := hc
  rcases hk with ⟨i, a, Bs, hi, -⟩ | ⟨i, hi, h6, h10, -⟩ | ⟨i, a, Bs, hi, h5, -⟩
  · have hi : ins = .invokevirtual i := hi
    subst hi
    simp only [am_lchk, Bool.and_eq_true] at hlk
    exact hlk.1
  · have hi : ins = .invokestatic i := hi
    subst hi
    simp only [am_lchk] at hlk
    rw [if_neg h6, if_neg h10] at hlk
    simp only [Bool.and_eq_true] at hlk
    exact hlk.1
  · have hi : ins = .invokespecial i := hi
    subst hi
    simp only [am_lchk] at hlk
    rw [if_neg h5] at hlk
    simp only [Bool.and_eq_true] at hlk
    exact hlk.1
theorem am_sound {l : Launch} {s0 : State} {b0 : Nat} {G : Nat → Value} {D : va_G} {dA : Nat → ClassId} (E : am_Env s0 b0 G D dA) : ∀ n, am_Snd l s0 b0 G D dA n := by
  intro n
  induction n with
  | zero => intro d y f r h; simp [am_runN] at h
  | succ n ih =>
    intro d y f r h p e R s m args below meth c Q cells slots X hfr hlo hcell hslot K
    have hsz := am_size _ _ _ _ _ h
    obtain ⟨pc, L, st, M⟩ := f
    rw [am_runN] at h
    cases hx : am_code y pc with
    | none => rw [hx] at h; simp at h
    | some x =>
      rw [hx] at h
      simp only [Option.bind_some] at h
      have hc := am_ck hx
      have hg := am_act_ge G y x pc L st M
      have he := am_act_end G y x pc L st M
      cases ha : am_act G y x pc L st M with
      | none => rw [ha] at h; simp at h
      | some a =>
        rw [ha] at h hg he
        rcases a with c' | r' | ⟨z, As, c1⟩
        · have hg : M.1 ≤ c'.2.2.2.1 := hg
          have h2 := am_size _ _ _ _ _ h
          have hsz : M.1 ≤ r.2.1 := hsz
          have hcell : cells + (r.2.1 - M.1) ≤ R.cells := hcell
          have hslot : slots + 1000 * (r.2.1 - M.1) ≤ R.slots := hslot
          refine am_snd X hc ha (by omega) (by omega) (ih d y c' r h p e R s m args below meth c Q _ _ X hfr hlo (by omega) (by omega) ?_)
          intro H ls locs pc2 i hR hq hret hd
          have K2 := K H ls locs pc2 i hR hq hret hd
          rw [show cells + (c'.2.2.2.1 - M.1) + (r.2.1 - c'.2.2.2.1) = cells + (r.2.1 - M.1) by omega, show slots + 1000 * (c'.2.2.2.1 - M.1) + 1000 * (r.2.1 - c'.2.2.2.1) = slots + 1000 * (r.2.1 - M.1) by omega]
          exact K2
        · cases h
          have hg : r.2 = M := hg
          obtain ⟨hst, hret⟩ := he
          intro H ls locs hR hl hL hq
          have hR : am_Rel s0 b0 D dA M H := hR
          have hd : decode (am_mB y) pc = .ok (x.1, 1) := by
            obtain ⟨ins, len, r1, r2, r3, v⟩ := x
            unfold am_ichk at hc
            simp only [Bool.and_eq_true, decide_eq_true_eq] at hc
            obtain ⟨hd, hlen, -⟩ := hc
            rcases hret with ⟨hi, -⟩ | ⟨hi, -⟩ | ⟨hi, -⟩ | ⟨hi, -⟩
            all_goals
              have hi : ins = _ := hi
              subst hi
              obtain rfl : len = 1 := by simpa [am_lenok] using hlen
              exact hd
          have K2 := K H ls locs pc x.1 (by rw [hg]; exact hR) hq hret hd
          have hst : st = r.1.toList := hst
          refine W.widen (Nat.le_add_right _ _) (Nat.le_add_right _ _) ?_ (k := cells + (r.2.1 - M.1)) (n := slots + 1000 * (r.2.1 - M.1))
          show W p l e R s m args below meth c H locs _ _ Q (F0 m pc ls st)
          rw [hst]
          exact K2
        · obtain ⟨e1, e2, e3, e4, hk⟩ := he
          have hg : c1.2.2.2 = M := hg
          obtain ⟨pc1, L1, st1, M1⟩ := c1
          have e1 : pc1 = pc + 3 := e1
          have e2 : L1 = L := e2
          have hg : M1 = M := hg
          subst e1; subst e2; subst hg
          simp only at h
          split at h
          · cases h
          · next hd0 =>
            cases hz : am_runN G n (d - 1) z (0, am_ent z As, [], M1) with
            | none => rw [hz] at h; cases h
            | some r1 =>
              rw [hz] at h
              have hm := am_callok_mchk hc hk
              have g1 : M1.1 ≤ r1.2.1 := am_size _ _ _ _ _ hz
              have g2 : r1.2.1 ≤ r.2.1 := am_size _ _ _ _ _ h
              have hcell : cells + (r.2.1 - M1.1) ≤ R.cells := hcell
              have hslot : slots + 1000 * (r.2.1 - M1.1) ≤ R.slots := hslot
              have hM := am_met E ih hz hm e4
              refine am_callW X hM hc hk e3 (by omega) (by omega) (show cells + (r1.2.1 - M1.1) ≤ R.cells by omega) (show slots + 1000 * (r1.2.1 - M1.1) ≤ R.slots by omega) (ih d y _ r h p e R s m args below meth c Q _ _ X hfr hlo (show cells + (r1.2.1 - M1.1) + (r.2.1 - r1.2.1) ≤ R.cells by omega) (show slots + 1000 * (r1.2.1 - M1.1) + 1000 * (r.2.1 - r1.2.1) ≤ R.slots by omega) ?_)
              intro H ls locs pc2 i hR hq hret hd
              have K2 := K H ls locs pc2 i hR hq hret hd
              show W p l e R s m args below meth c H locs (cells + (r1.2.1 - M1.1) + (r.2.1 - r1.2.1)) (slots + 1000 * (r1.2.1 - M1.1) + 1000 * (r.2.1 - r1.2.1)) Q _
              rw [show cells + (r1.2.1 - M1.1) + (r.2.1 - r1.2.1) = cells + (r.2.1 - M1.1) by omega, show slots + 1000 * (r1.2.1 - M1.1) + 1000 * (r.2.1 - r1.2.1) = slots + 1000 * (r.2.1 - M1.1) by omega]
              exact K2
