/-- the memory at the law's entry -/
def am_Start (G : Nat → Value) (M : am_M) (b L u0 : Nat) (xs : Nat → Int32) (adK adV : Nat → Nat) : Prop :=
  G 0 = .ref u0 ∧ am_isr (G 2) = true ∧ (∀ i, i < 13 → G (10 + i) = .ref (adK i)) ∧ M.2 b = some (.inl (5, L, .inl xs)) ∧ M.2 u0 = some (.inl (5, 6, .inl am_und)) ∧ (∀ i, i < 13 → M.2 (adK i) = some (.inr (11, [.ref (adV i), .int 0])) ∧ M.2 (adV i) = some (.inl (3, am_ln.getD i 0, .inl (am_bf i)))) ∧ ∀ q, M.1 ≤ q → M.2 q = none
def am_pick (u0 b L : Nat) (xs : Nat → Int32) (ad : Nat → Nat × Nat) (q : Nat) : Option am_C := match (List.range 13).find? (fun j => (ad j).1 == q) with
  | some i => some (.inr (11, [.ref (ad i).2, .int 0]))
  | none => match (List.range 13).find? (fun j => (ad j).2 == q) with
    | some i => some (.inl (3, am_ln.getD i 0, .inl (am_bf i)))
    | none => if q = u0 then some (.inl (5, 6, .inl am_und)) else if q = b then some (.inl (5, L, .inl xs)) else none
theorem am_getD_eq {l1 l2 : List Int32} (h : l1.length = l2.length) (hk : ∀ j, j < l1.length → l1.getD j 0 = l2.getD j 0) : l1 = l2 := by
  apply List.ext_getElem h
  intro i h1 h2
  have := hk i h1
  simpa [List.getD_eq_getElem?_getD, h1, h2] using this
theorem am_small {a b : Nat} (ha : a < 1000) (hb : b < 1000) (h : Int32.ofNat a = Int32.ofNat b) : a = b := by
  have h1 : (Int32.ofNat a).toNatClampNeg = a := Int32.toNatClampNeg_ofNat_of_lt (by omega)
  have h2 : (Int32.ofNat b).toNatClampNeg = b := Int32.toNatClampNeg_ofNat_of_lt (by omega)
  rw [← h1, h, h2]
set_option maxHeartbeats 4000000 in
theorem am_first {p : Program} {s : State} {m : MethodId} {meth : Method} {c : Code} {b L : Nat} {xs : Nat → Int32} (hL : L ≤ 384) (hx : ∀ j, L ≤ j → xs j = 0) (hts : ∀ w ∈ lw_tbl, w.before #[Value.ref b] s = true) (hX : va_X b L xs s s.heap) (hgv : (Jvm.Cond.and given_1 narrow_1).before #[Value.ref b] s = true) (hfit : heapFits s = true) :
    ∃ (G : Nat → Value) (D : va_G) (dA : Nat → ClassId) (u0 : Nat) (adK adV : Nat → Nat) (M : am_M), am_Env s s.heap.size G D dA ∧ am_Rel s s.heap.size D dA M s.heap ∧ am_Start G M b L u0 xs adK adV := by
  have fl : ∀ w ∈ am_flat, w.before #[Value.ref b] s = true := flat_of_before _ hgv
  have h0 : ∀ w ∈ lw_tbl, w.before #[] s = true := fun w hw => am_nt_before (am_on hw) (hts w hw)
  have hA : ∀ a : Nat, a < s.heap.size → ¬ (fun q => s.heap.size ≤ q) a := fun a h1 h2 => by
    have h2 : s.heap.size ≤ a := h2
    omega
  -- classes
  have hD : ∀ ci : Nat, ∃ q : ClassId × (Nat → Nat), ci < 11 → u_Kn s (am_nm ci) (am_T ci) (am_nf ci) q.1 q.2 := by
    intro ci
    by_cases h : ci < 11
    · obtain ⟨cC, iS, hK⟩ := u_known (C := am_nm ci) (T := am_T ci) (N := am_nf ci) (n := am_nf ci) h0 (am_c_in h) (h0 _ (am_c_is h).1)
      exact ⟨(cC, iS), fun _ => hK⟩
    · exact ⟨(0, fun _ => 0), fun h' => absurd h' h⟩
  obtain ⟨dd, hdd⟩ := Classical.axiomOfChoice hD
  -- arrays
  have hAr : ∀ k : Nat, ∃ cA : ClassId, am_kok k = true → ArrOfT s cA (am_ty k) ∧ va_RA s cA (am_ty k) := by
    have prim : ∀ ty : FieldType, Jvm.Cond.arrayClass ty ∈ lw_tbl → (∀ cA, s.vm.findClass ("[" ++ ty.toString) = some cA → va_RA s cA ty) → ∃ cA : ClassId, ArrOfT s cA ty ∧ va_RA s cA ty := by
      intro ty hw hra
      obtain ⟨cA, kA, comp, h1, h2, h3⟩ := Cond.arrayClass_spec (h0 _ hw)
      exact ⟨cA, fun n z => ⟨fun k h => (by cases h), kA, h2, comp, h3⟩, hra cA h1⟩
    have refk : ∀ nm : String, Jvm.Cond.arrayOver (.object nm) ∈ lw_tbl → ∃ cA : ClassId, ArrOfT s cA (.object nm) ∧ va_RA s cA (.object nm) := by
      intro nm hw
      obtain ⟨comp, cA, kA, h1, h2, h3, h4, h5⟩ := Cond.arrayOver_spec (h0 _ hw)
      exact ⟨cA, fun n z => ⟨fun k h => (by cases h), kA, h3, comp, h4⟩, kA, comp, h3, h4, h1, h5⟩
    intro k
    by_cases hk : am_kok k = true
    · have hk' := hk
      simp only [am_kok, Bool.or_eq_true, beq_iff_eq] at hk'
      rcases hk' with rfl | rfl | rfl | rfl | rfl | rfl | rfl | rfl
      · obtain ⟨cA, h⟩ := prim .int am_x_ac_int (fun _ h => h); exact ⟨cA, fun _ => h⟩
      · obtain ⟨cA, h⟩ := prim .long am_x_ac_long (fun _ h => h); exact ⟨cA, fun _ => h⟩
      · obtain ⟨cA, h⟩ := prim .boolean am_x_ac_boolean (fun _ h => h); exact ⟨cA, fun _ => h⟩
      · obtain ⟨cA, h⟩ := refk (am_nm 2) am_x_ao_2; exact ⟨cA, fun _ => h⟩
      · obtain ⟨cA, h⟩ := refk (am_nm 3) am_x_ao_3; exact ⟨cA, fun _ => h⟩
      · obtain ⟨cA, h⟩ := refk (am_nm 4) am_x_ao_4; exact ⟨cA, fun _ => h⟩
      · obtain ⟨cA, h⟩ := refk (am_nm 6) am_x_ao_6; exact ⟨cA, fun _ => h⟩
      · obtain ⟨cA, h⟩ := refk (am_nm 8) am_x_ao_8; exact ⟨cA, fun _ => h⟩
    · exact ⟨0, fun h => absurd h hk⟩
  obtain ⟨dA, hdA⟩ := Classical.axiomOfChoice hAr
  -- statics
  have hsz : ∀ i, i < 13 → (am_by.getD i []).length = am_ln.getD i 0 ∧ am_ln.getD i 0 < 100 := fun i hi => of_decide_eq_true (List.all_eq_true.mp am_by_len i (List.mem_range.mpr hi))
  obtain ⟨u0, hu0, hU⟩ := va_Tof (args := #[Value.ref b]) (s := s) (tm := .static "CushionHall" "UNDER" "[I") (ty := .int) (N := 6) (f := fun j => .int (am_und j)) (A := fun q => s.heap.size ≤ q) (by decide) (fl _ am_f_u1) (va_eqt (fl _ am_f_u2)) (fun j hj => va_eqt (fl _ (of_decide_eq_true (List.all_eq_true.mp am_f_un j (List.mem_range.mpr hj))))) hA
  have hZu := va_Zof (A := fun q => s.heap.size ≤ q) (hts _ am_x_ls0) (hts _ am_x_li0) hu0 hA
  have hZc := va_Zof (A := fun q => s.heap.size ≤ q) (hts _ am_x_ls1) (hts _ am_x_li1) (va_eqi (fl _ am_f_c)) hA
  have hZs : ∃ v : Value, am_isr v = true ∧ va_Z "jdk/internal/util/Preconditions" "SIOOBE_FORMATTER" "Ljava/util/function/BiFunction;" v (fun q => s.heap.size ≤ q) s s.heap := by
    have h1 := fl _ am_f_s
    cases hv : (Term.static "jdk/internal/util/Preconditions" "SIOOBE_FORMATTER" "Ljava/util/function/BiFunction;").eval #[Value.ref b] s none [] s with
    | none => simp [Cond.before, Cond.holds, Cond.value, hv] at h1
    | some v =>
      refine ⟨v, ?_, va_Zof (A := fun q => s.heap.size ≤ q) (hts _ am_x_ls2) (hts _ am_x_li2) hv hA⟩
      cases v <;> first | rfl | (simp [Cond.before, Cond.holds, Cond.value, hv, Value.isRef] at h1)
  obtain ⟨vs, hvs, hZs⟩ := hZs
  -- strings
  have hS : ∀ i : Nat, ∃ q : Nat × Nat, i < 13 → (am_tm i).eval #[Value.ref b] s none [] s = some (.ref q.1) ∧ va_O "java/lang/String" q.1 (fun a => s.heap.size ≤ a) s s.heap ∧ va_OF "java/lang/String" "coder" "B" (.int 0) q.1 (fun a => s.heap.size ≤ a) s s.heap ∧ va_OF "java/lang/String" "value" "[B" (.ref q.2) q.1 (fun a => s.heap.size ≤ a) s s.heap ∧ va_T .byte q.2 (am_ln.getD i 0) (fun j => .int (am_bf i j)) (fun a => s.heap.size ≤ a) s s.heap := by
    intro i
    by_cases hi : i < 13
    · have mr := List.mem_range.mpr hi
      obtain ⟨a, c, cA, kA, q1, q2, q3, q4, q5, q6, -⟩ := Cond.exactly_spec (args := #[Value.ref b]) (first := s) (o := none) (s := s) (idx := []) (t := am_tm i) (cls := "java/lang/String") (fl _ (of_decide_eq_true (List.all_eq_true.mp am_f_ex i mr)))
      obtain ⟨t, ht, hT⟩ := va_Tof (f := fun j => .int (am_bf i j)) (A := fun a => s.heap.size ≤ a) (by have := (hsz i hi).2; omega) (fl _ (of_decide_eq_true (List.all_eq_true.mp am_f_ar i mr))) (va_eqt (fl _ (of_decide_eq_true (List.all_eq_true.mp am_f_le i mr)))) (fun j hj => va_eqt (fl _ (of_decide_eq_true (List.all_eq_true.mp (List.all_eq_true.mp am_f_el i mr) j (List.mem_range.mpr hj))))) hA
      exact ⟨(a, t), fun _ => ⟨q1, ⟨cA, q3, q5, by rw [q6]; exact q2, hA a (Array.getElem?_eq_some_iff.mp q3).1⟩, vk_OFof q1 (va_eqt (fl _ (of_decide_eq_true (List.all_eq_true.mp am_f_co i mr)))) hA, vk_OFof q1 ht hA, hT⟩⟩
    · exact ⟨(0, 0), fun h => absurd h hi⟩
  obtain ⟨ad, had⟩ := Classical.axiomOfChoice hS
  -- which addresses differ
  have cellU := hU
  obtain ⟨cu, cu1, cu2, cu3, cu4, cu5, cu6, cu7⟩ := cellU
  obtain ⟨cb, cb1, cb2, cb3, cb4, cb5⟩ := id hX
  have vInj : ∀ i j, i < 13 → j < 13 → (ad i).2 = (ad j).2 → i = j := by
    intro i j hi hj he
    obtain ⟨ci, a1, a2, a3, a4, a5, a6, a7⟩ := (had i hi).2.2.2.2
    obtain ⟨cj, e1, e2, e3, e4, e5, e6, e7⟩ := (had j hj).2.2.2.2
    rw [he] at a1
    cases a1.symm.trans e1
    have hl : am_ln.getD i 0 = am_ln.getD j 0 := am_small (by have := (hsz i hi).2; omega) (by have := (hsz j hj).2; omega) (a5.symm.trans e5)
    refine of_decide_eq_true (List.all_eq_true.mp (List.all_eq_true.mp am_by_inj i (List.mem_range.mpr hi)) j (List.mem_range.mpr hj)) (am_getD_eq ?_ ?_)
    · rw [(hsz i hi).1, (hsz j hj).1, hl]
    · intro k hk
      rw [(hsz i hi).1] at hk
      have h1 := (a6 k hk).symm.trans (e6 k (by rw [← hl]; exact hk))
      exact Value.int.inj (Option.some.inj h1)
  have kInj : ∀ i j, i < 13 → j < 13 → (ad i).1 = (ad j).1 → i = j := by
    intro i j hi hj he
    obtain ⟨cf, k, fi, f, ci, a1, a2, a3, a4, a5, a6⟩ := (had i hi).2.2.2.1
    obtain ⟨cf', k', fi', f', cj, e1, e2, e3, e4, e5, e6⟩ := (had j hj).2.2.2.1
    rw [he] at a3
    cases a3.symm.trans e3
    cases a1.symm.trans e1
    have h1 := a5.symm.trans e5
    have h2 : (ad i).2 = (ad j).2 := by simpa using h1
    exact vInj i j hi hj h2
  -- a cell with a reference in it is no array of numbers
  have noRef : ∀ (a : Nat) (cell : Cell), s.heap[a]? = some cell → (s.isArrayOf cell .int ∨ s.isArrayOf cell .byte) → ∀ i, i < 13 → a ≠ (ad i).1 := by
    intro a cell hc hk i hi he
    obtain ⟨cf, k, fi, f, ci, a1, a2, a3, a4, a5, a6⟩ := (had i hi).2.2.2.1
    rw [← he] at a3
    cases hc.symm.trans a3
    obtain ⟨x, hx⟩ := am_fit_int hfit hc hk a5
    cases hx
  have noMix : ∀ (a : Nat) (cell : Cell), s.heap[a]? = some cell → s.isArrayOf cell .int → ∀ i, i < 13 → a ≠ (ad i).2 := by
    intro a cell hc hk i hi he
    obtain ⟨ci, a1, a2, a3, -⟩ := (had i hi).2.2.2.2
    rw [← he] at a1
    cases hc.symm.trans a1
    obtain ⟨-, k1, g1, comp1, g2⟩ := hk
    obtain ⟨-, k2, g3, comp2, g4⟩ := a2
    cases g1.symm.trans g3
    rw [g2] at g4
    cases g4
  have kv : ∀ i j, i < 13 → j < 13 → (ad i).1 ≠ (ad j).2 := by
    intro i j hi hj he
    obtain ⟨cj, e1, e2, -⟩ := (had j hj).2.2.2.2
    exact noRef _ cj e1 (Or.inr e2) i hi he.symm
  -- the script and the table, should they be one array
  have hbu : b = u0 → L = 6 ∧ xs = am_und := by
    intro he
    rw [he] at cb1
    cases cb1.symm.trans cu1
    have h6 : L = 6 := by
      have h1 : Int32.ofNat L = Int32.ofNat 6 := by rw [← cb4]; exact cu5
      exact am_small (by omega) (by omega) h1
    refine ⟨h6, funext fun j => ?_⟩
    by_cases hj : j < 6
    · have h1 := (cb5 j (by omega)).symm.trans (cu6 j hj)
      exact Value.int.inj (Option.some.inj h1)
    · rw [hx j (by omega)]
      unfold am_und
      rw [List.getD_eq_getElem?_getD, List.getElem?_eq_none (by simp; omega)]
      rfl
  have fK : ∀ i, i < 13 → (List.range 13).find? (fun j => (ad j).1 == (ad i).1) = some i := by
    intro i hi
    cases hf : (List.range 13).find? (fun j => (ad j).1 == (ad i).1) with
    | none =>
      have := List.find?_eq_none.mp hf i (List.mem_range.mpr hi)
      simp at this
    | some j =>
      have h1 := List.find?_some hf
      have h2 := List.mem_range.mp (List.mem_of_find?_eq_some hf)
      rw [kInj j i h2 hi (by simpa using h1)]
  have fV : ∀ i, i < 13 → (List.range 13).find? (fun j => (ad j).2 == (ad i).2) = some i := by
    intro i hi
    cases hf : (List.range 13).find? (fun j => (ad j).2 == (ad i).2) with
    | none =>
      have := List.find?_eq_none.mp hf i (List.mem_range.mpr hi)
      simp at this
    | some j =>
      have h1 := List.find?_some hf
      have h2 := List.mem_range.mp (List.mem_of_find?_eq_some hf)
      rw [vInj j i h2 hi (by simpa using h1)]
  have noK : ∀ q, (∀ i, i < 13 → q ≠ (ad i).1) → (List.range 13).find? (fun j => (ad j).1 == q) = none := by
    intro q hq
    rw [List.find?_eq_none]
    intro j hj
    have := hq j (List.mem_range.mp hj)
    simp [Ne.symm this]
  have noV : ∀ q, (∀ i, i < 13 → q ≠ (ad i).2) → (List.range 13).find? (fun j => (ad j).2 == q) = none := by
    intro q hq
    rw [List.find?_eq_none]
    intro j hj
    have := hq j (List.mem_range.mp hj)
    simp [Ne.symm this]
  refine ⟨fun k => if k = 0 then .ref u0 else if k = 2 then vs else if 10 ≤ k then .ref (ad (k - 10)).1 else .null, (fun ci => (dd ci).1, fun ci => (dd ci).2), dA, u0, fun i => (ad i).1, fun i => (ad i).2, (s.heap.size, am_pick u0 b L xs ad), ⟨h0, ?_, hdA, rfl, hZu, hZc, hZs, ?_⟩, ⟨rfl, Nat.le_refl _, fun _ _ => rfl, ?_⟩, ?_⟩
  · intro ci q hq
    have hci := am_cl_lt hq
    rw [am_cl_at hci] at hq
    cases hq
    exact hdd ci hci
  · intro q hq
    obtain ⟨i, hi⟩ := List.getElem?_of_mem hq
    have h13 : i < 13 := (List.getElem?_eq_some_iff.mp hi).1
    have h1 := List.all_eq_true.mp am_f_sr i (List.mem_range.mpr h13)
    rw [hi] at h1
    simp only [Bool.and_eq_true, decide_eq_true_eq] at h1
    obtain ⟨g1, g2, g3⟩ := h1
    refine ⟨(ad i).1, ?_, vk_R.of (hts _ (am_word_in g3)) ?_⟩
    · rw [g1]
      simp
      omega
    · rw [← g2]
      exact (had i h13).1
  · intro q e hq
    have hq : am_pick u0 b L xs ad q = some e := hq
    unfold am_pick at hq
    split at hq
    · next i hf =>
      cases hq
      have h1 : (ad i).1 = q := by simpa using List.find?_some hf
      have h13 := List.mem_range.mp (List.mem_of_find?_eq_some hf)
      subst h1
      exact Or.inr ⟨rfl, _, _, rfl, (had i h13).2.1, (had i h13).2.2.2.1, (had i h13).2.2.1⟩
    · split at hq
      · next i hf =>
        cases hq
        have h1 : (ad i).2 = q := by simpa using List.find?_some hf
        have h13 := List.mem_range.mp (List.mem_of_find?_eq_some hf)
        subst h1
        obtain ⟨ci, a1, a2, a3, a4, a5, a6, a7⟩ := (had i h13).2.2.2.2
        exact Or.inr ⟨Or.inl rfl, ci, a1, a2, a3, ⟨a4, a5⟩, a6⟩
      · split at hq
        · next hqu =>
          cases hq
          subst hqu
          exact Or.inr ⟨Or.inr rfl, cu, cu1, cu2, cu3, ⟨cu4, cu5⟩, cu6⟩
        · split at hq
          · next hqb =>
            cases hq
            subst hqb
            exact Or.inr ⟨Or.inr rfl, cb, cb1, cb2, cb3, ⟨Nat.le_of_eq cb4.symm, by rw [cb4] <;> rfl⟩, cb5⟩
          · cases hq
  · have hlt : ∀ (q : Nat) (e : am_C), am_pick u0 b L xs ad q = some e → q < s.heap.size := by
      intro q e hq
      unfold am_pick at hq
      split at hq
      · next i hf =>
        have h1 : (ad i).1 = q := by simpa using List.find?_some hf
        have h13 := List.mem_range.mp (List.mem_of_find?_eq_some hf)
        subst h1
        obtain ⟨cell, g1, -⟩ := (had i h13).2.1
        exact (Array.getElem?_eq_some_iff.mp g1).1
      · split at hq
        · next i hf =>
          have h1 : (ad i).2 = q := by simpa using List.find?_some hf
          have h13 := List.mem_range.mp (List.mem_of_find?_eq_some hf)
          subst h1
          obtain ⟨cell, g1, -⟩ := (had i h13).2.2.2.2
          exact (Array.getElem?_eq_some_iff.mp g1).1
        · split at hq
          · next hqu => subst hqu; exact (Array.getElem?_eq_some_iff.mp cu1).1
          · split at hq
            · next hqb => subst hqb; exact (Array.getElem?_eq_some_iff.mp cb1).1
            · cases hq
    refine ⟨rfl, hvs, fun i hi => ?_, ?_, ?_, fun i hi => ⟨?_, ?_⟩, fun q hq => ?_⟩
    · simp
      omega
    · show am_pick u0 b L xs ad b = _
      unfold am_pick
      rw [noK b (noRef b cb cb1 (Or.inl cb2)), noV b (noMix b cb cb1 cb2)]
      by_cases he : b = u0
      · obtain ⟨g1, g2⟩ := hbu he
        simp only [if_pos he]
        rw [g1, g2]
      · simp only [if_neg he, if_true]
    · show am_pick u0 b L xs ad u0 = _
      unfold am_pick
      rw [noK u0 (noRef u0 cu cu1 (Or.inl cu2)), noV u0 (noMix u0 cu cu1 cu2)]
      simp
    · show am_pick u0 b L xs ad (ad i).1 = _
      unfold am_pick
      rw [fK i hi]
    · show am_pick u0 b L xs ad (ad i).2 = _
      unfold am_pick
      rw [noK (ad i).2 (fun j hj => (kv j i hj hi).symm), fV i hi]
    · cases hp : am_pick u0 b L xs ad q with
      | none => exact hp
      | some e =>
        have h1 := hlt q e hp
        have hq : s.heap.size ≤ q := hq
        omega
