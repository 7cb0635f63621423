/-! the machine's heap and the abstract memory -/
def am_T (ci : Nat) : u_T := fun k => (am_nm ci, am_fl ci k)
def am_nf (ci : Nat) : Nat := (am_fd.getD ci []).length
def am_cl : List vw_C := (List.range 11).map (fun ci => (am_nm ci, am_T ci, am_nf ci))
theorem am_cl_at {ci : Nat} (h : ci < 11) : am_cl[ci]? = some (am_nm ci, am_T ci, am_nf ci) := by
  unfold am_cl
  rw [List.getElem?_map, List.getElem?_range h]
  rfl
theorem am_cl_lt {ci : Nat} {r : vw_C} (h : am_cl[ci]? = some r) : ci < 11 := by
  have h1 := (List.getElem?_eq_some_iff.mp h).1
  simpa [am_cl] using h1
def am_kok (k : Nat) : Bool := k == 0 || (k == 1 || (k == 2 || (k == 12 || (k == 13 || (k == 14 || (k == 16 || k == 18))))))
def am_ty (k : Nat) : FieldType := match k with
  | 0 => .int
  | 1 => .long
  | 2 => .boolean
  | 3 => .byte
  | 5 => .int
  | k => .object (am_nm (k - 10))
def am_at (s0 : State) (b0 : Nat) (D : va_G) (dA : Nat → ClassId) (q : Nat) (e : am_C) (H : Heap) : Prop := match e with
  | .inl (k, n, f) => (am_kok k = true ∧ b0 ≤ q ∧ H[q]? = some (arrV (dA k) n (am_rd f))) ∨ ((k = 3 ∨ k = 5) ∧ ∃ cell : Cell, H[q]? = some cell ∧ s0.isArrayOf cell (am_ty k) ∧ cell.vm ≠ .unknown ∧ (n ≤ cell.slots.size ∧ cell.slots.size.toInt32 = Int32.ofNat n) ∧ ∀ j, j < n → cell.slots[j]? = some (am_rd f j))
  | .inr (ci, fs) => (ci < 11 ∧ b0 ≤ q ∧ fs.length = am_nf ci ∧ t_OB q (D.1 ci) (am_nf ci) (D.2 ci) H (vp_V fs)) ∨ (ci = 11 ∧ ∃ v0 v1 : Value, fs = [v0, v1] ∧ va_O "java/lang/String" q (fun a => b0 ≤ a) s0 H ∧ va_OF "java/lang/String" "value" "[B" v0 q (fun a => b0 ≤ a) s0 H ∧ va_OF "java/lang/String" "coder" "B" v1 q (fun a => b0 ≤ a) s0 H)
theorem am_at_lt {s0 : State} {b0 : Nat} {D : va_G} {dA : Nat → ClassId} {q : Nat} {e : am_C} {H : Heap} (h : am_at s0 b0 D dA q e H) : q < H.size := by
  rcases e with ⟨k, n, f⟩ | ⟨ci, fs⟩
  · rcases h with ⟨-, -, h⟩ | ⟨-, cell, h, -⟩
    · exact (Array.getElem?_eq_some_iff.mp h).1
    · exact (Array.getElem?_eq_some_iff.mp h).1
  · rcases h with ⟨-, -, -, cell, h, -⟩ | ⟨-, v0, v1, -, ⟨cell, h, -⟩, -⟩
    · exact (Array.getElem?_eq_some_iff.mp h).1
    · exact (Array.getElem?_eq_some_iff.mp h).1
theorem am_at_kept {s0 : State} {b0 : Nat} {D : va_G} {dA : Nat → ClassId} {q : Nat} {e : am_C} {H H1 : Heap} (h : am_at s0 b0 D dA q e H) (hq : H1[q]? = H[q]?) : am_at s0 b0 D dA q e H1 := by
  rcases e with ⟨k, n, f⟩ | ⟨ci, fs⟩
  · rcases h with ⟨h1, h2, h⟩ | ⟨h1, cell, h, h2⟩
    · exact Or.inl ⟨h1, h2, by rw [hq]; exact h⟩
    · exact Or.inr ⟨h1, cell, by rw [hq]; exact h, h2⟩
  · rcases h with ⟨h1, h2, h3, h⟩ | ⟨h1, v0, v1, h2, ⟨cell, a1, a2, a3, a4⟩, ⟨cf, k, i, f, c2, b1, b2, b3, b4, b5, b6⟩, ⟨cf', k', i', f', c2', b1', b2', b3', b4', b5', b6'⟩⟩
    · exact Or.inl ⟨h1, h2, h3, h.kept hq⟩
    · exact Or.inr ⟨h1, v0, v1, h2, ⟨cell, by rw [hq]; exact a1, a2, a3, a4⟩, ⟨cf, k, i, f, c2, b1, b2, by rw [hq]; exact b3, b4, b5, b6⟩, ⟨cf', k', i', f', c2', b1', b2', by rw [hq]; exact b3', b4', b5', b6'⟩⟩
def am_Rel (s0 : State) (b0 : Nat) (D : va_G) (dA : Nat → ClassId) (M : am_M) (H : Heap) : Prop := M.1 = H.size ∧ b0 ≤ H.size ∧ (∀ q, q < b0 → H[q]? = s0.heap[q]?) ∧ ∀ (q : Nat) (e : am_C), M.2 q = some e → am_at s0 b0 D dA q e H
/-- a cell is written -/
theorem am_Rel_set {s0 : State} {b0 : Nat} {D : va_G} {dA : Nat → ClassId} {M : am_M} {H H1 : Heap} {a : Nat} {e : am_C} (h : am_Rel s0 b0 D dA M H) (ha : b0 ≤ a) (he : am_at s0 b0 D dA a e H1) (hz : H1.size = H.size) (oq : ∀ q, q ≠ a → H1[q]? = H[q]?) : am_Rel s0 b0 D dA (am_set M a e) H1 := by
  obtain ⟨h1, h2, h3, h4⟩ := h
  refine ⟨h1.trans hz.symm, by rw [hz]; exact h2, fun q hq => by rw [oq q (by omega)]; exact h3 q hq, fun q e' hq => ?_⟩
  by_cases hqa : q = a
  · subst hqa
    have : e = e' := by simpa [am_set] using hq
    subst this
    exact he
  · have : M.2 q = some e' := by simpa [am_set, hqa] using hq
    exact am_at_kept (h4 q e' this) (oq q hqa)
/-- a cell is made -/
theorem am_Rel_add {s0 : State} {b0 : Nat} {D : va_G} {dA : Nat → ClassId} {M : am_M} {H H1 : Heap} {e : am_C} (h : am_Rel s0 b0 D dA M H) (he : am_at s0 b0 D dA H.size e H1) (hz : H1.size = H.size + 1) (oq : ∀ q, q < H.size → H1[q]? = H[q]?) : am_Rel s0 b0 D dA (am_add M e) H1 := by
  obtain ⟨h1, h2, h3, h4⟩ := h
  refine ⟨by show M.1 + 1 = H1.size; rw [h1, hz], by rw [hz]; omega, fun q hq => by rw [oq q (by omega)]; exact h3 q hq, fun q e' hq => ?_⟩
  by_cases hqa : q = M.1
  · subst hqa
    have : e = e' := by simpa [am_add] using hq
    subst this
    rw [h1]
    exact he
  · have : M.2 q = some e' := by simpa [am_add, hqa] using hq
    exact am_at_kept (h4 q e' this) (oq q (am_at_lt (h4 q e' this)))
/-- the locals as pairs -/
def am_as (L : am_L) : List (Nat × Value) := (List.range L.length).filterMap (fun i => match L[i]? with
  | some (some v) => some (i, v)
  | _ => none)
theorem am_as_iff {L : am_L} {i : Nat} {v : Value} : (i, v) ∈ am_as L ↔ L[i]? = some (some v) := by
  unfold am_as
  rw [List.mem_filterMap]
  constructor
  · rintro ⟨j, -, h⟩
    split at h
    · next w hw => cases h; exact hw
    · cases h
  · intro h
    have hl : i < L.length := (List.getElem?_eq_some_iff.mp h).1
    exact ⟨i, List.mem_range.mpr hl, by rw [h]⟩
theorem am_has {ls : Array Slot} {nL : Nat} {L : am_L} (h : lv_has ls nL (am_as L)) {i : Nat} {v : Value} (hi : L[i]? = some (some v)) : ls[i]? = some (.val v) := h.2.2 (i, v) (am_as_iff.mpr hi)
theorem am_kill_at {L : am_L} {i j : Nat} {v : Value} (h : (am_kill L i)[j]? = some (some v)) : L[j]? = some (some v) ∧ ¬ (j + 1 = i ∧ v.category = 2) := by
  unfold am_kill at h
  split at h
  · exact ⟨h, by omega⟩
  · next k =>
    split at h
    · next w hw =>
      split at h
      · next hc =>
        by_cases hj : j = k
        · subst hj
          rw [List.getElem?_set_self (List.getElem?_eq_some_iff.mp hw).1] at h
          cases h
        · rw [List.getElem?_set_ne (Ne.symm hj)] at h
          exact ⟨h, by omega⟩
      · next hc =>
        refine ⟨h, fun hx => ?_⟩
        obtain ⟨h1, h2⟩ := hx
        have hjk : j = k := by omega
        subst hjk
        rw [hw] at h
        cases h
        exact hc h2
    · next hw =>
      refine ⟨h, fun hx => ?_⟩
      obtain ⟨h1, h2⟩ := hx
      have hjk : j = k := by omega
      subst hjk
      exact hw v h
theorem am_kill_len (L : am_L) (i : Nat) : (am_kill L i).length = L.length := by
  unfold am_kill
  split
  · rfl
  · split
    · split
      · simp
      · rfl
    · rfl
theorem am_s1_len (L : am_L) (i : Nat) (v : Value) : (am_s1 L i v).length = L.length := by simp [am_s1, am_kill_len]
theorem am_s2_len (L : am_L) (i : Nat) (v : Value) : (am_s2 L i v).length = L.length := by simp [am_s2, am_kill_len]
theorem am_has_s1 {ls : Array Slot} {nL : Nat} {L : am_L} {i : Nat} {v : Value} (hi : i < L.length) (h : lv_has ls nL ((i, v) :: (am_as L).filter (fun q => !(q.1 == i) && !(q.1 + 1 == i && q.2.category == 2)))) : lv_has ls nL (am_as (am_s1 L i v)) := by
  refine ⟨h.1, h.2.1, fun q hq => h.2.2 q ?_⟩
  obtain ⟨j, w⟩ := q
  have hj := am_as_iff.mp hq
  unfold am_s1 at hj
  by_cases hji : j = i
  · subst hji
    rw [List.getElem?_set_self (by rw [am_kill_len]; exact hi)] at hj
    cases hj
    exact List.mem_cons_self
  · rw [List.getElem?_set_ne (Ne.symm hji)] at hj
    obtain ⟨h1, h2⟩ := am_kill_at hj
    refine List.mem_cons_of_mem _ (List.mem_filter.mpr ⟨am_as_iff.mpr h1, ?_⟩)
    simp only [Bool.and_eq_true, Bool.not_eq_true', Bool.and_eq_false_iff, beq_eq_false_iff_ne]
    refine ⟨hji, ?_⟩
    by_cases hc : j + 1 = i
    · right; intro hcat; exact h2 ⟨hc, hcat⟩
    · left; exact hc
theorem am_has_s2 {ls : Array Slot} {nL : Nat} {L : am_L} {i : Nat} {v : Value} (hi : i + 1 < L.length) (h : lv_has ls nL ((i, v) :: (am_as L).filter (fun q => !(q.1 == i) && (!(q.1 == i + 1) && !(q.1 + 1 == i && q.2.category == 2))))) : lv_has ls nL (am_as (am_s2 L i v)) := by
  refine ⟨h.1, h.2.1, fun q hq => h.2.2 q ?_⟩
  obtain ⟨j, w⟩ := q
  have hj := am_as_iff.mp hq
  unfold am_s2 at hj
  by_cases hj1 : j = i + 1
  · subst hj1
    rw [List.getElem?_set_self (by rw [List.length_set, am_kill_len]; exact hi)] at hj
    cases hj
  · rw [List.getElem?_set_ne (Ne.symm hj1)] at hj
    by_cases hji : j = i
    · subst hji
      rw [List.getElem?_set_self (by rw [am_kill_len]; omega)] at hj
      cases hj
      exact List.mem_cons_self
    · rw [List.getElem?_set_ne (Ne.symm hji)] at hj
      obtain ⟨h1, h2⟩ := am_kill_at hj
      refine List.mem_cons_of_mem _ (List.mem_filter.mpr ⟨am_as_iff.mpr h1, ?_⟩)
      simp only [Bool.and_eq_true, Bool.not_eq_true', Bool.and_eq_false_iff, beq_eq_false_iff_ne]
      refine ⟨hji, hj1, ?_⟩
      by_cases hc : j + 1 = i
      · right; intro hcat; exact h2 ⟨hc, hcat⟩
      · left; exact hc
/-- the locals at the entry -/
theorem am_exp_args (vs : List Value) : ∀ (i : Nat) (pre : am_L), pre.length = i → ∀ (j : Nat) (v : Value), (pre ++ am_exp vs)[j]? = some (some v) → i ≤ j → (j, v) ∈ lv_args i vs := by
  induction vs with
  | nil =>
    intro i pre hp j v h hij
    rw [show am_exp [] = [] from rfl, List.append_nil] at h
    have := (List.getElem?_eq_some_iff.mp h).1
    omega
  | cons w vs ih =>
    intro i pre hp j v h hij
    show (j, v) ∈ (i, w) :: lv_args (if w.category = 2 then i + 2 else i + 1) vs
    by_cases hc : w.category = 2
    · rw [if_pos hc]
      have e : am_exp (w :: vs) = [some w, none] ++ am_exp vs := by simp [am_exp, hc]
      rw [e, ← List.append_assoc] at h
      by_cases h2 : i + 2 ≤ j
      · exact List.mem_cons_of_mem _ (ih (i + 2) _ (by simp [hp]) j v h h2)
      · rw [List.append_assoc, List.getElem?_append_right (by omega), hp] at h
        rcases (show j = i ∨ j = i + 1 by omega) with rfl | rfl
        · simp at h; subst h; exact List.mem_cons_self
        · simp at h
    · rw [if_neg hc]
      have e : am_exp (w :: vs) = [some w] ++ am_exp vs := by simp [am_exp, hc]
      rw [e, ← List.append_assoc] at h
      by_cases h2 : i + 1 ≤ j
      · exact List.mem_cons_of_mem _ (ih (i + 1) _ (by simp [hp]) j v h h2)
      · rw [List.append_assoc, List.getElem?_append_right (by omega), hp] at h
        obtain rfl : j = i := by omega
        simp at h; subst h; exact List.mem_cons_self
theorem am_exp_len (vs : List Value) : (am_exp vs).length = (lg_sl vs).length := by
  unfold am_exp lg_sl
  induction vs with
  | nil => rfl
  | cons v vs ih =>
    rw [List.flatMap_cons, List.flatMap_cons, List.length_append, List.length_append, ih]
    by_cases hc : v.category = 2 <;> simp [hc]
theorem am_ent_len {y : Nat} {args : List Value} (h : (am_exp args).length ≤ am_mL y) : (am_ent y args).length = am_mL y := by
  unfold am_ent
  rw [List.length_append, List.length_replicate]
  omega
theorem am_ent_has {y : Nat} {args : List Value} (h : (am_exp args).length ≤ am_mL y) : lv_has ((lg_sl args ++ List.replicate (am_mL y - (lg_sl args).length) Slot.unset).toArray) (am_mL y) (am_as (am_ent y args)) := by
  have h1 := lv_entry args (n := am_mL y) (by rw [← am_exp_len]; exact h)
  refine ⟨h1.1, h1.2.1, fun q hq => h1.2.2 q ?_⟩
  obtain ⟨j, v⟩ := q
  have hj := am_as_iff.mp hq
  unfold am_ent at hj
  by_cases hl : j < (am_exp args).length
  · rw [List.getElem?_append_left hl] at hj
    exact am_exp_args args 0 [] rfl j v (by simpa using hj) (Nat.zero_le _)
  · rw [List.getElem?_append_right (by omega)] at hj
    have := List.mem_of_getElem? hj
    rw [List.mem_replicate] at this
    cases this.2
