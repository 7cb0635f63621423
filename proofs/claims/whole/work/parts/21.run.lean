theorem am_mono1 (G : Nat → Value) : ∀ (n d y : Nat) (c : am_F) (r : am_R), am_runN G n d y c = some r → am_runN G (n + 1) d y c = some r := by
  intro n
  induction n with
  | zero => intro d y c r h; simp [am_runN] at h
  | succ n ih =>
    intro d y c r h
    rw [am_runN] at h ⊢
    cases ha : (am_code y c.1).bind (fun x => am_act G y x c.1 c.2.1 c.2.2.1 c.2.2.2) with
    | none => rw [ha] at h; simp at h
    | some a =>
      rw [ha] at h
      rcases a with c' | r' | ⟨z, args, c'⟩
      · exact ih _ _ _ _ h
      · exact h
      · simp only at h ⊢
        by_cases hd : d = 0
        · rw [if_pos hd] at h; cases h
        · rw [if_neg hd] at h ⊢
          cases hz : am_runN G n (d - 1) z (0, am_ent z args, [], c'.2.2.2) with
          | none => rw [hz] at h; simp at h
          | some r' =>
            rw [hz] at h
            rw [ih _ _ _ _ hz]
            exact ih _ _ _ _ h
theorem am_mono {G : Nat → Value} {n k d y : Nat} {c : am_F} {r : am_R} (hk : n ≤ k) (h : am_runN G n d y c = some r) : am_runN G k d y c = some r := by
  obtain ⟨j, rfl⟩ := Nat.le.dest hk
  clear hk
  induction j with
  | zero => exact h
  | succ j ih => exact am_mono1 G _ _ _ _ _ ih
noncomputable def am_run (G : Nat → Value) (d y : Nat) (c : am_F) : Option am_R := Classical.epsilon (fun o => (∃ n r, am_runN G n d y c = some r ∧ o = some r) ∨ ((∀ n, am_runN G n d y c = none) ∧ o = none))
theorem am_run_spec (G : Nat → Value) (d y : Nat) (c : am_F) : (∃ n r, am_runN G n d y c = some r ∧ am_run G d y c = some r) ∨ ((∀ n, am_runN G n d y c = none) ∧ am_run G d y c = none) := by
  refine Classical.epsilon_spec (p := fun o => (∃ n r, am_runN G n d y c = some r ∧ o = some r) ∨ ((∀ n, am_runN G n d y c = none) ∧ o = none)) ?_
  by_cases h : ∃ n r, am_runN G n d y c = some r
  · obtain ⟨n, r, h⟩ := h
    exact ⟨some r, Or.inl ⟨n, r, h, rfl⟩⟩
  · refine ⟨none, Or.inr ⟨fun n => ?_, rfl⟩⟩
    cases hn : am_runN G n d y c with
    | none => rfl
    | some r => exact absurd ⟨n, r, hn⟩ h
theorem am_run_iff {G : Nat → Value} {d y : Nat} {c : am_F} {r : am_R} : am_run G d y c = some r ↔ ∃ n, am_runN G n d y c = some r := by
  rcases am_run_spec G d y c with ⟨n, r', h1, h2⟩ | ⟨h1, h2⟩
  · rw [h2]
    constructor
    · intro h; cases h; exact ⟨n, h1⟩
    · rintro ⟨k, hk⟩
      have a := am_mono (k := n + k) (Nat.le_add_right n k) h1
      have b := am_mono (k := n + k) (Nat.le_add_left k n) hk
      exact a.symm.trans b
  · rw [h2]
    constructor
    · intro h; cases h
    · rintro ⟨k, hk⟩; rw [h1 k] at hk; cases hk
/-- a call's answer -/
noncomputable def am_ex (G : Nat → Value) (d z : Nat) (args : List Value) (M : am_M) : Option am_R := if d = 0 then none else am_run G (d - 1) z (0, am_ent z args, [], M)
/-- behind a call -/
noncomputable def am_k (G : Nat → Value) (d y pc : Nat) (L : am_L) (st : List Value) (o : Option am_R) : Option am_R := match o with
  | none => none
  | some r => am_run G d y (pc, L, r.1.toList ++ st, r.2)
theorem am_k_v {G : Nat → Value} {d y pc : Nat} {L : am_L} {st : List Value} {v : Value} {M : am_M} : am_k G d y pc L st (some (some v, M)) = am_run G d y (pc, L, v :: st, M) := rfl
theorem am_k_0 {G : Nat → Value} {d y pc : Nat} {L : am_L} {st : List Value} {M : am_M} : am_k G d y pc L st (some (none, M)) = am_run G d y (pc, L, st, M) := rfl
theorem am_k_n {G : Nat → Value} {d y pc : Nat} {L : am_L} {st : List Value} : am_k G d y pc L st none = none := rfl
section
variable {G : Nat → Value} {d y pc : Nat} {L : am_L} {st : List Value} {M : am_M} {x : am_I}
theorem am_run_next {c' : am_F} (hc : am_code y pc = some x) (ha : am_act G y x pc L st M = some (.inl c')) : am_run G d y (pc, L, st, M) = am_run G d y c' := by
  have key : ∀ n, am_runN G (n + 1) d y (pc, L, st, M) = am_runN G n d y c' := by
    intro n
    rw [am_runN]
    simp only [hc, Option.bind_some, ha]
  apply Option.ext
  intro r
  rw [am_run_iff, am_run_iff]
  constructor
  · rintro ⟨n, h⟩
    cases n with
    | zero => simp [am_runN] at h
    | succ n => exact ⟨n, by rw [← key n]; exact h⟩
  · rintro ⟨n, h⟩
    exact ⟨n + 1, by rw [key n]; exact h⟩
theorem am_run_ret {r : am_R} (hc : am_code y pc = some x) (ha : am_act G y x pc L st M = some (.inr (.inl r))) : am_run G d y (pc, L, st, M) = some r := by
  rw [am_run_iff]
  refine ⟨1, ?_⟩
  rw [am_runN]
  simp only [hc, Option.bind_some, ha]
theorem am_run_stuck (hc : am_code y pc = some x) (ha : am_act G y x pc L st M = none) : am_run G d y (pc, L, st, M) = none := by
  rcases am_run_spec G d y (pc, L, st, M) with ⟨n, r', h1, h2⟩ | ⟨h1, h2⟩
  · cases n with
    | zero => simp [am_runN] at h1
    | succ n => rw [am_runN] at h1; simp only [hc, Option.bind_some, ha] at h1; cases h1
  · exact h2
theorem am_run_call {z pc' : Nat} {args : List Value} {L' : am_L} {st' : List Value} {M' : am_M} (hc : am_code y pc = some x) (ha : am_act G y x pc L st M = some (.inr (.inr (z, args, (pc', L', st', M'))))) : am_run G d y (pc, L, st, M) = am_k G d y pc' L' st' (am_ex G d z args M') := by
  have key : ∀ n, am_runN G (n + 1) d y (pc, L, st, M) = if d = 0 then none else match am_runN G n (d - 1) z (0, am_ent z args, [], M') with
      | none => none
      | some r => am_runN G n d y (pc', L', r.1.toList ++ st', r.2) := by
    intro n
    rw [am_runN]
    simp only [hc, Option.bind_some, ha]
    rfl
  apply Option.ext
  intro r
  by_cases hd : d = 0
  · rw [am_ex, if_pos hd, am_k_n, am_run_iff]
    constructor
    · rintro ⟨n, h⟩
      cases n with
      | zero => simp [am_runN] at h
      | succ n => rw [key, if_pos hd] at h; exact h
    · intro h; cases h
  · rw [am_ex, if_neg hd, am_run_iff]
    constructor
    · rintro ⟨n, h⟩
      cases n with
      | zero => simp [am_runN] at h
      | succ n =>
        rw [key, if_neg hd] at h
        cases hz : am_runN G n (d - 1) z (0, am_ent z args, [], M') with
        | none => rw [hz] at h; cases h
        | some r' =>
          rw [hz] at h
          rw [(am_run_iff (r := r')).mpr ⟨n, hz⟩]
          exact am_run_iff.mpr ⟨n, h⟩
    · intro h
      cases hz : am_run G (d - 1) z (0, am_ent z args, [], M') with
      | none => rw [hz] at h; cases h
      | some r' =>
        rw [hz] at h
        obtain ⟨a, ha'⟩ := am_run_iff.mp hz
        obtain ⟨b, hb'⟩ := am_run_iff.mp (show am_run G d y (pc', L', r'.1.toList ++ st', r'.2) = some r from h)
        refine ⟨a + b + 1, ?_⟩
        rw [key, if_neg hd, am_mono (k := a + b) (by omega) ha']
        exact am_mono (k := a + b) (by omega) hb'
theorem am_ex_some {z : Nat} {args : List Value} {r : am_R} (h : am_ex G d z args M = some r) : ∃ d' n, d = d' + 1 ∧ am_runN G n d' z (0, am_ent z args, [], M) = some r := by
  unfold am_ex at h
  by_cases hd : d = 0
  · rw [if_pos hd] at h; cases h
  · rw [if_neg hd] at h
    obtain ⟨n, hn⟩ := am_run_iff.mp h
    exact ⟨d - 1, n, by omega, hn⟩
end
