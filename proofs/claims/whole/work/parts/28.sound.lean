/-- what an act does to the memory's size -/
def am_ge (M : am_M) (a : am_A) : Prop := match a with
  | none => True
  | some (.inl c') => M.1 ≤ c'.2.2.2.1
  | some (.inr (.inl r)) => r.2 = M
  | some (.inr (.inr z)) => z.2.2.2.2.2 = M
set_option maxHeartbeats 4000000 in
theorem am_act_ge (G : Nat → Value) (y : Nat) (x : am_I) (pc : Nat) (L : am_L) (st : List Value) (M : am_M) : am_ge M (am_act G y x pc L st M) := by
  obtain ⟨ins, len, r1, r2, r3, v⟩ := x
  cases ins
  all_goals try exact trivial
  all_goals simp only [am_act, am_go, am_load, am_stor1, am_stor2, am_ii, am_iz, am_ll, am_lz, am_li, am_i1, am_l1, am_br, am_jmp, am_swt, am_lk, am_opt, am_psh, am_pf, am_pi, am_pl, am_pz, am_pr, am_cp, am_newa, am_cv, am_call, am_ms]
  all_goals repeat' split
  all_goals first
    | exact trivial
    | exact Nat.le_refl _
    | exact Nat.le_succ _
    | exact rfl
    | (next h => first
      | (split at h <;> first | (cases h; exact Nat.le_refl _) | (cases h; exact Nat.le_succ _) | cases h)
      | (cases h; exact Nat.le_refl _))
