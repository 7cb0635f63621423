/-- what an act does to the memory's size -/
def am_ge (M : am_M) (a : am_A) : Prop := match a with
  | none => True
  | some (.inl c') => M.1 ≤ c'.2.2.2.1
  | some (.inr (.inl r)) => r.2 = M
  | some (.inr (.inr z)) => z.2.2.2.2.2 = M
theorem am_pf_sz {M M' : am_M} {a ci k : Nat} {ty : FieldType} {v : Value} (h : am_pf M a ci k ty v = some M') : M.1 ≤ M'.1 := by
  unfold am_pf at h
  split at h
  · split at h
    · cases h; first | exact Nat.le_refl _ | exact Nat.le_succ _
    · cases h
  · cases h
theorem am_pi_sz {M M' : am_M} {a : Nat} {i x : Int32} (h : am_pi M a i x = some M') : M.1 ≤ M'.1 := by
  unfold am_pi at h
  split at h
  · split at h
    · cases h; first | exact Nat.le_refl _ | exact Nat.le_succ _
    · cases h
  · cases h
theorem am_pl_sz {M M' : am_M} {a : Nat} {i : Int32} {x : Int64} (h : am_pl M a i x = some M') : M.1 ≤ M'.1 := by
  unfold am_pl at h
  split at h
  · split at h
    · cases h; first | exact Nat.le_refl _ | exact Nat.le_succ _
    · cases h
  · cases h
theorem am_pz_sz {M M' : am_M} {a : Nat} {i x : Int32} (h : am_pz M a i x = some M') : M.1 ≤ M'.1 := by
  unfold am_pz at h
  split at h
  · split at h
    · cases h; first | exact Nat.le_refl _ | exact Nat.le_succ _
    · cases h
  · cases h
theorem am_pr_sz {M M' : am_M} {a v : Nat} {i : Int32} (h : am_pr M a i v = some M') : M.1 ≤ M'.1 := by
  unfold am_pr at h
  split at h
  · split at h
    · cases h; first | exact Nat.le_refl _ | exact Nat.le_succ _
    · cases h
  · cases h
theorem am_cp_sz {M M' : am_M} {a b : Nat} {sp dp n : Int32} (h : am_cp M a sp b dp n = some M') : M.1 ≤ M'.1 := by
  unfold am_cp at h
  split at h
  · split at h
    · cases h; first | exact Nat.le_refl _ | exact Nat.le_succ _
    · cases h
  · cases h
theorem am_newa_sz {M M' : am_M} {o : Option (Nat × ((Nat → Int32) ⊕ (Nat → Int64) ⊕ (Nat → UInt32) ⊕ (Nat → UInt64) ⊕ (Nat → Option Nat)))} {n : Int32} (h : am_newa o n M = some M') : M.1 ≤ M'.1 := by
  unfold am_newa at h
  split at h
  · split at h
    · cases h; first | exact Nat.le_refl _ | exact Nat.le_succ _
    · cases h
  · cases h
set_option maxHeartbeats 4000000 in
theorem am_act_ge (G : Nat → Value) (y : Nat) (x : am_I) (pc : Nat) (L : am_L) (st : List Value) (M : am_M) : am_ge M (am_act G y x pc L st M) := by
  obtain ⟨ins, len, r1, r2, r3, v⟩ := x
  cases ins
  all_goals try exact trivial
  all_goals simp only [am_act, am_go, am_load, am_stor1, am_stor2, am_ii, am_iz, am_ll, am_lz, am_li, am_i1, am_l1, am_br, am_jmp, am_swt, am_lk, am_opt, am_psh, am_cv, am_call, am_ms]
  all_goals repeat' split
  all_goals first
    | exact trivial
    | exact Nat.le_refl _
    | exact Nat.le_succ _
    | exact rfl
    | (next h => first | exact am_pf_sz h | exact am_pi_sz h | exact am_pl_sz h | exact am_pz_sz h | exact am_pr_sz h | exact am_cp_sz h | exact am_newa_sz h)
