/-! an old array that nobody writes stays; what a call answers with -/
section
variable {M M' : am_M} {b n : Nat} {f : Nat → Int32}
theorem kp_set {a : Nat} {e : am_C} (h : ¬ b = a) : (am_set M a e).2 b = M.2 b := if_neg h
theorem kp_add {e : am_C} (h : b < M.1) : (am_add M e).2 b = M.2 b := if_neg (by omega)
theorem am_pf_kp {a ci k : Nat} {ty : FieldType} {v : Value} (h0 : M.2 b = some (.inl (5, n, .inl f))) (h : am_pf M a ci k ty v = some M') : M'.2 b = some (.inl (5, n, .inl f)) := by
  unfold am_pf at h
  split at h
  · next c fs hM =>
    split at h
    · cases h
      rw [kp_set (fun e => by rw [← e, h0] at hM; cases hM)]; exact h0
    · cases h
  · cases h
theorem am_pi_kp {a : Nat} {i x : Int32} (h0 : M.2 b = some (.inl (5, n, .inl f))) (h : am_pi M a i x = some M') : M'.2 b = some (.inl (5, n, .inl f)) := by
  unfold am_pi at h
  split at h
  · next k m g hM =>
    split at h
    · next hc =>
      cases h
      rw [kp_set (fun e => by rw [← e, h0] at hM; cases hM; exact absurd hc.1 (by decide))]; exact h0
    · cases h
  · cases h
theorem am_pl_kp {a : Nat} {i : Int32} {x : Int64} (h0 : M.2 b = some (.inl (5, n, .inl f))) (h : am_pl M a i x = some M') : M'.2 b = some (.inl (5, n, .inl f)) := by
  unfold am_pl at h
  split at h
  · next k m g hM =>
    split at h
    · cases h
      rw [kp_set (fun e => by rw [← e, h0] at hM; cases hM)]; exact h0
    · cases h
  · cases h
theorem am_pz_kp {a : Nat} {i x : Int32} (h0 : M.2 b = some (.inl (5, n, .inl f))) (h : am_pz M a i x = some M') : M'.2 b = some (.inl (5, n, .inl f)) := by
  unfold am_pz at h
  split at h
  · next k m g hM =>
    split at h
    · next hc =>
      cases h
      rw [kp_set (fun e => by rw [← e, h0] at hM; cases hM; exact absurd hc.1 (by decide))]; exact h0
    · cases h
  · cases h
theorem am_pr_kp {a v : Nat} {i : Int32} (h0 : M.2 b = some (.inl (5, n, .inl f))) (h : am_pr M a i v = some M') : M'.2 b = some (.inl (5, n, .inl f)) := by
  unfold am_pr at h
  split at h
  · next k m g hM =>
    split at h
    · cases h
      rw [kp_set (fun e => by rw [← e, h0] at hM; cases hM)]; exact h0
    · cases h
  · cases h
theorem am_cp_kp {a a0 : Nat} {sp dp m : Int32} (h0 : M.2 b = some (.inl (5, n, .inl f))) (h : am_cp M a0 sp a dp m = some M') : M'.2 b = some (.inl (5, n, .inl f)) := by
  unfold am_cp at h
  split at h
  · next k0 n0 g0 k1 n1 g1 hM0 hM =>
    split at h
    · next hc =>
      cases h
      rw [kp_set (fun e => by rw [← e, h0] at hM; cases hM; exact absurd hc.2.1 (by decide))]; exact h0
    · cases h
  · cases h
theorem am_newa_kp {o : Option (Nat × ((Nat → Int32) ⊕ (Nat → Int64) ⊕ (Nat → UInt32) ⊕ (Nat → UInt64) ⊕ (Nat → Option Nat)))} {m : Int32} (hb : b < M.1) (h0 : M.2 b = some (.inl (5, n, .inl f))) (h : am_newa o m M = some M') : M'.2 b = some (.inl (5, n, .inl f)) := by
  unfold am_newa at h
  split at h
  · split at h
    · cases h
      rw [kp_add hb]; exact h0
    · cases h
  · cases h
def am_kp (b n : Nat) (f : Nat → Int32) (a : am_A) : Prop := match a with
  | none => True
  | some (.inl c') => c'.2.2.2.2 b = some (.inl (5, n, .inl f))
  | some (.inr (.inl r)) => r.2.2 b = some (.inl (5, n, .inl f))
  | some (.inr (.inr z)) => z.2.2.2.2.2.2 b = some (.inl (5, n, .inl f))
set_option maxHeartbeats 4000000 in
theorem am_act_kp (G : Nat → Value) (y : Nat) (x : am_I) (pc : Nat) (L : am_L) (st : List Value) (M : am_M) (hb : b < M.1) (h0 : M.2 b = some (.inl (5, n, .inl f))) : am_kp b n f (am_act G y x pc L st M) := by
  obtain ⟨ins, len, r1, r2, r3, v⟩ := x
  cases ins
  all_goals try exact trivial
  all_goals simp only [am_act, am_go, am_load, am_stor1, am_stor2, am_ii, am_iz, am_ll, am_lz, am_li, am_i1, am_l1, am_br, am_jmp, am_swt, am_lk, am_opt, am_psh, am_cv, am_call, am_ms]
  all_goals repeat' split
  all_goals first
    | exact trivial
    | exact h0
    | exact (kp_add hb).trans h0
    | (next h => first | exact am_pf_kp h0 h | exact am_pi_kp h0 h | exact am_pl_kp h0 h | exact am_pz_kp h0 h | exact am_pr_kp h0 h | exact am_cp_kp h0 h | exact am_newa_kp hb h0 h)
theorem am_keep {G : Nat → Value} : ∀ (k d y : Nat) (c : am_F) (r : am_R), am_runN G k d y c = some r → b < c.2.2.2.1 → c.2.2.2.2 b = some (.inl (5, n, .inl f)) → r.2.2 b = some (.inl (5, n, .inl f)) := by
  intro k
  induction k with
  | zero => intro d y c r h; simp [am_runN] at h
  | succ k ih =>
    intro d y c r h hb h0
    rw [am_runN] at h
    cases hx : am_code y c.1 with
    | none => rw [hx] at h; simp at h
    | some x =>
      rw [hx] at h
      simp only [Option.bind_some] at h
      have hg := am_act_ge G y x c.1 c.2.1 c.2.2.1 c.2.2.2
      have hk := am_act_kp G y x c.1 c.2.1 c.2.2.1 c.2.2.2 hb h0
      cases ha : am_act G y x c.1 c.2.1 c.2.2.1 c.2.2.2 with
      | none => rw [ha] at h; simp at h
      | some a =>
        rw [ha] at h hg hk
        rcases a with c' | r' | ⟨z, As, c1⟩
        · exact ih _ _ _ _ h (Nat.lt_of_lt_of_le hb hg) hk
        · cases h; exact hk
        · simp only at h
          have hM : c1.2.2.2 = c.2.2.2 := hg
          split at h
          · cases h
          · cases hz : am_runN G k (d - 1) z (0, am_ent z As, [], c1.2.2.2) with
            | none => rw [hz] at h; cases h
            | some r1 =>
              rw [hz] at h
              have h1 := ih _ _ _ _ hz (by show b < c1.2.2.2.1; rw [hM]; exact hb) hk
              have h2 := am_size _ _ _ _ _ hz
              have h2 : c1.2.2.2.1 ≤ r1.2.1 := h2
              rw [hM] at h2
              exact ih _ _ _ _ h (Nat.lt_of_lt_of_le hb h2) h1
theorem am_rty {G : Nat → Value} : ∀ (k d y : Nat) (c : am_F) (r : am_R), am_runN G k d y c = some r → ∃ i, am_retok y i r.1 := by
  intro k
  induction k with
  | zero => intro d y c r h; simp [am_runN] at h
  | succ k ih =>
    intro d y c r h
    rw [am_runN] at h
    cases hx : am_code y c.1 with
    | none => rw [hx] at h; simp at h
    | some x =>
      rw [hx] at h
      simp only [Option.bind_some] at h
      have he := am_act_end G y x c.1 c.2.1 c.2.2.1 c.2.2.2
      cases ha : am_act G y x c.1 c.2.1 c.2.2.1 c.2.2.2 with
      | none => rw [ha] at h; simp at h
      | some a =>
        rw [ha] at h he
        rcases a with c' | r' | ⟨z, As, c1⟩
        · exact ih _ _ _ _ h
        · cases h; exact ⟨_, he.2⟩
        · simp only at h
          split at h
          · cases h
          · cases hz : am_runN G k (d - 1) z (0, am_ent z As, [], c1.2.2.2) with
            | none => rw [hz] at h; cases h
            | some r1 =>
              rw [hz] at h
              exact ih _ _ _ _ h
theorem ex_keep {G : Nat → Value} {d z : Nat} {args : List Value} {r : am_R} (h : am_ex G d z args M = some r) (hb : b < M.1) (h0 : M.2 b = some (.inl (5, n, .inl f))) : r.2.2 b = some (.inl (5, n, .inl f)) := by
  obtain ⟨d', k, -, hk⟩ := am_ex_some h
  exact am_keep k d' z _ r hk hb h0
theorem ex_int {G : Nat → Value} {d z : Nat} {args : List Value} {v : Value} (ht : am_mR z = some .int) (h : am_ex G d z args M = some (some v, M')) : ∃ a, v = .int a := by
  obtain ⟨d', k, -, hk⟩ := am_ex_some h
  obtain ⟨i, hi⟩ := am_rty k d' z _ _ hk
  unfold am_retok at hi
  rw [ht] at hi
  rcases hi with ⟨-, a, e, -⟩ | ⟨-, a, -, e⟩ | ⟨-, a, -, -, e⟩ | ⟨-, e, -⟩
  · exact ⟨a, Option.some.inj e⟩
  · cases e
  · cases e
  · cases e
theorem ex_long {G : Nat → Value} {d z : Nat} {args : List Value} {v : Value} (ht : am_mR z = some .long) (h : am_ex G d z args M = some (some v, M')) : ∃ a, v = .long a := by
  obtain ⟨d', k, -, hk⟩ := am_ex_some h
  obtain ⟨i, hi⟩ := am_rty k d' z _ _ hk
  unfold am_retok at hi
  rw [ht] at hi
  rcases hi with ⟨-, a, -, e⟩ | ⟨-, a, e, -⟩ | ⟨-, a, -, -, e⟩ | ⟨-, e, -⟩
  · cases e
  · exact ⟨a, Option.some.inj e⟩
  · cases e
  · cases e
end
