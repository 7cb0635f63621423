def am_retok (y : Nat) (i : Instr) (r : Option Value) : Prop := (i = .ireturn ∧ ∃ a, r = some (.int a) ∧ am_okr (am_mR y) a = true) ∨ (i = .lreturn ∧ ∃ a, r = some (.long a) ∧ am_mR y = some .long) ∨ (i = .areturn ∧ ∃ v, r = some v ∧ am_isr v = true ∧ am_rrt (am_mR y) = true) ∨ (i = .return_ ∧ r = none ∧ am_mR y = none)
/-- the ways in which a method is called -/
def am_callok (x : am_I) (z : Nat) (As : List Value) (st st' : List Value) (M : am_M) : Prop := z = x.2.2.1 ∧ ((∃ i a Bs, x.1 = .invokevirtual i ∧ As = .ref a :: Bs ∧ Bs.length = x.2.2.2.1 ∧ st = Bs.reverse ++ .ref a :: st' ∧ am_cls M a = some (am_mC z)) ∨ (∃ i, x.1 = .invokestatic i ∧ x.2.2.2.2.2 ≠ 6 ∧ ¬ 10 ≤ x.2.2.2.2.2 ∧ As.length = x.2.2.2.1 ∧ st = As.reverse ++ st') ∨ (∃ i a Bs, x.1 = .invokespecial i ∧ x.2.2.2.2.2 ≠ 5 ∧ As = .ref a :: Bs ∧ Bs.length = x.2.2.2.1 ∧ st = Bs.reverse ++ .ref a :: st'))
def am_end (y pc : Nat) (x : am_I) (L : am_L) (st : List Value) (M : am_M) (a : am_A) : Prop := match a with
  | none => True
  | some (.inl _) => True
  | some (.inr (.inl r)) => st = r.1.toList ∧ am_retok y x.1 r.1
  | some (.inr (.inr (z, As, c1))) => c1.1 = pc + 3 ∧ c1.2.1 = L ∧ am_sw c1.2.2.1 ≤ 8 ∧ (am_exp As).length ≤ am_mL z ∧ am_callok x z As st c1.2.2.1 M
theorem am_cv_end {b : Bool} {y n pc : Nat} {L : am_L} {st : List Value} {M : am_M} {z : Nat} {As : List Value} {c1 : am_F} (h : am_cv b y n pc L st M = some (.inr (.inr (z, As, c1)))) : z = y ∧ c1.1 = pc + 3 ∧ c1.2.1 = L ∧ am_sw c1.2.2.1 ≤ 8 ∧ (am_exp As).length ≤ am_mL z ∧ ∃ a Bs, As = .ref a :: Bs ∧ Bs.length = n ∧ st = Bs.reverse ++ .ref a :: c1.2.2.1 ∧ (b = false ∨ am_cls M a = some (am_mC y)) := by
  unfold am_cv at h
  split at h
  · next a r hdr =>
    split at h
    · next hb =>
      unfold am_call at h
      split at h
      · next h8 =>
        cases h
        refine ⟨rfl, rfl, rfl, h8.1, h8.2, a, (st.take n).reverse, rfl, ?_, ?_, hb⟩
        · have h1 : n < st.length := by
            rcases Nat.lt_or_ge n st.length with q | q
            · exact q
            · rw [List.drop_eq_nil_of_le q] at hdr; cases hdr
          rw [List.length_reverse, List.length_take]
          omega
        · rw [List.reverse_reverse, ← hdr, List.take_append_drop]
      · cases h
    · cases h
  · cases h
set_option maxHeartbeats 4000000 in
theorem am_act_end (G : Nat → Value) (y : Nat) (x : am_I) (pc : Nat) (L : am_L) (st : List Value) (M : am_M) : am_end y pc x L st M (am_act G y x pc L st M) := by
  obtain ⟨ins, len, r1, r2, r3, v⟩ := x
  cases ins
  all_goals try exact trivial
  case invokevirtual i =>
    cases h : am_act G y (.invokevirtual i, len, r1, r2, r3, v) pc L st M with
    | none => exact trivial
    | some a =>
      rcases a with c' | r | ⟨z, As, c1⟩
      · exact trivial
      · exfalso
        simp only [am_act, am_cv, am_call] at h
        split at h
        · split at h
          · split at h <;> cases h
          · cases h
        · cases h
      · obtain ⟨h1, h2, h3, h4, h5, a, Bs, h6, h7, h8, h9⟩ := am_cv_end h
        refine ⟨h2, h3, h4, h5, h1, Or.inl ⟨i, a, Bs, rfl, h6, h7, h8, ?_⟩⟩
        rcases h9 with h9 | h9
        · cases h9
        · rw [h1]; exact h9
  case invokespecial i =>
    cases h : am_act G y (.invokespecial i, len, r1, r2, r3, v) pc L st M with
    | none => exact trivial
    | some a =>
      rcases a with c' | r | ⟨z, As, c1⟩
      · exact trivial
      · exfalso
        simp only [am_act, am_cv, am_call, am_go] at h
        split at h
        · split at h
          · split at h <;> cases h
          · cases h
        · split at h
          · split at h
            · split at h <;> cases h
            · cases h
          · cases h
      · simp only [am_act] at h
        split at h
        · split at h
          · split at h
            · rw [am_go] at h; cases h
            · cases h
          · cases h
        · next h5' =>
          obtain ⟨h1, h2, h3, h4, h5, a, Bs, h6, h7, h8, h9⟩ := am_cv_end h
          exact ⟨h2, h3, h4, h5, h1, Or.inr (Or.inr ⟨i, a, Bs, rfl, h5', h6, h7, h8⟩)⟩
  case invokestatic i =>
    cases h : am_act G y (.invokestatic i, len, r1, r2, r3, v) pc L st M with
    | none => exact trivial
    | some a =>
      rcases a with c' | r | ⟨z, As, c1⟩
      · exact trivial
      · exfalso
        simp only [am_act] at h
        split at h
        · split at h
          · split at h
            · unfold am_opt at h
              split at h
              · rw [am_go] at h; cases h
              · cases h
            · cases h
          · cases h
        · split at h
          · simp only [am_ms, am_go] at h
            repeat' split at h
            all_goals cases h
          · simp only [am_call] at h
            split at h
            · split at h <;> cases h
            · cases h
      · simp only [am_act] at h
        split at h
        · split at h
          · split at h
            · unfold am_opt at h
              split at h
              · rw [am_go] at h; cases h
              · cases h
            · cases h
          · cases h
        · next h6 =>
          split at h
          · simp only [am_ms, am_go] at h
            repeat' split at h
            all_goals cases h
          · next h10 =>
            simp only [am_call] at h
            split at h
            · next hle =>
              split at h
              · next h8 =>
                cases h
                refine ⟨rfl, rfl, h8.1, h8.2, rfl, Or.inr (Or.inl ⟨i, rfl, h6, h10, ?_, ?_⟩)⟩
                · rw [List.length_reverse, List.length_take]
                  have hle : r2 ≤ st.length := hle
                  show min r2 st.length = r2
                  omega
                · rw [List.reverse_reverse, List.take_append_drop]
              · cases h
            · cases h
  case ireturn =>
    simp only [am_act]
    split
    · next a =>
      split
      · next h => exact ⟨rfl, Or.inl ⟨rfl, a, rfl, h⟩⟩
      · exact trivial
    · exact trivial
  case lreturn =>
    simp only [am_act]
    split
    · next a =>
      split
      · next h => exact ⟨rfl, Or.inr (Or.inl ⟨rfl, a, rfl, h⟩)⟩
      · exact trivial
    · exact trivial
  case areturn =>
    simp only [am_act]
    split
    · next a =>
      split
      · next h => exact ⟨rfl, Or.inr (Or.inr (Or.inl ⟨rfl, a, rfl, h.1, h.2⟩))⟩
      · exact trivial
    · exact trivial
  case return_ =>
    simp only [am_act]
    split
    · split
      · next h => exact ⟨rfl, Or.inr (Or.inr (Or.inr ⟨rfl, rfl, h⟩))⟩
      · exact trivial
    · exact trivial
  all_goals simp only [am_act, am_go, am_load, am_stor1, am_stor2, am_ii, am_iz, am_ll, am_lz, am_li, am_i1, am_l1, am_br, am_jmp, am_swt, am_lk, am_opt, am_psh]
  all_goals repeat' split
  all_goals exact trivial
theorem am_size {G : Nat → Value} : ∀ (n d y : Nat) (f : am_F) (r : am_R), am_runN G n d y f = some r → f.2.2.2.1 ≤ r.2.1 := by
  intro n
  induction n with
  | zero => intro d y f r h; simp [am_runN] at h
  | succ n ih =>
    intro d y f r h
    rw [am_runN] at h
    cases hx : am_code y f.1 with
    | none => rw [hx] at h; simp at h
    | some x =>
      rw [hx] at h
      simp only [Option.bind_some] at h
      have hg := am_act_ge G y x f.1 f.2.1 f.2.2.1 f.2.2.2
      cases ha : am_act G y x f.1 f.2.1 f.2.2.1 f.2.2.2 with
      | none => rw [ha] at h; simp at h
      | some a =>
        rw [ha] at h hg
        rcases a with c' | r' | ⟨z, As, c1⟩
        · exact Nat.le_trans hg (ih _ _ _ _ h)
        · cases h
          have : r.2 = f.2.2.2 := hg
          rw [this]
          exact Nat.le_refl _
        · simp only at h
          have hM : c1.2.2.2 = f.2.2.2 := hg
          split at h
          · cases h
          · cases hz : am_runN G n (d - 1) z (0, am_ent z As, [], c1.2.2.2) with
            | none => rw [hz] at h; cases h
            | some r1 =>
              rw [hz] at h
              have h1 := ih _ _ _ _ hz
              have h2 := ih _ _ _ _ h
              rw [hM] at h1
              exact Nat.le_trans h1 h2
