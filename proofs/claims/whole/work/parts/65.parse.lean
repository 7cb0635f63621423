/-! a TEXT's reading, as a function -/
def pa_V : List Nat := [256, 257, 258, 259, 300, 301, 302, 303, 304, 305, 306, 307, 308, 309, 310, 40, 41, 59, 43, 45, 42, 60, 61]
theorem pa_tk_V {b : Nat → Nat} {n s : Nat} : pa_tk b n s ∈ pa_V := by
  unfold pa_tk
  by_cases h1 : n ≤ s
  · rw [if_pos h1]; decide
  · rw [if_neg h1]
    by_cases h2 : pa_lt b s = true
    · rw [if_pos h2]
      generalize pa_word (pa_sub b s (pa_end (pa_lt b) n s - s)) = W
      by_cases h3 : W < 6
      · rw [if_pos h3]; decide
      · rw [if_neg h3]
        by_cases h4 : W < 11
        · rw [if_pos h4]
          have : W = 6 ∨ W = 7 ∨ W = 8 ∨ W = 9 ∨ W = 10 := by omega
          rcases this with rfl | rfl | rfl | rfl | rfl <;> decide
        · rw [if_neg h4]; decide
    · rw [if_neg h2]
      by_cases h3 : pa_dg b s = true
      · rw [if_pos h3]; split <;> decide
      · rw [if_neg h3]
        by_cases h4 : pa_sign (b s) = true
        · rw [if_pos h4]
          have := of_decide_eq_true h4
          rcases this with h | h | h | h | h | h | h | h <;> rw [h] <;> decide
        · rw [if_neg h4]; decide
theorem ct_all : pa_V.all (fun t => decide ((tp_ct t = Int32.ofNat 8 ↔ t = 308) ∧ (tp_ct t = Int32.ofNat 9 ↔ t = 309) ∧ (tp_ct t = Int32.ofNat 10 ↔ t = 310) ∧ (tp_ct t = Int32.ofNat 43 ↔ t = 43) ∧ (tp_ct t = Int32.ofNat 45 ↔ t = 45) ∧ (tp_ct t = Int32.ofNat 42 ↔ t = 42) ∧ (tp_ct t = Int32.ofNat 60 ↔ t = 60) ∧ (tp_ct t = Int32.ofNat 61 ↔ t = 61) ∧ (tp_ct t = Int32.ofNat 40 ↔ t = 40) ∧ (tp_ct t = Int32.ofNat 41 ↔ t = 41) ∧ (tp_ct t = Int32.ofNat 59 ↔ t = 59) ∧ (tp_ct t = -Int32.ofNat 3 ↔ t = 258) ∧ (tp_ct t = -Int32.ofNat 4 ↔ t = 259) ∧ (tp_ct t = -Int32.ofNat 1 ↔ t = 256) ∧ (tp_ct t = Int32.ofNat 6 ↔ t = 306) ∧ (tp_ct t = Int32.ofNat 7 ↔ t = 307))) = true := by decide +kernel
section
variable {b : Nat → Nat} {n s : Nat}
theorem ct_row : (tp_ct (pa_tk b n s) = Int32.ofNat 8 ↔ pa_tk b n s = 308) ∧ (tp_ct (pa_tk b n s) = Int32.ofNat 9 ↔ pa_tk b n s = 309) ∧ (tp_ct (pa_tk b n s) = Int32.ofNat 10 ↔ pa_tk b n s = 310) ∧ (tp_ct (pa_tk b n s) = Int32.ofNat 43 ↔ pa_tk b n s = 43) ∧ (tp_ct (pa_tk b n s) = Int32.ofNat 45 ↔ pa_tk b n s = 45) ∧ (tp_ct (pa_tk b n s) = Int32.ofNat 42 ↔ pa_tk b n s = 42) ∧ (tp_ct (pa_tk b n s) = Int32.ofNat 60 ↔ pa_tk b n s = 60) ∧ (tp_ct (pa_tk b n s) = Int32.ofNat 61 ↔ pa_tk b n s = 61) ∧ (tp_ct (pa_tk b n s) = Int32.ofNat 40 ↔ pa_tk b n s = 40) ∧ (tp_ct (pa_tk b n s) = Int32.ofNat 41 ↔ pa_tk b n s = 41) ∧ (tp_ct (pa_tk b n s) = Int32.ofNat 59 ↔ pa_tk b n s = 59) ∧ (tp_ct (pa_tk b n s) = -Int32.ofNat 3 ↔ pa_tk b n s = 258) ∧ (tp_ct (pa_tk b n s) = -Int32.ofNat 4 ↔ pa_tk b n s = 259) ∧ (tp_ct (pa_tk b n s) = -Int32.ofNat 1 ↔ pa_tk b n s = 256) ∧ (tp_ct (pa_tk b n s) = Int32.ofNat 6 ↔ pa_tk b n s = 306) ∧ (tp_ct (pa_tk b n s) = Int32.ofNat 7 ↔ pa_tk b n s = 307) := of_decide_eq_true (List.all_eq_true.mp ct_all _ pa_tk_V)
theorem ct_8 : (tp_ct (pa_tk b n s) = Int32.ofNat 8) = (pa_tk b n s = 308) := propext ct_row.1
theorem ct_9 : (tp_ct (pa_tk b n s) = Int32.ofNat 9) = (pa_tk b n s = 309) := propext ct_row.2.1
theorem ct_10 : (tp_ct (pa_tk b n s) = Int32.ofNat 10) = (pa_tk b n s = 310) := propext ct_row.2.2.1
theorem ct_43 : (tp_ct (pa_tk b n s) = Int32.ofNat 43) = (pa_tk b n s = 43) := propext ct_row.2.2.2.1
theorem ct_45 : (tp_ct (pa_tk b n s) = Int32.ofNat 45) = (pa_tk b n s = 45) := propext ct_row.2.2.2.2.1
theorem ct_42 : (tp_ct (pa_tk b n s) = Int32.ofNat 42) = (pa_tk b n s = 42) := propext ct_row.2.2.2.2.2.1
theorem ct_60 : (tp_ct (pa_tk b n s) = Int32.ofNat 60) = (pa_tk b n s = 60) := propext ct_row.2.2.2.2.2.2.1
theorem ct_61 : (tp_ct (pa_tk b n s) = Int32.ofNat 61) = (pa_tk b n s = 61) := propext ct_row.2.2.2.2.2.2.2.1
theorem ct_40 : (tp_ct (pa_tk b n s) = Int32.ofNat 40) = (pa_tk b n s = 40) := propext ct_row.2.2.2.2.2.2.2.2.1
theorem ct_41 : (tp_ct (pa_tk b n s) = Int32.ofNat 41) = (pa_tk b n s = 41) := propext ct_row.2.2.2.2.2.2.2.2.2.1
theorem ct_59 : (tp_ct (pa_tk b n s) = Int32.ofNat 59) = (pa_tk b n s = 59) := propext ct_row.2.2.2.2.2.2.2.2.2.2.1
theorem ct_m3 : (tp_ct (pa_tk b n s) = -Int32.ofNat 3) = (pa_tk b n s = 258) := propext ct_row.2.2.2.2.2.2.2.2.2.2.2.1
theorem ct_m4 : (tp_ct (pa_tk b n s) = -Int32.ofNat 4) = (pa_tk b n s = 259) := propext ct_row.2.2.2.2.2.2.2.2.2.2.2.2.1
theorem ct_m1 : (tp_ct (pa_tk b n s) = -Int32.ofNat 1) = (pa_tk b n s = 256) := propext ct_row.2.2.2.2.2.2.2.2.2.2.2.2.2.1
theorem ct_6 : (tp_ct (pa_tk b n s) = Int32.ofNat 6) = (pa_tk b n s = 306) := propext ct_row.2.2.2.2.2.2.2.2.2.2.2.2.2.2.1
theorem ct_7 : (tp_ct (pa_tk b n s) = Int32.ofNat 7) = (pa_tk b n s = 307) := propext ct_row.2.2.2.2.2.2.2.2.2.2.2.2.2.2.2
end
/-- read: the codes in the order of working off, and where the next TOKEN begins; or where the one that can't stand begins -/
abbrev pa_R : Type := (List Int32 × Nat) ⊕ Nat
def pa_loop (b : Nat → Nat) (n : Nat) (test : Nat → Bool) (op : Nat → Int32) (sub : Nat → pa_R) : Nat → List Int32 → Nat → pa_R
  | 0, c, t => .inl (c, t)
  | f + 1, c, t => if test (pa_tk b n t) = true then (match sub (pa_nx b n t) with
    | .inl (c', t') => pa_loop b n test op sub f (c ++ c' ++ [op (pa_tk b n t)]) t'
    | .inr e => .inr e) else .inl (c, t)
def pa_seq (b : Nat → Nat) (n : Nat) (test : Nat → Bool) (op : Nat → Int32) (sub : Nat → pa_R) (s : Nat) : pa_R := match sub s with
  | .inl (c, t) => pa_loop b n test op sub 160 c t
  | .inr e => .inr e
def pa_one (b : Nat → Nat) (n : Nat) (ok : Bool) (pE pO : Nat → pa_R) (s : Nat) : pa_R :=
  if pa_tk b n s = 258 then .inl ([Int32.ofNat (pa_tv b n s)], pa_nx b n s)
  else if pa_tk b n s = 259 then .inl ([-Int32.ofNat 1 - Int32.ofNat (pa_tv b n s)], pa_nx b n s)
  else if ¬ (pa_tk b n s = 45 ∨ pa_tk b n s = 40) ∨ ok = false then .inr s
  else if pa_tk b n s = 45 then (match pO (pa_nx b n s) with
    | .inl (c, t) => .inl (c ++ [-Int32.ofNat 20], t)
    | .inr e => .inr e)
  else (match pE (pa_nx b n s) with
    | .inl (c, t) => if pa_tk b n t = 41 then .inl (c, pa_nx b n t) else .inr t
    | .inr e => .inr e)
def pa_is (k : Nat) (t : Nat) : Bool := decide (t = k)
def pa_pm (t : Nat) : Bool := decide (t = 43 ∨ t = 45)
def pa_term (b : Nat → Nat) (n : Nat) (one : Nat → pa_R) : Nat → pa_R := pa_seq b n (pa_is 42) (fun _ => -Int32.ofNat 12) one
def pa_sum (b : Nat → Nat) (n : Nat) (one : Nat → pa_R) : Nat → pa_R := pa_seq b n pa_pm (fun t => if t = 43 then -Int32.ofNat 10 else -Int32.ofNat 11) (pa_term b n one)
def pa_not (b : Nat → Nat) (n : Nat) (ok : Bool) (pN sum : Nat → pa_R) (s : Nat) : pa_R :=
  if pa_tk b n s = 310 then (if ok = true then (match pN (pa_nx b n s) with
    | .inl (c, t) => .inl (c ++ [-Int32.ofNat 21], t)
    | .inr e => .inr e) else .inr s)
  else (match sum s with
    | .inl (c, t) => if pa_tk b n t = 60 ∨ pa_tk b n t = 61 then (match sum (pa_nx b n t) with
      | .inl (c', t') => .inl (c ++ c' ++ [if pa_tk b n t = 60 then -Int32.ofNat 13 else -Int32.ofNat 14], t')
      | .inr e => .inr e) else .inl (c, t)
    | .inr e => .inr e)
def pa_and (b : Nat → Nat) (n : Nat) (nt : Nat → pa_R) : Nat → pa_R := pa_seq b n (pa_is 309) (fun _ => -Int32.ofNat 15) nt
def pa_or (b : Nat → Nat) (n : Nat) (nt : Nat → pa_R) : Nat → pa_R := pa_seq b n (pa_is 308) (fun _ => -Int32.ofNat 16) (pa_and b n nt)
/-- E, ONE, NOT with k to be opened yet -/
def pa_lv (b : Nat → Nat) (n : Nat) : Nat → (Nat → pa_R) × (Nat → pa_R) × (Nat → pa_R)
  | 0 => (pa_or b n (pa_not b n false .inr (pa_sum b n (pa_one b n false .inr .inr))), pa_one b n false .inr .inr, pa_not b n false .inr (pa_sum b n (pa_one b n false .inr .inr)))
  | k + 1 => (pa_or b n (pa_not b n true (pa_lv b n k).2.2 (pa_sum b n (pa_one b n true (pa_lv b n k).1 (pa_lv b n k).2.1))), pa_one b n true (pa_lv b n k).1 (pa_lv b n k).2.1, pa_not b n true (pa_lv b n k).2.2 (pa_sum b n (pa_one b n true (pa_lv b n k).1 (pa_lv b n k).2.1)))
def pa_part (b : Nat → Nat) (n key : Nat) (s : Nat) : pa_R := if pa_tk b n s = key then (match (pa_lv b n 5).1 (pa_nx b n s) with
  | .inl (c, t) => if pa_tk b n t = 59 then .inl (c, pa_nx b n t) else .inr t
  | .inr e => .inr e) else .inr s
/-- a TEXT: late's codes and leave's, or the place of its FAULT -/
def pa_text (b : Nat → Nat) (n : Nat) : (List Int32 × List Int32) ⊕ Nat := match pa_part b n 306 (pa_sk b n 0) with
  | .inl (c, t) => (match pa_part b n 307 t with
    | .inl (c', t') => if pa_tk b n t' = 256 then .inl (c, c') else .inr t'
    | .inr e => .inr e)
  | .inr e => .inr e
/-- what is read is no shorter than its codes -/
def pa_good (n : Nat) (P : Nat → pa_R) : Prop := ∀ s, s ≤ n → match P s with
  | .inl (c, t) => s + c.length ≤ t ∧ t ≤ n ∧ s < t
  | .inr e => e ≤ n
section
variable {b : Nat → Nat} {n : Nat}
theorem pa_tk_end {s : Nat} (h : ¬ pa_tk b n s = 256) : s < n := by
  by_cases h1 : n ≤ s
  · exact absurd (by rw [pa_tk, if_pos h1]) h
  · omega
theorem pa_good_loop {test : Nat → Bool} {op : Nat → Int32} {sub : Nat → pa_R} (ht : test 256 = false) (hs : pa_good n sub) : ∀ (f : Nat) (c : List Int32) (t s : Nat), s + c.length ≤ t → t ≤ n → s < t → match pa_loop b n test op sub f c t with
    | .inl (c, t) => s + c.length ≤ t ∧ t ≤ n ∧ s < t
    | .inr e => e ≤ n := by
  intro f
  induction f with
  | zero => intro c t s h1 h2 h3; exact ⟨h1, h2, h3⟩
  | succ f ih =>
    intro c t s h1 h2 h3
    rw [pa_loop]
    by_cases hq : test (pa_tk b n t) = true
    · rw [if_pos hq]
      have hn : ¬ pa_tk b n t = 256 := fun e => by rw [e, ht] at hq; cases hq
      have htn := pa_tk_end hn
      obtain ⟨k1, k2, k3⟩ := pa_nx_le (b := b) h2
      have k3 := k3 htn
      have := hs (pa_nx b n t) k2
      cases hc : sub (pa_nx b n t) with
      | inr e => rw [hc] at this; exact this
      | inl q =>
        obtain ⟨c', t'⟩ := q
        rw [hc] at this
        obtain ⟨g1, g2, g3⟩ := this
        refine ih _ _ _ ?_ g2 (by omega)
        rw [List.length_append, List.length_append, List.length_cons, List.length_nil]
        omega
    · rw [if_neg hq]
      exact ⟨h1, h2, h3⟩
theorem pa_good_seq {test : Nat → Bool} {op : Nat → Int32} {sub : Nat → pa_R} (ht : test 256 = false) (hs : pa_good n sub) : pa_good n (pa_seq b n test op sub) := by
  intro s hsn
  have := hs s hsn
  unfold pa_seq
  cases hc : sub s with
  | inr e => rw [hc] at this; exact this
  | inl q =>
    obtain ⟨c, t⟩ := q
    rw [hc] at this
    exact pa_good_loop ht hs 160 c t s this.1 this.2.1 this.2.2
theorem pa_good_one {ok : Bool} {pE pO : Nat → pa_R} (hE : pa_good n pE) (hO : pa_good n pO) : pa_good n (pa_one b n ok pE pO) := by
  intro s hsn
  obtain ⟨k1, k2, k3⟩ := pa_nx_le (b := b) hsn
  unfold pa_one
  by_cases h1 : pa_tk b n s = 258
  · rw [if_pos h1]
    have := k3 (pa_tk_end (by rw [h1]; decide))
    refine ⟨?_, k2, this⟩
    rw [List.length_cons, List.length_nil]; omega
  · rw [if_neg h1]
    by_cases h2 : pa_tk b n s = 259
    · rw [if_pos h2]
      have := k3 (pa_tk_end (by rw [h2]; decide))
      refine ⟨?_, k2, this⟩
      rw [List.length_cons, List.length_nil]; omega
    · rw [if_neg h2]
      by_cases h3 : ¬ (pa_tk b n s = 45 ∨ pa_tk b n s = 40) ∨ ok = false
      · rw [if_pos h3]; exact hsn
      · rw [if_neg h3]
        have h4 : pa_tk b n s = 45 ∨ pa_tk b n s = 40 := Classical.byContradiction (fun e => h3 (Or.inl e))
        have k3 := k3 (pa_tk_end (by rcases h4 with e | e <;> rw [e] <;> decide))
        by_cases h5 : pa_tk b n s = 45
        · rw [if_pos h5]
          have := hO (pa_nx b n s) k2
          cases hc : pO (pa_nx b n s) with
          | inr e => rw [hc] at this; exact this
          | inl q =>
            obtain ⟨c, t⟩ := q
            rw [hc] at this
            obtain ⟨g1, g2, g3⟩ := this
            refine ⟨?_, g2, by omega⟩
            rw [List.length_append, List.length_cons, List.length_nil]; omega
        · rw [if_neg h5]
          have := hE (pa_nx b n s) k2
          cases hc : pE (pa_nx b n s) with
          | inr e => rw [hc] at this; exact this
          | inl q =>
            obtain ⟨c, t⟩ := q
            rw [hc] at this
            obtain ⟨g1, g2, g3⟩ := this
            simp only
            by_cases h6 : pa_tk b n t = 41
            · rw [if_pos h6]
              obtain ⟨m1, m2, m3⟩ := pa_nx_le (b := b) g2
              exact ⟨by omega, m2, by omega⟩
            · rw [if_neg h6]; exact g2
theorem pa_good_inr : pa_good n .inr := fun _ h => h
theorem pa_good_term {one : Nat → pa_R} (h : pa_good n one) : pa_good n (pa_term b n one) := pa_good_seq rfl h
theorem pa_good_sum {one : Nat → pa_R} (h : pa_good n one) : pa_good n (pa_sum b n one) := pa_good_seq rfl (pa_good_term h)
theorem pa_good_not {ok : Bool} {pN sum : Nat → pa_R} (hN : pa_good n pN) (hS : pa_good n sum) : pa_good n (pa_not b n ok pN sum) := by
  intro s hsn
  obtain ⟨k1, k2, k3⟩ := pa_nx_le (b := b) hsn
  unfold pa_not
  by_cases h1 : pa_tk b n s = 310
  · rw [if_pos h1]
    have k3 := k3 (pa_tk_end (by rw [h1]; decide))
    by_cases h2 : ok = true
    · rw [if_pos h2]
      have := hN (pa_nx b n s) k2
      cases hc : pN (pa_nx b n s) with
      | inr e => rw [hc] at this; exact this
      | inl q =>
        obtain ⟨c, t⟩ := q
        rw [hc] at this
        obtain ⟨g1, g2, g3⟩ := this
        refine ⟨?_, g2, by omega⟩
        rw [List.length_append, List.length_cons, List.length_nil]; omega
    · rw [if_neg h2]; exact hsn
  · rw [if_neg h1]
    have := hS s hsn
    cases hc : sum s with
    | inr e => rw [hc] at this; exact this
    | inl q =>
      obtain ⟨c, t⟩ := q
      rw [hc] at this
      obtain ⟨g1, g2, g3⟩ := this
      simp only
      by_cases h3 : pa_tk b n t = 60 ∨ pa_tk b n t = 61
      · rw [if_pos h3]
        obtain ⟨m1, m2, m3⟩ := pa_nx_le (b := b) g2
        have m3 := m3 (pa_tk_end (by rcases h3 with e | e <;> rw [e] <;> decide))
        have := hS (pa_nx b n t) m2
        cases hd : sum (pa_nx b n t) with
        | inr e => rw [hd] at this; exact this
        | inl q =>
          obtain ⟨c', t'⟩ := q
          rw [hd] at this
          obtain ⟨l1, l2, l3⟩ := this
          refine ⟨?_, l2, by omega⟩
          rw [List.length_append, List.length_append, List.length_cons, List.length_nil]; omega
      · rw [if_neg h3]; exact ⟨g1, g2, g3⟩
theorem pa_good_and {nt : Nat → pa_R} (h : pa_good n nt) : pa_good n (pa_and b n nt) := pa_good_seq rfl h
theorem pa_good_or {nt : Nat → pa_R} (h : pa_good n nt) : pa_good n (pa_or b n nt) := pa_good_seq rfl (pa_good_and h)
theorem pa_good_lv : ∀ k, pa_good n (pa_lv b n k).1 ∧ pa_good n (pa_lv b n k).2.1 ∧ pa_good n (pa_lv b n k).2.2 := by
  intro k
  induction k with
  | zero =>
    have h1 : pa_good n (pa_one b n false .inr .inr) := pa_good_one pa_good_inr pa_good_inr
    have h2 : pa_good n (pa_not b n false .inr (pa_sum b n (pa_one b n false .inr .inr))) := pa_good_not pa_good_inr (pa_good_sum h1)
    exact ⟨pa_good_or h2, h1, h2⟩
  | succ k ih =>
    obtain ⟨i1, i2, i3⟩ := ih
    have h1 : pa_good n (pa_one b n true (pa_lv b n k).1 (pa_lv b n k).2.1) := pa_good_one i1 i2
    have h2 : pa_good n (pa_not b n true (pa_lv b n k).2.2 (pa_sum b n (pa_one b n true (pa_lv b n k).1 (pa_lv b n k).2.1))) := pa_good_not i3 (pa_good_sum h1)
    exact ⟨pa_good_or h2, h1, h2⟩
end
