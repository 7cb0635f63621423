/-! the reference's TOKENS are those of the class -/
def mr_W : List Nat := [223456, 158529, 8694872, 257011, 400577, 10819228, 237470, 6477035, 423, 1111, 10631]
def mr_dec : Nat → Nat → List Nat
  | 0, _ => []
  | f + 1, W => if W = 0 then [] else mr_dec f (W / 27) ++ [W % 27 + 96]
theorem mr_dec_hash {b : Nat → Nat} {s : Nat} : ∀ (k f : Nat), k ≤ f → (∀ j, j < k → 97 ≤ b (s + j) ∧ b (s + j) ≤ 122) → mr_dec f (pa_hash b s k) = pa_sub b s k := by
  intro k
  induction k with
  | zero =>
    intro f _ _
    cases f with
    | zero => rfl
    | succ f => rw [mr_dec, if_pos (by rfl)]; rfl
  | succ k ih =>
    intro f hf hl
    obtain ⟨f, rfl⟩ : ∃ g, f = g + 1 := ⟨f - 1, by omega⟩
    have hk := hl k (by omega)
    rw [mr_dec, pa_hash, if_neg (by omega), show (27 * pa_hash b s k + b (s + k) - 96) / 27 = pa_hash b s k by omega, show (27 * pa_hash b s k + b (s + k) - 96) % 27 + 96 = b (s + k) by omega, ih f (by omega) (fun j hj => hl j (by omega))]
    unfold pa_sub
    rw [List.range_succ, List.map_append]
    rfl
theorem mr_dec_W : ∀ w : Fin 11, mr_dec 8 (mr_W.getD w.val 0) = pa_words.getD w.val [] := by decide +kernel
theorem pa_hash_lt {b : Nat → Nat} {s : Nat} : ∀ k : Nat, k ≤ 8 → (∀ j, j < k → 97 ≤ b (s + j) ∧ b (s + j) ≤ 122) → pa_hash b s k < 27 ^ k := by
  intro k
  induction k with
  | zero => intro _ _; exact Nat.one_pos
  | succ k ih =>
    intro hk hl
    have h1 := ih (by omega) (fun j hj => hl j (by omega))
    have h2 := hl k (by omega)
    rw [pa_hash, Nat.pow_succ]
    omega
theorem pa_hash_sub {b b' : Nat → Nat} {s s' : Nat} : ∀ k : Nat, pa_sub b s k = pa_sub b' s' k → pa_hash b s k = pa_hash b' s' k := by
  intro k
  induction k with
  | zero => intro _; rfl
  | succ k ih =>
    intro h
    unfold pa_sub at h
    rw [List.range_succ, List.map_append, List.map_append] at h
    have h2 := List.append_inj h (by simp)
    rw [pa_hash, pa_hash, ih h2.1]
    have h3 : b (s + k) = b' (s' + k) := by
      have := h2.2
      simp only [List.map_cons, List.map_nil, List.cons.injEq, and_true] at this
      exact this
    rw [h3]
theorem mr_hash_W : ∀ w : Fin 11, pa_hash (fun j => (pa_words.getD w.val []).getD j 0) 0 (pa_words.getD w.val []).length = mr_W.getD w.val 0 ∧ pa_sub (fun j => (pa_words.getD w.val []).getD j 0) 0 (pa_words.getD w.val []).length = pa_words.getD w.val [] ∧ (pa_words.getD w.val []).length ≤ 8 ∧ mr_W.getD w.val 0 < 282429536481 ∧ 0 < mr_W.getD w.val 0 := by decide +kernel
theorem mr_word {b : Nat → Nat} {s k w : Nat} (hw : w < 11) (hl : ∀ j, j < k → 97 ≤ b (s + j) ∧ b (s + j) ≤ 122) : (mr_w b s k = Int64.ofNat (mr_W.getD w 0)) = (pa_word (pa_sub b s k) = w) := by
  obtain ⟨q1, q2, q3, q4, q5⟩ := mr_hash_W ⟨w, hw⟩
  have q6 := mr_dec_W ⟨w, hw⟩
  simp only at q1 q2 q3 q4 q5 q6
  rw [eq_iff_iff, pa_word_lt hw]
  unfold mr_w
  by_cases hk : k ≤ 8
  · have hlt := pa_hash_lt k hk hl
    have h27 : 27 ^ k ≤ 27 ^ 8 := Nat.pow_le_pow_right (by decide) hk
    have h278 : 27 ^ 8 = 282429536481 := by decide
    rw [if_pos hk, l6_eq (by omega) (by omega)]
    constructor
    · intro h
      rw [← mr_dec_hash k 8 hk hl, h, q6]
    · intro h
      have hlen : k = (pa_words.getD w []).length := by rw [h, pa_sub_len]
      subst hlen
      rw [← q1]
      apply pa_hash_sub
      rw [q2]
      exact h.symm
  · rw [if_neg hk, l6_Neq (by omega) (by decide) (by decide)]
    constructor
    · intro h; exact absurd h (fun e => e)
    · intro h
      have hlen : k = (pa_words.getD w []).length := by rw [h, pa_sub_len]
      omega
/-- the reference's kind of TOKEN, and its worth -/
def mr_k (b : Nat → Nat) (n s : Nat) : Nat := if n ≤ s then 0 else if pa_lt b s = true then 1 else if pa_dg b s = true then (if 4 < pa_end (pa_dg b) n s - s then 4 else 2) else if pa_sign (b s) = true then 3 else 4
def mr_v (b : Nat → Nat) (n s : Nat) : Int64 := if pa_lt b s = true then mr_w b s (pa_end (pa_lt b) n s - s) else if pa_dg b s = true then Int64.ofNat (pa_num b s (min 4 (pa_end (pa_dg b) n s - s))) else Int64.ofNat (b s)
theorem mr_k_word {b : Nat → Nat} {n s w : Nat} (hs : s ≤ n) (hw : w < 11) : (mr_k b n s = 1 ∧ mr_v b n s = Int64.ofNat (mr_W.getD w 0)) = (if w < 6 then pa_tk b n s = 259 ∧ pa_tv b n s = w else pa_tk b n s = 300 + w) := by
  rw [eq_iff_iff]
  unfold mr_k mr_v pa_tk pa_tv
  by_cases h1 : n ≤ s
  · rw [if_pos h1, if_pos h1]
    constructor
    · intro h; exact absurd h.1 (by decide)
    · intro h; split at h <;> omega
  · rw [if_neg h1, if_neg h1]
    by_cases h2 : pa_lt b s = true
    · rw [if_pos h2, if_pos h2, if_pos h2, if_pos h2]
      obtain ⟨g1, g2, g3, -⟩ := pa_end_spec (P := pa_lt b) hs
      rw [mr_word hw (fun j hj => of_decide_eq_true (g3 (s + j) (by omega) (by omega)))]
      generalize pa_word (pa_sub b s (pa_end (pa_lt b) n s - s)) = W
      by_cases h6 : w < 6
      · rw [if_pos h6]
        constructor
        · intro h; rw [h.2, if_pos h6]; exact ⟨rfl, rfl⟩
        · intro h; exact ⟨rfl, h.2⟩
      · rw [if_neg h6]
        constructor
        · intro h; rw [h.2, if_neg h6, if_pos hw]
        · intro h
          refine ⟨rfl, ?_⟩
          split at h
          · omega
          · split at h <;> omega
    · rw [if_neg h2, if_neg h2, if_neg h2, if_neg h2]
      by_cases h3 : pa_dg b s = true
      · rw [if_pos h3, if_pos h3]
        constructor
        · intro h; exfalso; have := h.1; split at this <;> omega
        · intro h; exfalso; split at h
          · have := h.1; split at this <;> omega
          · split at h <;> omega
      · rw [if_neg h3, if_neg h3]
        by_cases h4 : pa_sign (b s) = true
        · rw [if_pos h4, if_pos h4]
          have := of_decide_eq_true h4
          constructor
          · intro h; exact absurd h.1 (by decide)
          · intro h; exfalso; split at h <;> omega
        · rw [if_neg h4, if_neg h4]
          constructor
          · intro h; exact absurd h.1 (by decide)
          · intro h; exfalso; split at h <;> omega
theorem mr_k_sign {b : Nat → Nat} {n s c : Nat} (hs : s ≤ n) (hb : s < n → b s < 256) (hc : pa_sign c = true) : (mr_k b n s = 3 ∧ mr_v b n s = Int64.ofNat c) = (pa_tk b n s = c) := by
  have hc' : c = 40 ∨ c = 41 ∨ c = 59 ∨ c = 43 ∨ c = 45 ∨ c = 42 ∨ c = 60 ∨ c = 61 := of_decide_eq_true hc
  have hc2 : 40 ≤ c ∧ c ≤ 61 := by omega
  clear hc' hc
  rw [eq_iff_iff]
  unfold mr_k mr_v pa_tk
  by_cases h1 : n ≤ s
  · rw [if_pos h1, if_pos h1]
    constructor
    · intro h; exact absurd h.1 (by decide)
    · intro h; omega
  · have hb := hb (by omega)
    rw [if_neg h1, if_neg h1]
    by_cases h2 : pa_lt b s = true
    · rw [if_pos h2, if_pos h2, if_pos h2]
      constructor
      · intro h; exact absurd h.1 (by decide)
      · intro h; exfalso
        generalize pa_word (pa_sub b s (pa_end (pa_lt b) n s - s)) = W at h
        by_cases q1 : W < 6
        · rw [if_pos q1] at h; omega
        · rw [if_neg q1] at h
          by_cases q2 : W < 11
          · rw [if_pos q2] at h; omega
          · rw [if_neg q2] at h; omega
    · rw [if_neg h2, if_neg h2, if_neg h2]
      by_cases h3 : pa_dg b s = true
      · rw [if_pos h3, if_pos h3, if_pos h3]
        constructor
        · intro h; exfalso; have := h.1; split at this <;> omega
        · intro h; exfalso
          by_cases q1 : 4 < pa_end (pa_dg b) n s - s
          · rw [if_pos q1] at h; omega
          · rw [if_neg q1] at h; omega
      · rw [if_neg h3, if_neg h3, if_neg h3]
        by_cases h4 : pa_sign (b s) = true
        · rw [if_pos h4, if_pos h4, l6_eq (by omega) (by omega)]
          exact ⟨fun h => h.2, fun h => ⟨rfl, h⟩⟩
        · rw [if_neg h4, if_neg h4]
          constructor
          · intro h; exact absurd h.1 (by decide)
          · intro h; omega
theorem mr_k_2 {b : Nat → Nat} {n s : Nat} : (mr_k b n s = 2) = (pa_tk b n s = 258) := by
  rw [eq_iff_iff]
  unfold mr_k pa_tk
  by_cases h1 : n ≤ s
  · rw [if_pos h1, if_pos h1]; omega
  · rw [if_neg h1, if_neg h1]
    by_cases h2 : pa_lt b s = true
    · rw [if_pos h2, if_pos h2]
      constructor
      · intro h; omega
      · intro h; exfalso; split at h
        · omega
        · split at h <;> omega
    · rw [if_neg h2, if_neg h2]
      by_cases h3 : pa_dg b s = true
      · rw [if_pos h3, if_pos h3]
        by_cases h4 : 4 < pa_end (pa_dg b) n s - s
        · rw [if_pos h4, if_pos h4]; omega
        · rw [if_neg h4, if_neg h4]; omega
      · rw [if_neg h3, if_neg h3]
        by_cases h4 : pa_sign (b s) = true
        · have := of_decide_eq_true h4
          rw [if_pos h4, if_pos h4]; omega
        · rw [if_neg h4, if_neg h4]; omega
theorem mr_k_0 {b : Nat → Nat} {n s : Nat} : (mr_k b n s = 0) = (pa_tk b n s = 256) := by
  rw [eq_iff_iff]
  unfold mr_k pa_tk
  by_cases h1 : n ≤ s
  · rw [if_pos h1, if_pos h1]; omega
  · rw [if_neg h1, if_neg h1]
    by_cases h2 : pa_lt b s = true
    · rw [if_pos h2, if_pos h2]
      constructor
      · intro h; omega
      · intro h; exfalso; split at h
        · omega
        · split at h <;> omega
    · rw [if_neg h2, if_neg h2]
      by_cases h3 : pa_dg b s = true
      · rw [if_pos h3, if_pos h3]
        by_cases h4 : 4 < pa_end (pa_dg b) n s - s
        · rw [if_pos h4, if_pos h4]; omega
        · rw [if_neg h4, if_neg h4]; omega
      · rw [if_neg h3, if_neg h3]
        by_cases h4 : pa_sign (b s) = true
        · have := of_decide_eq_true h4
          rw [if_pos h4, if_pos h4]; omega
        · rw [if_neg h4, if_neg h4]; omega
theorem mr_k_1 {b : Nat → Nat} {n s : Nat} : (mr_k b n s = 1) = (s < n ∧ pa_lt b s = true) := by
  rw [eq_iff_iff]
  unfold mr_k
  by_cases h1 : n ≤ s
  · rw [if_pos h1]; omega
  · rw [if_neg h1]
    by_cases h2 : pa_lt b s = true
    · rw [if_pos h2]; exact ⟨fun _ => ⟨by omega, h2⟩, fun _ => rfl⟩
    · rw [if_neg h2]
      constructor
      · intro h; exfalso; split at h
        · split at h <;> omega
        · split at h <;> omega
      · intro h; exact absurd h.2 h2
theorem mr_k_lt {b : Nat → Nat} {n s : Nat} : mr_k b n s < 5 := by
  unfold mr_k
  repeat' split
  all_goals omega
/-- the reference stands at the TOKEN that begins at s -/
def mr_at (b : Nat → Nat) (n X s : Nat) (C : Nat → Nat → Int32) (L : Nat → Nat → Int64) : Prop := mr_B b n X C ∧ s ≤ n ∧ C 31 31 = Int32.ofNat s ∧ C 31 30 = Int32.ofNat (mr_k b n s) ∧ (mr_k b n s = 1 ∨ mr_k b n s = 2 ∨ mr_k b n s = 3 → L 31 32 = mr_v b n s) ∧ (¬ pa_tk b n s = 257 → C 31 33 = Int32.ofNat (pa_te b n s))
def mr_fr (C C' : Nat → Nat → Int32) : Prop := ∀ k j, ¬ (k = 31 ∧ (j = 30 ∨ j = 31 ∨ j = 33)) → C' k j = C k j
def mr_fl (L L' : Nat → Nat → Int64) : Prop := ∀ k j, ¬ (k = 31 ∧ j = 32) → L' k j = L k j
