/-! TOKENS, as functions of the bytes b and their number n -/
def pa_run (P : Nat → Bool) (n : Nat) : Nat → Nat → Nat
  | 0, p => p
  | k + 1, p => if p < n ∧ P p = true then pa_run P n k (p + 1) else p
/-- the end of a row of bytes with P, from p on -/
def pa_end (P : Nat → Bool) (n p : Nat) : Nat := pa_run P n (n - p) p
theorem pa_end_y {P : Nat → Bool} {n p : Nat} (h : p < n) (hp : P p = true) : pa_end P n p = pa_end P n (p + 1) := by
  unfold pa_end
  obtain ⟨k, hk⟩ : ∃ k, n - p = k + 1 := ⟨n - p - 1, by omega⟩
  rw [hk, pa_run, if_pos ⟨h, hp⟩, show n - (p + 1) = k by omega]
theorem pa_end_n {P : Nat → Bool} {n p : Nat} (h : ¬ (p < n ∧ P p = true)) : pa_end P n p = p := by
  unfold pa_end
  cases hk : n - p with
  | zero => rfl
  | succ k => rw [pa_run, if_neg h]
theorem pa_end_spec {P : Nat → Bool} {n p : Nat} (h : p ≤ n) : p ≤ pa_end P n p ∧ pa_end P n p ≤ n ∧ (∀ j, p ≤ j → j < pa_end P n p → P j = true) ∧ ¬ (pa_end P n p < n ∧ P (pa_end P n p) = true) := by
  generalize hk : n - p = k
  induction k generalizing p with
  | zero =>
    have : p = n := by omega
    subst this
    rw [pa_end_n (by omega)]
    exact ⟨Nat.le_refl _, Nat.le_refl _, fun j h1 h2 => by omega, fun h => by omega⟩
  | succ k ih =>
    by_cases hp : p < n ∧ P p = true
    · rw [pa_end_y hp.1 hp.2]
      obtain ⟨h1, h2, h3, h4⟩ := ih (p := p + 1) (by omega) (by omega)
      refine ⟨by omega, h2, fun j hj1 hj2 => ?_, h4⟩
      by_cases e : j = p
      · subst e; exact hp.2
      · exact h3 j (by omega) hj2
    · rw [pa_end_n hp]
      exact ⟨Nat.le_refl _, h, fun j h1 h2 => by omega, hp⟩
def pa_bl (b : Nat → Nat) (p : Nat) : Bool := decide (b p = 32 ∨ b p = 10)
def pa_lt (b : Nat → Nat) (p : Nat) : Bool := decide (97 ≤ b p ∧ b p ≤ 122)
def pa_dg (b : Nat → Nat) (p : Nat) : Bool := decide (48 ≤ b p ∧ b p ≤ 57)
/-- blanks are skipped -/
def pa_sk (b : Nat → Nat) (n p : Nat) : Nat := pa_end (pa_bl b) n p
/-- the words' letters: NAMES 0 .. 5, KEYS 6 .. 10 -/
def pa_words : List (List Nat) := [[107, 105, 110, 100], [104, 97, 108, 108], [112, 105, 116, 99, 104], [109, 97, 110, 121], [116, 105, 109, 101], [116, 105, 114, 101, 100], [108, 97, 116, 101], [108, 101, 97, 118, 101], [111, 114], [97, 110, 100], [110, 111, 116]]
def pa_sub (b : Nat → Nat) (s k : Nat) : List Nat := (List.range k).map (fun j => b (s + j))
def pa_word (l : List Nat) : Nat := pa_words.findIdx (fun w => decide (w = l))
/-- a NUMBER out of its first k digits -/
def pa_num (b : Nat → Nat) (s : Nat) : Nat → Nat
  | 0 => 0
  | k + 1 => pa_num b s k * 10 + (b (s + k) - 48)
def pa_sign (c : Nat) : Bool := decide (c = 40 ∨ c = 41 ∨ c = 59 ∨ c = 43 ∨ c = 45 ∨ c = 42 ∨ c = 60 ∨ c = 61)
/-- where the TOKEN that begins at s ends -/
def pa_te (b : Nat → Nat) (n s : Nat) : Nat := if n ≤ s then s else if pa_lt b s = true then pa_end (pa_lt b) n s else if pa_dg b s = true then pa_end (pa_dg b) n s else s + 1
def pa_nx (b : Nat → Nat) (n s : Nat) : Nat := pa_sk b n (pa_te b n s)
/-- the TOKEN's number: the kind of the class's own: 256 END, 257 BROKEN, 258 NUMBER, 259 NAME, 300 and on KEYS, else the sign -/
def pa_tk (b : Nat → Nat) (n s : Nat) : Nat := if n ≤ s then 256 else if pa_lt b s = true then (if pa_word (pa_sub b s (pa_end (pa_lt b) n s - s)) < 6 then 259 else if pa_word (pa_sub b s (pa_end (pa_lt b) n s - s)) < 11 then 300 + pa_word (pa_sub b s (pa_end (pa_lt b) n s - s)) else 257) else if pa_dg b s = true then (if 4 < pa_end (pa_dg b) n s - s then 257 else 258) else if pa_sign (b s) = true then b s else 257
/-- of a NUMBER, or of a NAME -/
def pa_tv (b : Nat → Nat) (n s : Nat) : Nat := if pa_lt b s = true then pa_word (pa_sub b s (pa_end (pa_lt b) n s - s)) else pa_num b s (min 4 (pa_end (pa_dg b) n s - s))
theorem pa_sub_len {b : Nat → Nat} {s k : Nat} : (pa_sub b s k).length = k := by rw [pa_sub, List.length_map, List.length_range]
theorem pa_sub_get {b : Nat → Nat} {s k j : Nat} (h : j < k) : (pa_sub b s k)[j]? = some (b (s + j)) := by
  rw [pa_sub, List.getElem?_map, List.getElem?_range h]
  rfl
theorem pa_sub_eq {b : Nat → Nat} {s k : Nat} {l : List Nat} : pa_sub b s k = l ↔ l.length = k ∧ ∀ j, j < k → l.getD j 0 = b (s + j) := by
  constructor
  · intro h
    subst h
    refine ⟨pa_sub_len, fun j hj => ?_⟩
    rw [List.getD_eq_getElem?_getD, pa_sub_get hj]
    rfl
  · rintro ⟨h1, h2⟩
    apply List.ext_getElem?
    intro j
    by_cases hj : j < k
    · rw [pa_sub_get hj, ← h2 j hj, List.getD_eq_getElem?_getD, List.getElem?_eq_getElem (by omega)]
      rfl
    · rw [List.getElem?_eq_none (by rw [pa_sub_len]; omega), List.getElem?_eq_none (by omega)]
theorem pa_word_lt {l : List Nat} {w : Nat} (hw : w < 11) : pa_word l = w ↔ pa_words.getD w [] = l := by
  have hN : ∀ i j : Fin 11, pa_words.getD i.val [] = pa_words.getD j.val [] → i = j := by decide +kernel
  have hlen : pa_words.length = 11 := rfl
  constructor
  · intro h
    have h2 : pa_words.findIdx (fun w => decide (w = l)) < pa_words.length := by
      show pa_word l < 11
      omega
    have h3 := List.findIdx_getElem (w := h2)
    have h4 := of_decide_eq_true h3
    rw [List.getD_eq_getElem?_getD, List.getElem?_eq_getElem (by omega)]
    have e : (pa_words[w]'(by omega)) = pa_words[pa_words.findIdx (fun w => decide (w = l))] := by
      congr 1
      exact h.symm
    rw [e]
    exact h4
  · intro h
    have h2 : pa_words.findIdx (fun w => decide (w = l)) < pa_words.length := by
      apply List.findIdx_lt_length_of_exists
      refine ⟨pa_words.getD w [], ?_, decide_eq_true h⟩
      rw [List.getD_eq_getElem?_getD, List.getElem?_eq_getElem (by omega)]
      exact List.getElem_mem _
    have h3 := of_decide_eq_true (List.findIdx_getElem (w := h2))
    have h5 : pa_words.getD (pa_words.findIdx (fun w => decide (w = l))) [] = pa_words.getD w [] := by
      rw [h, List.getD_eq_getElem?_getD, List.getElem?_eq_getElem h2]
      exact h3
    have := hN ⟨_, h2⟩ ⟨w, hw⟩ h5
    exact congrArg Fin.val this
theorem pa_word_le {l : List Nat} : pa_word l ≤ 11 := List.findIdx_le_length
theorem ux_ux {α : Type} {C : Nat → Nat → α} {k j : Nat} {v w : α} : ux (ux C k j v) k j w = ux C k j w := by
  funext a c
  simp only [ux_eq]
  split <;> rfl
theorem ux_id {α : Type} {C : Nat → Nat → α} {k j : Nat} {v : α} (h : C k j = v) : ux C k j v = C := by
  funext a c
  simp only [ux_eq]
  split
  · next h2 => rw [h2.1, h2.2, h]
  · rfl
theorem ux_co {α : Type} {C : Nat → Nat → α} {k j k' j' : Nat} {v w : α} (h : ¬ (k = k' ∧ j = j')) : ux (ux C k j v) k' j' w = ux (ux C k' j' w) k j v := by
  funext a c
  simp only [ux_eq]
  by_cases h1 : a = k ∧ c = j
  · have h2 : ¬ (a = k' ∧ c = j') := by
      rintro ⟨rfl, rfl⟩
      exact h ⟨h1.1.symm, h1.2.symm⟩
    rw [if_neg h2, if_pos h1, if_pos h1]
  · rw [if_neg h1, if_neg h1]
