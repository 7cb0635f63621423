/-! what is read rests on the bytes that there are -/
section
variable {b b' : Nat → Nat} {n : Nat}
theorem pa_end_eq {P P' : Nat → Bool} (h : ∀ j, j < n → P j = P' j) : ∀ k p, n - p = k → pa_end P n p = pa_end P' n p := by
  intro k
  induction k with
  | zero =>
    intro p hp
    rw [pa_end_n (P := P) (p := p) (by omega), pa_end_n (P := P') (p := p) (by omega)]
  | succ k ih =>
    intro p hp
    by_cases hP : P p = true
    · rw [pa_end_y (P := P) (p := p) (by omega) hP, pa_end_y (P := P') (p := p) (by omega) (by rw [← h p (by omega)]; exact hP)]
      exact ih (p + 1) (by omega)
    · rw [pa_end_n (P := P) (fun e => hP e.2), pa_end_n (P := P') (p := p) (fun e => hP (by rw [h p (by omega)]; exact e.2))]
theorem pa_lt_eq (h : ∀ j, j < n → b j = b' j) {j : Nat} (hj : j < n) : pa_lt b j = pa_lt b' j := by unfold pa_lt; rw [h j hj]
theorem pa_dg_eq (h : ∀ j, j < n → b j = b' j) {j : Nat} (hj : j < n) : pa_dg b j = pa_dg b' j := by unfold pa_dg; rw [h j hj]
theorem pa_bl_eq (h : ∀ j, j < n → b j = b' j) {j : Nat} (hj : j < n) : pa_bl b j = pa_bl b' j := by unfold pa_bl; rw [h j hj]
theorem pa_sk_eq (h : ∀ j, j < n → b j = b' j) {p : Nat} : pa_sk b n p = pa_sk b' n p := pa_end_eq (fun _ hj => pa_bl_eq h hj) _ p rfl
theorem pa_sub_eqb (h : ∀ j, j < n → b j = b' j) {s k : Nat} (hk : s + k ≤ n) : pa_sub b s k = pa_sub b' s k := by
  unfold pa_sub
  apply List.map_congr_left
  intro j hj
  exact h _ (by have := List.mem_range.mp hj; omega)
theorem pa_num_eq (h : ∀ j, j < n → b j = b' j) {s : Nat} : ∀ k, s + k ≤ n → pa_num b s k = pa_num b' s k := by
  intro k
  induction k with
  | zero => intro _; rfl
  | succ k ih => intro hk; rw [pa_num, pa_num, ih (by omega), h (s + k) (by omega)]
theorem pa_te_eq (h : ∀ j, j < n → b j = b' j) {s : Nat} : pa_te b n s = pa_te b' n s := by
  unfold pa_te
  by_cases h1 : n ≤ s
  · rw [if_pos h1, if_pos h1]
  · rw [if_neg h1, if_neg h1, pa_lt_eq h (by omega), pa_dg_eq h (by omega), pa_end_eq (fun _ hj => pa_lt_eq h hj) _ s rfl, pa_end_eq (fun _ hj => pa_dg_eq h hj) _ s rfl]
theorem pa_nx_eq (h : ∀ j, j < n → b j = b' j) {s : Nat} : pa_nx b n s = pa_nx b' n s := by
  unfold pa_nx
  rw [pa_te_eq h, pa_sk_eq h]
theorem pa_tk_eq (h : ∀ j, j < n → b j = b' j) {s : Nat} : pa_tk b n s = pa_tk b' n s := by
  unfold pa_tk
  by_cases h1 : n ≤ s
  · rw [if_pos h1, if_pos h1]
  · obtain ⟨g1, g2, -, -⟩ := pa_end_spec (P := pa_lt b') (show s ≤ n by omega)
    rw [if_neg h1, if_neg h1, pa_lt_eq h (by omega), pa_dg_eq h (by omega), pa_end_eq (fun _ hj => pa_lt_eq h hj) _ s rfl, pa_end_eq (fun _ hj => pa_dg_eq h hj) _ s rfl, pa_sub_eqb h (s := s) (k := pa_end (pa_lt b') n s - s) (by omega), h s (by omega)]
theorem pa_tv_eq (h : ∀ j, j < n → b j = b' j) {s : Nat} (hs : s < n) : pa_tv b n s = pa_tv b' n s := by
  unfold pa_tv
  obtain ⟨g1, g2, -, -⟩ := pa_end_spec (P := pa_lt b') (show s ≤ n by omega)
  obtain ⟨g3, g4, -, -⟩ := pa_end_spec (P := pa_dg b') (show s ≤ n by omega)
  rw [pa_lt_eq h hs, pa_end_eq (fun _ hj => pa_lt_eq h hj) _ s rfl, pa_end_eq (fun _ hj => pa_dg_eq h hj) _ s rfl, pa_sub_eqb h (s := s) (k := pa_end (pa_lt b') n s - s) (by omega), pa_num_eq h (min 4 (pa_end (pa_dg b') n s - s)) (by omega)]
theorem pa_loop_eq (h : ∀ j, j < n → b j = b' j) {test : Nat → Bool} {op : Nat → Int32} {sub sub' : Nat → pa_R} (hs : ∀ s, sub s = sub' s) : ∀ f c t, pa_loop b n test op sub f c t = pa_loop b' n test op sub' f c t := by
  intro f
  induction f with
  | zero => intro c t; rfl
  | succ f ih =>
    intro c t
    rw [pa_loop, pa_loop, pa_tk_eq h, pa_nx_eq h, hs]
    split
    · split
      · rw [ih]
      · rfl
    · rfl
theorem pa_seq_eq (h : ∀ j, j < n → b j = b' j) {test : Nat → Bool} {op : Nat → Int32} {sub sub' : Nat → pa_R} (hs : ∀ s, sub s = sub' s) (s : Nat) : pa_seq b n test op sub s = pa_seq b' n test op sub' s := by
  unfold pa_seq
  rw [hs]
  split
  · rw [pa_loop_eq h hs]
  · rfl
theorem pa_one_eq (h : ∀ j, j < n → b j = b' j) {ok : Bool} {pE pE' pO pO' : Nat → pa_R} (hE : ∀ s, pE s = pE' s) (hO : ∀ s, pO s = pO' s) (s : Nat) : pa_one b n ok pE pO s = pa_one b' n ok pE' pO' s := by
  unfold pa_one
  rw [← pa_tk_eq h]
  by_cases h1 : pa_tk b n s = 258
  · rw [if_pos h1, if_pos h1, pa_tv_eq h (pa_tk_end (by rw [h1]; decide)), pa_nx_eq h]
  · rw [if_neg h1, if_neg h1]
    by_cases h2 : pa_tk b n s = 259
    · rw [if_pos h2, if_pos h2, pa_tv_eq h (pa_tk_end (by rw [h2]; decide)), pa_nx_eq h]
    · rw [if_neg h2, if_neg h2, pa_nx_eq h, hE, hO]
      split
      · rfl
      · split
        · rfl
        · cases hc : pE' (pa_nx b' n s) with
          | inr e => rfl
          | inl q =>
            obtain ⟨c, t⟩ := q
            simp only
            rw [pa_tk_eq h, pa_nx_eq h]
theorem pa_sum_eq (h : ∀ j, j < n → b j = b' j) {one one' : Nat → pa_R} (ho : ∀ s, one s = one' s) (s : Nat) : pa_sum b n one s = pa_sum b' n one' s := pa_seq_eq h (fun s => pa_seq_eq h ho s) s
theorem pa_not_eq (h : ∀ j, j < n → b j = b' j) {ok : Bool} {pN pN' sum sum' : Nat → pa_R} (hN : ∀ s, pN s = pN' s) (hS : ∀ s, sum s = sum' s) (s : Nat) : pa_not b n ok pN sum s = pa_not b' n ok pN' sum' s := by
  unfold pa_not
  rw [pa_tk_eq h, pa_nx_eq h, hN, hS]
  split
  · rfl
  · cases hc : sum' s with
    | inr e => rfl
    | inl q =>
      obtain ⟨c, t⟩ := q
      simp only
      rw [pa_tk_eq h, pa_nx_eq h, hS]
theorem pa_or_eq (h : ∀ j, j < n → b j = b' j) {nt nt' : Nat → pa_R} (ho : ∀ s, nt s = nt' s) (s : Nat) : pa_or b n nt s = pa_or b' n nt' s := pa_seq_eq h (fun s => pa_seq_eq h ho s) s
theorem pa_lv_eq (h : ∀ j, j < n → b j = b' j) : ∀ k, (∀ s, (pa_lv b n k).1 s = (pa_lv b' n k).1 s) ∧ (∀ s, (pa_lv b n k).2.1 s = (pa_lv b' n k).2.1 s) ∧ ∀ s, (pa_lv b n k).2.2 s = (pa_lv b' n k).2.2 s := by
  intro k
  induction k with
  | zero =>
    have h1 : ∀ s, pa_one b n false .inr .inr s = pa_one b' n false .inr .inr s := pa_one_eq h (fun _ => rfl) (fun _ => rfl)
    have h2 := fun s => pa_not_eq h (ok := false) (pN := .inr) (pN' := .inr) (fun _ => rfl) (pa_sum_eq h h1) s
    exact ⟨pa_or_eq h h2, h1, h2⟩
  | succ k ih =>
    obtain ⟨i1, i2, i3⟩ := ih
    have h1 := pa_one_eq h (ok := true) i1 i2
    have h2 := fun s => pa_not_eq h (ok := true) i3 (pa_sum_eq h h1) s
    exact ⟨pa_or_eq h h2, h1, h2⟩
theorem pa_part_eq (h : ∀ j, j < n → b j = b' j) {key s : Nat} : pa_part b n key s = pa_part b' n key s := by
  unfold pa_part
  rw [pa_tk_eq h, pa_nx_eq h, (pa_lv_eq h 5).1]
  split
  · cases hc : (pa_lv b' n 5).1 (pa_nx b' n s) with
    | inr e => rfl
    | inl q =>
      obtain ⟨c, t⟩ := q
      simp only
      rw [pa_tk_eq h, pa_nx_eq h]
  · rfl
theorem pa_text_eq (h : ∀ j, j < n → b j = b' j) : pa_text b n = pa_text b' n := by
  unfold pa_text
  rw [pa_sk_eq h, pa_part_eq h]
  cases hc : pa_part b' n 306 (pa_sk b' n 0) with
  | inr e => rfl
  | inl q =>
    obtain ⟨c, t⟩ := q
    simp only
    rw [pa_part_eq h]
    cases hd : pa_part b' n 307 t with
    | inr e => rfl
    | inl q =>
      obtain ⟨c', t'⟩ := q
      simp only
      rw [pa_tk_eq h]
end
