/-! parts of the relation that a call leaves alone -/
theorem ux_ne {α : Type} {C : Nat → Nat → α} {k j : Nat} {v : α} {a c : Nat} (h : ¬ (a = k ∧ c = j)) : ux C k j v a c = C a c := by rw [ux_eq, if_neg h]
theorem ux_at {α : Type} {C : Nat → Nat → α} {k j : Nat} {v : α} : ux C k j v k j = v := by rw [ux_eq, if_pos ⟨rfl, rfl⟩]
theorem uk_ne {α : Type} {C : Nat → α} {k : Nat} {f : α} {a : Nat} (h : ¬ a = k) : uk C k f a = C a := by rw [uk_eq, if_neg h]
theorem uk_at {α : Type} {C : Nat → α} {k : Nat} {f : α} : uk C k f k = f := by rw [uk_eq, if_pos rfl]
section
variable {N N' : Nat → Nat → Nat} {x : Nat} {Z Z' : ly_Z} {C C' : Nat → Nat → Int32} {R R' : Nat → Nat → Option Nat}
/-- tags of the kinds lo .. hi stand as before -/
def rl_zt (x : Nat) (Z Z' : ly_Z) (lo hi : Nat) : Prop := ∀ t, lo ≤ t → t < hi → Z'.2 t = Z.2 t ∧ ∀ q k, ly_is x true Z q t k → ly_is x true Z' q t k
theorem rl_zt_rf {lo hi : Nat} : rl_zt x Z Z lo hi := fun _ _ _ => ⟨rfl, fun _ _ h => h⟩
theorem rl_st_fr (h : rl_st N x Z C R) (h8 : N 31 13 ≤ 8) (n1 : N' 31 13 = N 31 13) (n2 : ∀ j, N' 35 j = N 35 j ∧ N' 36 j = N 36 j) (c1 : ∀ j, C' 35 j = C 35 j ∧ C' 36 j = C 36 j) (c2 : ∀ k j, 1000 ≤ k → k < 2000 → C' k j = C k j) (r1 : ∀ j, R' 1 j = R 1 j) (hz : rl_zt x Z Z' 1000 2000) : rl_st N' x Z' C' R' := by
  intro i hi
  rw [n1] at hi
  obtain ⟨a1, a2, a3, a4, a5, a6, a7⟩ := h i hi
  obtain ⟨z1, z2⟩ := hz (i + 1000) (by omega) (by omega)
  refine ⟨by rw [r1, z1]; exact a1, by rw [z1]; exact z2 _ _ a2, fun p hp => by rw [(c1 _).1, (n2 _).1]; exact a3 p hp, by rw [(c1 _).2, (n2 _).2]; exact a4, by rw [(n2 _).2]; exact a5, by rw [c2 _ _ (by omega) (by omega), (n2 _).2]; exact a6, by rw [c2 _ _ (by omega) (by omega), (n2 _).1, (n2 _).1, (n2 _).1]; exact a7⟩
theorem rl_ha_fr (h : rl_ha N x Z C R) (h6 : N 31 17 ≤ 6) (n1 : N' 31 17 = N 31 17) (n0 : N 31 13 ≤ N' 31 13) (n2 : ∀ k j, 37 ≤ k → k ≤ 42 → N' k j = N k j) (c1 : ∀ k j, 37 ≤ k → k ≤ 42 → C' k j = C k j) (c2 : ∀ k j, 2000 ≤ k → k < 5000 → ¬ j = 7 → C' k j = C k j) (r1 : ∀ j, R' 2 j = R 2 j) (r2 : ∀ k j, 2000 ≤ k → k < 3000 → R' k j = R k j) (hz : rl_zt x Z Z' 2000 6000) : rl_ha N' x Z' C' R' := by
  intro i hi
  rw [n1] at hi
  obtain ⟨a1, a2, a3, a4, a5, a6, a7, a8, a9, a10, a11, a12, a13⟩ := h i hi
  obtain ⟨z1, y1⟩ := hz (i + 2000) (by omega) (by omega)
  obtain ⟨z2, y2⟩ := hz (i + 3000) (by omega) (by omega)
  obtain ⟨z3, y3⟩ := hz (i + 4000) (by omega) (by omega)
  obtain ⟨z4, y4⟩ := hz (i + 5000) (by omega) (by omega)
  refine ⟨by rw [r1, z1]; exact a1, by rw [z1]; exact y1 _ _ a2, by rw [z2]; exact y2 _ _ a3, by rw [z3]; exact y3 _ _ a4, by rw [z4]; exact y4 _ _ a5, by rw [r2 _ _ (by omega) (by omega), z2]; exact a6, by rw [r2 _ _ (by omega) (by omega), z3]; exact a7, by rw [r2 _ _ (by omega) (by omega), z4]; exact a8, ?_, ?_, ?_, ?_, fun k hk => ?_⟩
  · rw [c2 (i + 2000) 0 (by omega) (by omega) (by omega), c1 37 i (by omega) (by omega), n2 37 i (by omega) (by omega)]; exact a9
  · rw [c2 (i + 2000) 1 (by omega) (by omega) (by omega), c1 38 i (by omega) (by omega), n2 38 i (by omega) (by omega)]; exact a10
  · rw [c2 (i + 2000) 2 (by omega) (by omega) (by omega), c1 39 i (by omega) (by omega), n2 39 i (by omega) (by omega)]; exact a11
  · rw [c2 (i + 2000) 5 (by omega) (by omega) (by omega), c1 40 i (by omega) (by omega), n2 40 i (by omega) (by omega)]; exact a12
  · rw [n2 40 i (by omega) (by omega)] at hk
    have hk6 : k < 6 := by have := a12.2.2; omega
    rw [c2 (i + 3000) k (by omega) (by omega) (by omega), c2 (i + 4000) k (by omega) (by omega) (by omega), c1 41 _ (by omega) (by omega), c1 42 _ (by omega) (by omega), n2 41 _ (by omega) (by omega), n2 42 _ (by omega) (by omega)]
    obtain ⟨⟨b1, b2, b3⟩, b4⟩ := a13 k hk
    exact ⟨⟨b1, b2, by omega⟩, b4⟩
theorem rl_ni_fr (h : rl_ni N x Z C R) (h40 : N 31 27 ≤ 40) (h6 : N 31 17 ≤ 6) (n1 : N' 31 27 = N 31 27) (n0 : N 31 17 ≤ N' 31 17) (n2 : ∀ k j, 43 ≤ k → k ≤ 48 → N' k j = N k j) (c1 : ∀ k j, 43 ≤ k → k ≤ 48 → C' k j = C k j) (c2 : ∀ k j, 6000 ≤ k → k < 7000 → C' k j = C k j) (r1 : ∀ j, R' 3 j = R 3 j) (r2 : ∀ k j, 6000 ≤ k → k < 7000 → R' k j = R k j) (hz : rl_zt x Z Z' 6000 7000) (hz2 : ∀ t, t < N 31 17 → Z'.2 (t + 2000) = Z.2 (t + 2000)) : rl_ni N' x Z' C' R' := by
  intro i hi
  rw [n1] at hi
  obtain ⟨a1, a2, a3, a4, a5, a6, a7, a8, a9⟩ := h i hi
  obtain ⟨z1, y1⟩ := hz (i + 6000) (by omega) (by omega)
  refine ⟨by rw [r1, z1]; exact a1, by rw [z1]; exact y1 _ _ a2, by rw [r2 _ _ (by omega) (by omega), n2 44 i (by omega) (by omega), hz2 _ a5.2.2]; exact a3, ?_, ?_, ?_, ?_, ?_, ?_⟩
  · rw [c2 (i + 6000) 0 (by omega) (by omega), c1 43 i (by omega) (by omega), n2 43 i (by omega) (by omega)]; exact a4
  · rw [c2 (i + 6000) 2 (by omega) (by omega), c1 44 i (by omega) (by omega), n2 44 i (by omega) (by omega)]; exact ⟨a5.1, a5.2.1, by omega⟩
  · rw [c2 (i + 6000) 3 (by omega) (by omega), c1 45 i (by omega) (by omega), n2 45 i (by omega) (by omega)]; exact a6
  · rw [c2 (i + 6000) 4 (by omega) (by omega), c1 46 i (by omega) (by omega), n2 46 i (by omega) (by omega)]; exact a7
  · rw [c2 (i + 6000) 5 (by omega) (by omega), c1 47 i (by omega) (by omega), n2 47 i (by omega) (by omega)]; exact a8
  · rw [c2 (i + 6000) 6 (by omega) (by omega), c1 48 i (by omega) (by omega), n2 48 i (by omega) (by omega)]; exact a9
theorem rl_te1_fr {t : Nat} (ht : t < 6) (h : R 4 t = some (Z.2 (t + 7000)) ∧ mr_T (rl_b N t) (N 33 t) t C ∧ ∃ cl ce, pa_text (rl_b N t) (N 33 t) = .inl (cl, ce) ∧ tx_ok x true Z C R (Z.2 (t + 7000)) t cl ce) (n2 : ∀ j, j < 160 → N' 32 (160 * t + j) = N 32 (160 * t + j)) (n3 : N' 33 t = N 33 t) (c1 : ∀ j, j < 160 → C' 32 (160 * t + j) = C 32 (160 * t + j)) (c3 : C' 33 t = C 33 t) (c2 : ∀ j, C' (t + 8000) j = C (t + 8000) j ∧ C' (t + 9000) j = C (t + 9000) j) (r1 : R' 4 t = R 4 t) (r2 : ∀ u j, (u = t + 7000 ∨ u = t + 8000 ∨ u = t + 9000 ∨ u = t + 10000) → R' u j = R u j) (hz : ∀ u, (u = t + 7000 ∨ u = t + 8000 ∨ u = t + 9000 ∨ u = t + 10000) → Z'.2 u = Z.2 u ∧ ∀ q k, ly_is x true Z q u k → ly_is x true Z' q u k) : R' 4 t = some (Z'.2 (t + 7000)) ∧ mr_T (rl_b N' t) (N' 33 t) t C' ∧ ∃ cl ce, pa_text (rl_b N' t) (N' 33 t) = .inl (cl, ce) ∧ tx_ok x true Z' C' R' (Z'.2 (t + 7000)) t cl ce := by
  obtain ⟨a1, ⟨b1, b2, b3, b4, b5⟩, cl, ce, a3, a4⟩ := h
  have hb : ∀ j, j < 160 → rl_b N' t j = rl_b N t j := fun j hj => n2 j hj
  have hpa : pa_text (rl_b N' t) (N' 33 t) = pa_text (rl_b N t) (N 33 t) := by
    rw [n3]
    exact pa_text_eq (fun j hj => hb j (by omega))
  obtain ⟨z1, y1⟩ := hz (t + 7000) (by omega)
  refine ⟨by rw [r1, z1]; exact a1, ⟨b1, by rw [c3, n3]; exact b2, by rw [n3]; exact b3, fun j hj => ?_, fun j hj => ?_⟩, cl, ce, by rw [hpa]; exact a3, ?_⟩
  · rw [n3] at hj; rw [hb j (by omega)]; exact b4 j hj
  · rw [n3] at hj; rw [hb j (by omega), c1 j (by omega)]; exact b5 j hj
  · rw [z1]; exact tx_ok_keep a4 (fun a u k hu q => (hz u hu).2 a k q) c2 r2
theorem rl_te_fr (h : rl_te N x Z C R) (h6 : N 31 3 ≤ 6) (n1 : N' 31 3 = N 31 3) (n2 : ∀ j, N' 32 j = N 32 j ∧ N' 33 j = N 33 j) (c1 : ∀ j, C' 32 j = C 32 j ∧ C' 33 j = C 33 j) (c2 : ∀ k j, 8000 ≤ k → k < 10000 → C' k j = C k j) (r1 : ∀ j, R' 4 j = R 4 j) (r2 : ∀ k j, 7000 ≤ k → k < 11000 → R' k j = R k j) (hz : rl_zt x Z Z' 7000 11000) : rl_te N' x Z' C' R' := by
  intro t ht
  rw [n1] at ht
  exact rl_te1_fr (by omega) (h t ht) (fun j _ => (n2 _).1) (n2 _).2 (fun j _ => (c1 _).1) (c1 _).2 (fun j => ⟨c2 _ _ (by omega) (by omega), c2 _ _ (by omega) (by omega)⟩) (r1 _) (fun u j hu => r2 u j (by omega) (by omega)) (fun u hu => hz u (by omega) (by omega))
theorem rl_tp_fr (h : rl_tp N C) (n1 : N' 31 6 = N 31 6) (n2 : ∀ j, N' 34 j = N 34 j) (c1 : ∀ j, C' 8 j = C 8 j ∧ C' 34 j = C 34 j) : rl_tp N' C' := by
  intro j hj
  rw [n1] at hj
  rw [(c1 j).1, (c1 j).2, n2]
  exact h j hj
theorem rl_im_fr (h : rl_im N C) (h6 : N 31 17 ≤ 6) (n1 : ∀ j, 47 ≤ j → j ≤ 53 → N' 31 j = N 31 j) (n2 : ∀ j, N' 53 j = N 53 j) (n3 : ∀ i, i < N 31 17 → N 40 i ≤ N' 40 i) (n4 : ∀ i k, i < N 31 17 → k < N 40 i → N' 42 (6 * i + k) = N 42 (6 * i + k)) (n5 : N 31 27 ≤ N' 31 27) (n6 : N 31 17 ≤ N' 31 17) (n7 : N 31 3 ≤ N' 31 3) (n8 : N 31 13 ≤ N' 31 13) (c1 : ∀ j, 46 ≤ j → j ≤ 53 → C' 31 j = C 31 j) (c2 : ∀ j, 15 ≤ j → j ≤ 17 → C' 0 j = C 0 j) (c3 : ∀ j, C' 18 j = C 18 j ∧ C' 53 j = C 53 j) (c4 : ∀ i, i < N 31 17 → C' (i + 2000) 7 = C (i + 2000) 7) (c5 : ∀ i j, i < N 31 17 → C' (i + 5000) j = C (i + 5000) j) : rl_im N' C' := by
  rcases h with ⟨a1, a2⟩ | ⟨a1, a2, a3, a4, a5, a6, a7, a8, a9⟩
  · exact Or.inl ⟨by rw [c1 46 (by omega) (by omega)]; exact a1, by rw [c2 17 (by omega) (by omega)]; exact a2⟩
  · refine Or.inr ⟨by rw [c1 46 (by omega) (by omega)]; exact a1, ?_, ?_, ?_, ?_, ?_, ?_, ?_, fun i hi => ?_⟩
    · rw [c2 17 (by omega) (by omega), c1 48 (by omega) (by omega), n1 48 (by omega) (by omega)]; exact ⟨a2.1, a2.2.1, by omega⟩
    · rw [c2 16 (by omega) (by omega), c1 47 (by omega) (by omega), n1 47 (by omega) (by omega)]; exact ⟨a3.1, a3.2.1, by omega⟩
    · rw [c2 15 (by omega) (by omega), c1 53 (by omega) (by omega), n1 53 (by omega) (by omega)]; exact ⟨a4.1, a4.2.1, by omega⟩
    · rw [(c3 0).1, c1 49 (by omega) (by omega), n1 49 (by omega) (by omega)]; exact a5
    · rw [(c3 1).1, c1 50 (by omega) (by omega), n1 50 (by omega) (by omega)]; exact a6
    · rw [(c3 2).1, c1 51 (by omega) (by omega), n1 51 (by omega) (by omega)]; exact a7
    · rw [(c3 3).1, c1 52 (by omega) (by omega), n1 52 (by omega) (by omega)]; exact a8
    · rw [n1 47 (by omega) (by omega)] at hi
      have hi17 : i < N 31 17 := by have := a3.2.2; omega
      obtain ⟨⟨b1, b2, b3⟩, b4⟩ := a9 i hi
      refine ⟨⟨by rw [c4 i hi17, n2]; exact b1, by rw [(c3 _).2, n2]; exact b2, by rw [n2]; have := n3 i hi17; omega⟩, fun k hk => ?_⟩
      rw [n2] at hk
      obtain ⟨⟨e1, e2, e3⟩, e4⟩ := b4 k hk
      refine ⟨⟨by rw [c5 i k hi17, n2]; exact e1, by rw [(c3 _).2, n2]; exact e2, by rw [n2]; omega⟩, by rw [(c3 _).2, n4 i k hi17 (by omega)]; exact e4⟩
theorem rl_sh_fr (h : rl_sh x C R) (c1 : ∀ k j, 23 ≤ k → k ≤ 30 → C' k j = C k j) (c2 : ∀ k j, 54 ≤ k → k ≤ 57 → C' k j = C k j) (r1 : ∀ j, R' 5 j = R 5 j) : rl_sh x C' R' := by
  intro s hs
  obtain ⟨a1, a2⟩ := h s hs
  refine ⟨by rw [r1]; exact a1, ?_⟩
  unfold rl_sh1 at a2 ⊢
  rw [c1 (23 + 2 * s) 0 (by omega) (by omega), c2 54 s (by omega) (by omega), c2 55 s (by omega) (by omega), c1 (23 + 2 * s) 1 (by omega) (by omega), c2 56 s (by omega) (by omega)]
  rcases a2 with a2 | ⟨so, m, q1, q2, q3, q4, q5, q6, q7, q8⟩
  · exact Or.inl a2
  · exact Or.inr ⟨so, m, q1, q2, q3, q4, q5, q6, q7, fun j hj => by rw [c1 (24 + 2 * s) j (by omega) (by omega), c2 57 (40 * s + j) (by omega) (by omega)]; exact q8 j hj⟩
theorem rl_zt_fr {T : Nat → Prop} {L L' : Nat → Nat → Int64} {D D' : am_M} (hZ : tp_Z x Z D) (hf : ly_fr T x Z C L R D Z' C' L' R' D') {lo hi : Nat} (hT : ∀ t, lo ≤ t → t < hi → ¬ T t) : rl_zt x Z Z' lo hi := fun t h1 h2 => ⟨(hf.1 t (hT t h1 h2)).2.2.2, fun _ _ q => ly_is_fr q hZ hf (hT t h1 h2)⟩
theorem rl_u_fr {G : Nat → Value} {D D' : am_M} (h : rl_u G x D) (hD : ∀ q, q < x → D'.2 q = D.2 q) : rl_u G x D' := by
  obtain ⟨u0, h1, h2, h3⟩ := h
  exact ⟨u0, h1, h2, (hD u0 h2).trans h3⟩
end
