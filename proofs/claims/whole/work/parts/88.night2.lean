/-! night: both sides -/
section
variable {G : Nat → Value} {x : Nat}
theorem rl_nights {N N' : Nat → Nat → Nat} {Z Z1 : ly_Z} {C C1 C2 : Nat → Nat → Int32} {L L1 : Nat → Nat → Int64} {R R1 : Nat → Nat → Option Nat} {D D1 : am_M} (h : rl G N x Z C R D) (hF : ly_fr nT x Z C L R D Z1 C1 L1 R1 D1) (h0 : ∀ j, ¬ j = 7 → C1 0 j = C 0 j) (hci : ci N' x Z1 C1 R1 D1) (c1 : ∀ a j, ¬ (a = 31 ∧ j = 27 ∨ 43 ≤ a ∧ a ≤ 48) → C2 a j = C1 a j) (hmi : mi N' C2) (nn : ∀ a j, ¬ (a = 31 ∧ j = 27 ∨ 43 ≤ a ∧ a ≤ 48) → N' a j = N a j) (h27 : N 31 27 ≤ N' 31 27) : rl G N' x Z1 C2 R1 D1 := by
  have c2 : ∀ a j, ¬ (a = 31 ∧ j = 27 ∨ 43 ≤ a ∧ a ≤ 48 ∨ a = 0 ∧ j = 7 ∨ 6000 ≤ a ∧ a < 7000 ∨ a = 3) → C2 a j = C a j := fun a j q => by
    rw [c1 a j (by omega)]
    by_cases ha : a = 0
    · subst ha; exact h0 j (by omega)
    · rw [(hF.1 a (by unfold nT; omega)).1]
  have rr : ∀ a j, ¬ (a = 0 ∨ a = 3 ∨ 6000 ≤ a ∧ a < 7000) → R1 a j = R a j := fun a j q => by rw [(hF.1 a q).2.2.1]
  have hz := h.2.2.2.2.2.2.2.2.1
  have zt : ∀ lo hi : Nat, 7000 ≤ lo ∨ 4 ≤ lo ∧ hi ≤ 6000 → rl_zt x Z Z1 lo hi := fun lo hi hh => rl_zt_fr hz hF (fun t q1 q2 => by unfold nT; omega)
  have hci2 : ci N' x Z1 C2 R1 D1 := by
    obtain ⟨⟨a1, a2⟩, a3, ⟨a4, a5⟩, a6, a7, a8⟩ := hci
    refine ⟨by rw [c1 0 6 (by omega)]; exact ⟨a1, a2⟩, a3, by rw [c1 0 7 (by omega)]; exact ⟨a4, a5⟩, a6, a7, fun i hi => ?_⟩
    rw [c1 _ 0 (by omega), c1 _ 2 (by omega), c1 _ 3 (by omega), c1 _ 4 (by omega), c1 _ 5 (by omega), c1 _ 6 (by omega)]
    exact a8 i hi
  obtain ⟨hs, hst, hha, hni, hte, htp, him, hsh, hZ, hS, h58, hu⟩ := h
  exact ⟨by
          obtain ⟨q1, q2, q3, q4, q5, q6, q7, q8, q9, q10⟩ := hs
          exact ⟨by rw [c2 0 5 (by omega), c2 31 13 (by omega), nn 31 13 (by omega)]; exact q1, by rw [c2 0 6 (by omega), c2 31 17 (by omega), nn 31 17 (by omega)]; exact q2, ⟨by rw [c1 0 7 (by omega)]; exact (hci.2.2.1).1, hmi.2.1.1, hmi.2.1.2⟩, by rw [c2 0 8 (by omega), c2 31 3 (by omega), nn 31 3 (by omega)]; exact q4, by rw [c2 0 10 (by omega), c2 31 4 (by omega), nn 31 4 (by omega), nn 31 3 (by omega)]; exact q5, by rw [c2 7 1 (by omega), c2 31 6 (by omega), nn 31 6 (by omega)]; exact q6, by rw [c2 6 0 (by omega), c2 31 7 (by omega), nn 31 7 (by omega)]; exact q7, by rw [c2 6 1 (by omega), c2 31 8 (by omega), nn 31 8 (by omega)]; exact q8, by rw [c2 6 2 (by omega), c2 31 9 (by omega), nn 31 9 (by omega)]; exact q9, by rw [c2 6 3 (by omega), c2 31 10 (by omega), nn 31 10 (by omega)]; exact q10⟩, rl_st_fr hst hs.1.2.2 (nn _ _ (by omega)) (fun j => ⟨nn _ _ (by omega), nn _ _ (by omega)⟩) (fun j => ⟨c2 _ _ (by omega), c2 _ _ (by omega)⟩) (fun k j q1 q2 => c2 _ _ (by omega)) (fun j => rr _ _ (by omega)) (zt _ _ (by omega)), rl_ha_fr hha hs.2.1.2.2 (nn _ _ (by omega)) (Nat.le_of_eq (nn 31 13 (by omega)).symm) (fun k j q1 q2 => nn _ _ (by omega)) (fun k j q1 q2 => c2 _ _ (by omega)) (fun k j q1 q2 q3 => c2 _ _ (by omega)) (fun j => rr _ _ (by omega)) (fun k j q1 q2 => rr _ _ (by omega)) (zt _ _ (by omega)), rl_ni_of hci2 hmi, rl_te_fr hte hs.2.2.2.1.2.2 (nn _ _ (by omega)) (fun j => ⟨nn _ _ (by omega), nn _ _ (by omega)⟩) (fun j => ⟨c2 _ _ (by omega), c2 _ _ (by omega)⟩) (fun k j q1 q2 => c2 _ _ (by omega)) (fun j => rr _ _ (by omega)) (fun k j q1 q2 => rr _ _ (by omega)) (zt _ _ (by omega)), rl_tp_fr htp (nn _ _ (by omega)) (fun j => nn _ _ (by omega)) (fun j => ⟨c2 _ _ (by omega), c2 _ _ (by omega)⟩), rl_im_fr him hs.2.1.2.2 (fun j q1 q2 => nn _ _ (by omega)) (fun j => nn _ _ (by omega)) (fun i q => (Nat.le_of_eq (nn 40 i (by omega)).symm)) (fun i k q1 q2 => nn _ _ (by omega)) h27 (Nat.le_of_eq (nn 31 17 (by omega)).symm) (Nat.le_of_eq (nn 31 3 (by omega)).symm) (Nat.le_of_eq (nn 31 13 (by omega)).symm) (fun j q1 q2 => c2 _ _ (by omega)) (fun j q1 q2 => c2 _ _ (by omega)) (fun j => ⟨c2 _ _ (by omega), c2 _ _ (by omega)⟩) (fun i q => by have := hs.2.1.2.2; exact c2 _ _ (by omega)) (fun i j q => by have := hs.2.1.2.2; exact c2 _ _ (by omega)), rl_sh_fr hsh (fun k j q1 q2 => c2 _ _ (by omega)) (fun k j q1 q2 => c2 _ _ (by omega)) (fun j => rr _ _ (by omega)), hci.2.2.2.1, tp_S_fr hS hF hci.2.2.2.1, hci.2.2.2.2.1, rl_u_fr hu hF.2.2.2⟩
theorem J_night {a0 a1 a2 a3 a4 : Int32} : rl_pair G x K_H_night K_M_night [.int a0, .int a1, .int a2, .int a3, .int a4] := by
  intro N Z C L R D h
  have hz := h.2.2.2.2.2.2.2.2.1
  by_cases hv : nv N a0 a1 a2 a3 a4
  · by_cases hf : N 31 27 = 40
    · exact ⟨.int (-Int32.ofNat 4), N, Z, C, L, R, D, Z, C, L, R, D, c_H_night_full (d := 97) (ci_of h) hv hf, c_M_night_full (d := 96) (mi_of h) hv hf, h, by omega, hz.2.1, fun _ _ => rfl⟩
    · have h40 := h.1.2.2.1.2.2
      obtain ⟨v0, ⟨w, rfl, hw⟩, v2, v3, v4⟩ := hv
      obtain ⟨k, hk, rfl⟩ := i3_rng (by decide) v0
      obtain ⟨m, hm, rfl⟩ := i3_rng (by decide) v2
      obtain ⟨t, ht, rfl⟩ := i3_rng (by decide) v3
      obtain ⟨r, hr, rfl⟩ := i3_rng (by decide) v4
      obtain ⟨Z1, C1, L1, R1, D1, e1, hF, f0, hD1, hci⟩ := c_H_night (G := G) (d := 97) (L := L) (ci_of h) hk hw hm ht hr (by omega)
      have hmi1 : mi N C1 := by
        obtain ⟨⟨b1, b2⟩, ⟨b3, b4⟩, b5⟩ := mi_of h
        have cc : ∀ a j, 31 ≤ a → a < 60 → C1 a j = C a j := fun a j q1 q2 => by rw [(hF.1 a (by unfold nT; omega)).1]
        refine ⟨by rw [cc 31 17 (by omega) (by omega)]; exact ⟨b1, b2⟩, by rw [cc 31 27 (by omega) (by omega)]; exact ⟨b3, b4⟩, fun i hi => ?_⟩
        rw [cc 43 i (by omega) (by omega), cc 44 i (by omega) (by omega), cc 45 i (by omega) (by omega), cc 46 i (by omega) (by omega), cc 47 i (by omega) (by omega), cc 48 i (by omega) (by omega)]
        exact b5 i hi
      obtain ⟨C2, e2, f2, hmi⟩ := c_M_night (G := G) (d := 96) (x := x) (Z := Z1) (L := L1) (R := R1) (D := D1) hmi1 hk hw hm ht hr (by omega)
      exact ⟨_, nN N k w m t r, Z1, C1, L1, R1, D1, Z1, C2, L1, R1, D1, e1, e2, rl_nights h hF f0 hci f2 hmi (fun a j q => nN_ne (by omega)) (by rw [nN_at.1]; omega), by omega, hci.2.2.2.1.2.1, hF.2.2.2⟩
  · exact ⟨.int (-Int32.ofNat 2), N, Z, C, L, R, D, Z, C, L, R, D, c_H_night_bad (d := 97) (ci_of h) hv, c_M_night_bad (d := 96) (mi_of h) hv, h, by omega, hz.2.1, fun _ _ => rfl⟩
end
