/-! THE RELATION of the class's cells to the reference's: N the reference's numbers -/
def rl_sc (N : Nat → Nat → Nat) (C : Nat → Nat → Int32) : Prop :=
  (C 0 5 = Int32.ofNat (N 31 13) ∧ C 31 13 = Int32.ofNat (N 31 13) ∧ N 31 13 ≤ 8) ∧
  (C 0 6 = Int32.ofNat (N 31 17) ∧ C 31 17 = Int32.ofNat (N 31 17) ∧ N 31 17 ≤ 6) ∧
  (C 0 7 = Int32.ofNat (N 31 27) ∧ C 31 27 = Int32.ofNat (N 31 27) ∧ N 31 27 ≤ 40) ∧
  (C 0 8 = Int32.ofNat (N 31 3) ∧ C 31 3 = Int32.ofNat (N 31 3) ∧ N 31 3 ≤ 6) ∧
  (C 0 10 = Int32.ofNat (N 31 4) ∧ C 31 4 = Int32.ofNat (N 31 4) ∧ N 31 4 < N 31 3) ∧
  (C 7 1 = Int32.ofNat (N 31 6) ∧ C 31 6 = Int32.ofNat (N 31 6) ∧ N 31 6 ≤ 160) ∧
  (C 6 0 = Int32.ofNat (N 31 7) ∧ C 31 7 = Int32.ofNat (N 31 7) ∧ 1 ≤ N 31 7 ∧ N 31 7 ≤ 999) ∧
  (C 6 1 = Int32.ofNat (N 31 8) ∧ C 31 8 = Int32.ofNat (N 31 8) ∧ N 31 8 ≤ 999) ∧
  (C 6 2 = Int32.ofNat (N 31 9) ∧ C 31 9 = Int32.ofNat (N 31 9) ∧ N 31 9 ≤ 999) ∧
  (C 6 3 = Int32.ofNat (N 31 10) ∧ C 31 10 = Int32.ofNat (N 31 10) ∧ N 31 10 ≤ 999)
def rl_st (N : Nat → Nat → Nat) (x : Nat) (Z : ly_Z) (C : Nat → Nat → Int32) (R : Nat → Nat → Option Nat) : Prop := ∀ i, i < N 31 13 →
  R 1 i = some (Z.2 (i + 1000)) ∧ ly_is x true Z (Z.2 (i + 1000)) (i + 1000) 1 ∧
  (∀ p, p < 3 → C 35 (3 * i + p) = Int32.ofNat (N 35 (3 * i + p)) ∧ N 35 (3 * i + p) ≤ 99) ∧
  C 36 i = Int32.ofNat (N 36 i) ∧ N 36 i ≤ 99 ∧ C (i + 1000) 1 = Int32.ofNat (N 36 i) ∧
  C (i + 1000) 0 = Int32.ofNat (10000 * N 35 (3 * i) + 100 * N 35 (3 * i + 1) + N 35 (3 * i + 2))
def rl_ha (N : Nat → Nat → Nat) (x : Nat) (Z : ly_Z) (C : Nat → Nat → Int32) (R : Nat → Nat → Option Nat) : Prop := ∀ i, i < N 31 17 →
  R 2 i = some (Z.2 (i + 2000)) ∧ ly_is x true Z (Z.2 (i + 2000)) (i + 2000) 2 ∧ ly_is x true Z (Z.2 (i + 3000)) (i + 3000) 3 ∧ ly_is x true Z (Z.2 (i + 4000)) (i + 4000) 4 ∧ ly_is x true Z (Z.2 (i + 5000)) (i + 5000) 5 ∧
  R (i + 2000) 3 = some (Z.2 (i + 3000)) ∧ R (i + 2000) 4 = some (Z.2 (i + 4000)) ∧ R (i + 2000) 6 = some (Z.2 (i + 5000)) ∧
  (C (i + 2000) 0 = Int32.ofNat (N 37 i) ∧ C 37 i = Int32.ofNat (N 37 i) ∧ 1 ≤ N 37 i ∧ N 37 i ≤ 99999) ∧
  (C (i + 2000) 1 = Int32.ofNat (N 38 i) ∧ C 38 i = Int32.ofNat (N 38 i) ∧ 2 ≤ N 38 i ∧ N 38 i ≤ 20) ∧
  (C (i + 2000) 2 = Int32.ofNat (N 39 i) ∧ C 39 i = Int32.ofNat (N 39 i) ∧ 2 ≤ N 39 i ∧ N 39 i ≤ 20) ∧
  (C (i + 2000) 5 = Int32.ofNat (N 40 i) ∧ C 40 i = Int32.ofNat (N 40 i) ∧ N 40 i ≤ 6) ∧
  (∀ k, k < N 40 i → (C (i + 3000) k = Int32.ofNat (N 41 (6 * i + k)) ∧ C 41 (6 * i + k) = Int32.ofNat (N 41 (6 * i + k)) ∧ N 41 (6 * i + k) < N 31 13) ∧ (C (i + 4000) k = Int32.ofNat (N 42 (6 * i + k)) ∧ C 42 (6 * i + k) = Int32.ofNat (N 42 (6 * i + k)) ∧ N 42 (6 * i + k) ≤ 9999))
def rl_ni (N : Nat → Nat → Nat) (x : Nat) (Z : ly_Z) (C : Nat → Nat → Int32) (R : Nat → Nat → Option Nat) : Prop := ∀ i, i < N 31 27 →
  R 3 i = some (Z.2 (i + 6000)) ∧ ly_is x true Z (Z.2 (i + 6000)) (i + 6000) 6 ∧ R (i + 6000) 1 = some (Z.2 (N 44 i + 2000)) ∧
  (C (i + 6000) 0 = Int32.ofNat (N 43 i) ∧ C 43 i = Int32.ofNat (N 43 i) ∧ N 43 i ≤ 5) ∧
  (C (i + 6000) 2 = Int32.ofNat (N 44 i) ∧ C 44 i = Int32.ofNat (N 44 i) ∧ N 44 i < N 31 17) ∧
  (C (i + 6000) 3 = Int32.ofNat (N 45 i) ∧ C 45 i = Int32.ofNat (N 45 i) ∧ N 45 i ≤ 2) ∧
  (C (i + 6000) 4 = Int32.ofNat (N 46 i) ∧ C 46 i = Int32.ofNat (N 46 i) ∧ N 46 i ≤ 999) ∧
  (C (i + 6000) 5 = Int32.ofNat (N 47 i) ∧ C 47 i = Int32.ofNat (N 47 i) ∧ N 47 i ≤ 99999) ∧
  (C (i + 6000) 6 = Int32.ofNat (N 48 i) ∧ C 48 i = Int32.ofNat (N 48 i) ∧ N 48 i ≤ 9)
/-- the bytes of TEXT t -/
def rl_b (N : Nat → Nat → Nat) (t : Nat) (j : Nat) : Nat := N 32 (160 * t + j)
def rl_te (N : Nat → Nat → Nat) (x : Nat) (Z : ly_Z) (C : Nat → Nat → Int32) (R : Nat → Nat → Option Nat) : Prop := ∀ t, t < N 31 3 →
  R 4 t = some (Z.2 (t + 7000)) ∧ mr_T (rl_b N t) (N 33 t) t C ∧ ∃ cl ce, pa_text (rl_b N t) (N 33 t) = .inl (cl, ce) ∧ tx_ok x true Z C R (Z.2 (t + 7000)) t cl ce
def rl_tp (N : Nat → Nat → Nat) (C : Nat → Nat → Int32) : Prop := ∀ j, j < N 31 6 → C 8 j = Int32.ofNat (N 34 j) ∧ C 34 j = Int32.ofNat (N 34 j) ∧ N 34 j < 256
def rl_im (N : Nat → Nat → Nat) (C : Nat → Nat → Int32) : Prop :=
  (C 31 46 = Int32.ofNat 0 ∧ C 0 17 = -Int32.ofNat 1) ∨ (C 31 46 = Int32.ofNat 1 ∧
  (C 0 17 = Int32.ofNat (N 31 48) ∧ C 31 48 = Int32.ofNat (N 31 48) ∧ N 31 48 ≤ N 31 27) ∧
  (C 0 16 = Int32.ofNat (N 31 47) ∧ C 31 47 = Int32.ofNat (N 31 47) ∧ N 31 47 ≤ N 31 17) ∧
  (C 0 15 = Int32.ofNat (N 31 53) ∧ C 31 53 = Int32.ofNat (N 31 53) ∧ N 31 53 < N 31 3) ∧
  (C 18 0 = Int32.ofNat (N 31 49) ∧ C 31 49 = Int32.ofNat (N 31 49) ∧ 1 ≤ N 31 49 ∧ N 31 49 ≤ 999) ∧
  (C 18 1 = Int32.ofNat (N 31 50) ∧ C 31 50 = Int32.ofNat (N 31 50) ∧ N 31 50 ≤ 999) ∧
  (C 18 2 = Int32.ofNat (N 31 51) ∧ C 31 51 = Int32.ofNat (N 31 51) ∧ N 31 51 ≤ 999) ∧
  (C 18 3 = Int32.ofNat (N 31 52) ∧ C 31 52 = Int32.ofNat (N 31 52) ∧ N 31 52 ≤ 999) ∧
  ∀ i, i < N 31 47 → (C (i + 2000) 7 = Int32.ofNat (N 53 (72 + i)) ∧ C 53 (72 + i) = Int32.ofNat (N 53 (72 + i)) ∧ N 53 (72 + i) ≤ N 40 i) ∧ ∀ k, k < N 53 (72 + i) → (C (i + 5000) k = Int32.ofNat (N 53 (6 * i + k)) ∧ C 53 (6 * i + k) = Int32.ofNat (N 53 (6 * i + k)) ∧ N 53 (6 * i + k) < N 31 13) ∧ C 53 (36 + 6 * i + k) = Int32.ofNat (N 42 (6 * i + k)))
def rl_sh1 (C : Nat → Nat → Int32) (s : Nat) : Prop := (C (23 + 2 * s) 0 = -Int32.ofNat 1 ∧ C 54 s = Int32.ofNat 0) ∨ ∃ so m, so ≤ 2 ∧ m ≤ 40 ∧ C 54 s = Int32.ofNat 1 ∧ C (23 + 2 * s) 0 = Int32.ofNat so ∧ C 55 s = Int32.ofNat so ∧ C (23 + 2 * s) 1 = Int32.ofNat m ∧ C 56 s = Int32.ofNat m ∧ ∀ j, j < m → C (24 + 2 * s) j = C 57 (40 * s + j)
def rl_sh (x : Nat) (C : Nat → Nat → Int32) (R : Nat → Nat → Option Nat) : Prop := ∀ s, s < 4 → R 5 s = some (x + (23 + 2 * s)) ∧ rl_sh1 C s
def rl_u (G : Nat → Value) (x : Nat) (D : am_M) : Prop := ∃ u0, G 0 = .ref u0 ∧ u0 < x ∧ D.2 u0 = some (.inl (5, 6, .inl am_und))
def rl (G : Nat → Value) (N : Nat → Nat → Nat) (x : Nat) (Z : ly_Z) (C : Nat → Nat → Int32) (R : Nat → Nat → Option Nat) (D : am_M) : Prop :=
  rl_sc N C ∧ rl_st N x Z C R ∧ rl_ha N x Z C R ∧ rl_ni N x Z C R ∧ rl_te N x Z C R ∧ rl_tp N C ∧ rl_im N C ∧ rl_sh x C R ∧ tp_Z x Z D ∧ tp_S G x Z D ∧ x + 58 ≤ D.1 ∧ rl_u G x D
/-- what the relation doesn't look at -/
def rl_scr (k j : Nat) : Prop := k = 7 ∧ ¬ j = 1 ∨ k = 9 ∨ k = 10 ∨ k = 12 ∨ k = 17 ∨ 10000 ≤ k ∨ k = 31 ∧ (28 ≤ j ∧ j ≤ 37 ∨ 41 ≤ j ∧ j ≤ 43) ∨ k = 49 ∨ k = 52
theorem tx_ok_keep {x : Nat} {bb : Bool} {Z Z' : ly_Z} {C C' : Nat → Nat → Int32} {R R' : Nat → Nat → Option Nat} {q t : Nat} {cl ce : List Int32} (h : tx_ok x bb Z C R q t cl ce) (hz : ∀ a u k, (u = t + 7000 ∨ u = t + 8000 ∨ u = t + 9000 ∨ u = t + 10000) → ly_is x bb Z a u k → ly_is x bb Z' a u k) (hC : ∀ j, C' (t + 8000) j = C (t + 8000) j ∧ C' (t + 9000) j = C (t + 9000) j) (hR : ∀ u j, (u = t + 7000 ∨ u = t + 8000 ∨ u = t + 9000 ∨ u = t + 10000) → R' u j = R u j) : tx_ok x bb Z' C' R' q t cl ce := by
  obtain ⟨a1, a2, a3, h1, h2, h3, h4, h5, h6, h7, h8, h9, h10, h11, h12, h13, h14⟩ := h
  refine ⟨a1, a2, a3, hz _ _ _ (by omega) h1, hz _ _ _ (by omega) h2, hz _ _ _ (by omega) h3, hz _ _ _ (by omega) h4, ?_, ?_, ?_, ?_, ?_, ?_, ?_, ?_, h13, h14⟩
  · rw [hR _ _ (by omega)]; exact h5
  · rw [hR _ _ (by omega)]; exact h6
  · rw [hR _ _ (by omega)]; exact h7
  · rw [hR _ _ (by omega)]; exact h8
  · rw [hR _ _ (by omega)]; exact h9
  · rw [hR _ _ (by omega)]; exact h10
  · intro j hj; rw [(hC j).1]; exact h11 j hj
  · intro j hj; rw [(hC j).2]; exact h12 j hj
theorem rl_keep {G : Nat → Value} {N : Nat → Nat → Nat} {x : Nat} {Z : ly_Z} {C C' : Nat → Nat → Int32} {R R' : Nat → Nat → Option Nat} {D : am_M} (h : rl G N x Z C R D) (hC : ∀ k j, ¬ rl_scr k j → C' k j = C k j) (hR : ∀ k j, ¬ k = 11 → R' k j = R k j) : rl G N x Z C' R' D := by
  obtain ⟨h1, h2, h3, h4, h5, h6, h7, h8, h9⟩ := h
  refine ⟨?_, ?_, ?_, ?_, ?_, ?_, ?_, ?_, h9⟩
  · unfold rl_sc at h1 ⊢
    rw [hC 0 5 (by unfold rl_scr; omega), hC 31 13 (by unfold rl_scr; omega), hC 0 6 (by unfold rl_scr; omega), hC 31 17 (by unfold rl_scr; omega), hC 0 7 (by unfold rl_scr; omega), hC 31 27 (by unfold rl_scr; omega), hC 0 8 (by unfold rl_scr; omega), hC 31 3 (by unfold rl_scr; omega), hC 0 10 (by unfold rl_scr; omega), hC 31 4 (by unfold rl_scr; omega), hC 7 1 (by unfold rl_scr; omega), hC 31 6 (by unfold rl_scr; omega), hC 6 0 (by unfold rl_scr; omega), hC 31 7 (by unfold rl_scr; omega), hC 6 1 (by unfold rl_scr; omega), hC 31 8 (by unfold rl_scr; omega), hC 6 2 (by unfold rl_scr; omega), hC 31 9 (by unfold rl_scr; omega), hC 6 3 (by unfold rl_scr; omega), hC 31 10 (by unfold rl_scr; omega)]
    exact h1
  · intro i hi
    have hi8 : i < 8 := by have := h1.1.2.2; omega
    obtain ⟨a1, a2, a3, a4, a5, a6, a7⟩ := h2 i hi
    refine ⟨by rw [hR 1 i (by omega)]; exact a1, a2, fun p hp => ?_, by rw [hC 36 i (by unfold rl_scr; omega)]; exact a4, a5, by rw [hC (i + 1000) 1 (by unfold rl_scr; omega)]; exact a6, by rw [hC (i + 1000) 0 (by unfold rl_scr; omega)]; exact a7⟩
    rw [hC 35 (3 * i + p) (by unfold rl_scr; omega)]
    exact a3 p hp
  · intro i hi
    have hi8 : i < 6 := by have := h1.2.1.2.2; omega
    obtain ⟨a1, a2, a3, a4, a5, a6, a7, a8, a9, a10, a11, a12, a13⟩ := h3 i hi
    refine ⟨by rw [hR 2 i (by omega)]; exact a1, a2, a3, a4, a5, by rw [hR (i + 2000) 3 (by omega)]; exact a6, by rw [hR (i + 2000) 4 (by omega)]; exact a7, by rw [hR (i + 2000) 6 (by omega)]; exact a8, ?_, ?_, ?_, ?_, fun k hk => ?_⟩
    · rw [hC (i + 2000) 0 (by unfold rl_scr; omega), hC 37 i (by unfold rl_scr; omega)]; exact a9
    · rw [hC (i + 2000) 1 (by unfold rl_scr; omega), hC 38 i (by unfold rl_scr; omega)]; exact a10
    · rw [hC (i + 2000) 2 (by unfold rl_scr; omega), hC 39 i (by unfold rl_scr; omega)]; exact a11
    · rw [hC (i + 2000) 5 (by unfold rl_scr; omega), hC 40 i (by unfold rl_scr; omega)]; exact a12
    · rw [hC (i + 3000) k (by unfold rl_scr; omega), hC 41 (6 * i + k) (by unfold rl_scr; omega), hC (i + 4000) k (by unfold rl_scr; omega), hC 42 (6 * i + k) (by unfold rl_scr; omega)]
      exact a13 k hk
  · intro i hi
    have hi8 : i < 40 := by have := h1.2.2.1.2.2; omega
    obtain ⟨a1, a2, a3, a4, a5, a6, a7, a8, a9⟩ := h4 i hi
    refine ⟨by rw [hR 3 i (by omega)]; exact a1, a2, by rw [hR (i + 6000) 1 (by omega)]; exact a3, ?_, ?_, ?_, ?_, ?_, ?_⟩
    · rw [hC (i + 6000) 0 (by unfold rl_scr; omega), hC 43 i (by unfold rl_scr; omega)]; exact a4
    · rw [hC (i + 6000) 2 (by unfold rl_scr; omega), hC 44 i (by unfold rl_scr; omega)]; exact a5
    · rw [hC (i + 6000) 3 (by unfold rl_scr; omega), hC 45 i (by unfold rl_scr; omega)]; exact a6
    · rw [hC (i + 6000) 4 (by unfold rl_scr; omega), hC 46 i (by unfold rl_scr; omega)]; exact a7
    · rw [hC (i + 6000) 5 (by unfold rl_scr; omega), hC 47 i (by unfold rl_scr; omega)]; exact a8
    · rw [hC (i + 6000) 6 (by unfold rl_scr; omega), hC 48 i (by unfold rl_scr; omega)]; exact a9
  · intro t ht
    have ht8 : t < 6 := by have := h1.2.2.2.1.2.2; omega
    obtain ⟨a1, a2, cl, ce, a3, a4⟩ := h5 t ht
    obtain ⟨b1, b2, b3, b4, b5⟩ := a2
    refine ⟨by rw [hR 4 t (by omega)]; exact a1, ⟨b1, by rw [hC 33 t (by unfold rl_scr; omega)]; exact b2, b3, b4, fun j hj => by rw [hC 32 (160 * t + j) (by unfold rl_scr; omega)]; exact b5 j hj⟩, cl, ce, a3, tx_ok_keep a4 (fun _ _ _ _ q => q) (fun j => ⟨hC _ _ (by unfold rl_scr; omega), hC _ _ (by unfold rl_scr; omega)⟩) (fun u j hu => hR u j (by omega))⟩
  · intro j hj
    rw [hC 8 j (by unfold rl_scr; omega), hC 34 j (by unfold rl_scr; omega)]
    exact h6 j hj
  · rcases h7 with ⟨a1, a2⟩ | ⟨a1, a2, a3, a4, a5, a6, a7, a8, a9⟩
    · exact Or.inl ⟨by rw [hC 31 46 (by unfold rl_scr; omega)]; exact a1, by rw [hC 0 17 (by unfold rl_scr; omega)]; exact a2⟩
    · refine Or.inr ⟨by rw [hC 31 46 (by unfold rl_scr; omega)]; exact a1, ?_, ?_, ?_, ?_, ?_, ?_, ?_, fun i hi => ?_⟩
      · rw [hC 0 17 (by unfold rl_scr; omega), hC 31 48 (by unfold rl_scr; omega)]; exact a2
      · rw [hC 0 16 (by unfold rl_scr; omega), hC 31 47 (by unfold rl_scr; omega)]; exact a3
      · rw [hC 0 15 (by unfold rl_scr; omega), hC 31 53 (by unfold rl_scr; omega)]; exact a4
      · rw [hC 18 0 (by unfold rl_scr; omega), hC 31 49 (by unfold rl_scr; omega)]; exact a5
      · rw [hC 18 1 (by unfold rl_scr; omega), hC 31 50 (by unfold rl_scr; omega)]; exact a6
      · rw [hC 18 2 (by unfold rl_scr; omega), hC 31 51 (by unfold rl_scr; omega)]; exact a7
      · rw [hC 18 3 (by unfold rl_scr; omega), hC 31 52 (by unfold rl_scr; omega)]; exact a8
      · have hi6 : i < 6 := by have := a3.2.2; have := h1.2.1.2.2; omega
        obtain ⟨b1, b2⟩ := a9 i hi
        refine ⟨by rw [hC (i + 2000) 7 (by unfold rl_scr; omega), hC 53 (72 + i) (by unfold rl_scr; omega)]; exact b1, fun k hk => ?_⟩
        rw [hC (i + 5000) k (by unfold rl_scr; omega), hC 53 (6 * i + k) (by unfold rl_scr; omega), hC 53 (36 + 6 * i + k) (by unfold rl_scr; omega)]
        exact b2 k hk
  · intro s hs
    obtain ⟨a1, a2⟩ := h8 s hs
    refine ⟨by rw [hR 5 s (by omega)]; exact a1, ?_⟩
    unfold rl_sh1 at a2 ⊢
    rw [hC (23 + 2 * s) 0 (by unfold rl_scr; omega), hC 54 s (by unfold rl_scr; omega), hC 55 s (by unfold rl_scr; omega), hC (23 + 2 * s) 1 (by unfold rl_scr; omega), hC 56 s (by unfold rl_scr; omega)]
    rcases a2 with a2 | ⟨so, m, q1, q2, q3, q4, q5, q6, q7, q8⟩
    · exact Or.inl a2
    · exact Or.inr ⟨so, m, q1, q2, q3, q4, q5, q6, q7, fun j hj => by rw [hC (24 + 2 * s) j (by unfold rl_scr; omega), hC 57 (40 * s + j) (by unfold rl_scr; omega)]; exact q8 j hj⟩
/-- one call of the class and the same of the reference -/
def rl_pair (G : Nat → Value) (x K1 K2 : Nat) (args : List Value) : Prop := ∀ (N : Nat → Nat → Nat) (Z : ly_Z) (C : Nat → Nat → Int32) (L : Nat → Nat → Int64) (R : Nat → Nat → Option Nat) (D : am_M), rl G N x Z C R D → ∃ (v : Value) (N' : Nat → Nat → Nat) (Z1 : ly_Z) (C1 : Nat → Nat → Int32) (L1 : Nat → Nat → Int64) (R1 : Nat → Nat → Option Nat) (D1 : am_M) (Z2 : ly_Z) (C2 : Nat → Nat → Int32) (L2 : Nat → Nat → Int64) (R2 : Nat → Nat → Option Nat) (D2 : am_M), am_ex G 100 K1 (.ref x :: args) (am_mk x true Z C L R D) = some (some v, am_mk x true Z1 C1 L1 R1 D1) ∧ am_ex G 100 K2 (.ref (x + 31) :: args) (am_mk x true Z1 C1 L1 R1 D1) = some (some v, am_mk x true Z2 C2 L2 R2 D2) ∧ rl G N' x Z2 C2 R2 D2 ∧ D2.1 ≤ D.1 + 10 ∧ (∀ q, q < x → Z2.1 q = none) ∧ ∀ q, q < x → D2.2 q = D.2 q
