/-! the law's whole body -/
def st_N : Nat → Nat → Nat := fun k j => if k = 31 then st_n j else if k = 32 then t0B.getD j 0 else if k = 33 then 40 else 0
section
variable {G : Nat → Value} {x q : Nat} {Z : ly_Z} {C C' : Nat → Nat → Int32} {R : Nat → Nat → Option Nat} {F F' : Nat → Option am_C}
theorem tx_true (hZ : ∀ a, x + 23 ≤ a → Z.1 a = none) {t : Nat} {cl ce : List Int32} (h : tx_ok x false Z C R q t cl ce) (hC : ∀ k j, 1000 ≤ k → C' k j = C k j) : tx_ok x true Z C' (st_R2 R) q t cl ce := by
  have ks : ∀ a u k, ly_is x false Z a u k → ly_is x true Z a u k := by
    rintro a u k ⟨⟨g1, g2, g3⟩, g4, g5⟩
    refine ⟨⟨?_, g2, g3⟩, g4, g5⟩
    rintro ⟨p1, p2⟩
    simp only [ly_st, Bool.true_and, Bool.or_eq_true, Bool.and_eq_true, decide_eq_true_eq] at p2
    rcases p2 with p2 | p2
    · refine g1 ⟨p1, ?_⟩
      unfold ly_st
      rw [decide_eq_true p2]
      rfl
    · rw [hZ _ (by omega)] at g2
      cases g2
  have kr : ∀ k j, 1000 ≤ k → st_R2 R k j = R k j := fun k j hk => if_neg (by omega)
  obtain ⟨a1, a2, a3, h1, h2, h3, h4, h5, h6, h7, h8, h9, h10, h11, h12, h13, h14⟩ := h
  refine ⟨a1, a2, a3, ks _ _ _ h1, ks _ _ _ h2, ks _ _ _ h3, ks _ _ _ h4, ?_, ?_, ?_, ?_, ?_, ?_, ?_, ?_, h13, h14⟩
  · rw [kr _ _ (by omega)]; exact h5
  · rw [kr _ _ (by omega)]; exact h6
  · rw [kr _ _ (by omega)]; exact h7
  · rw [kr _ _ (by omega)]; exact h8
  · rw [kr _ _ (by omega)]; exact h9
  · rw [kr _ _ (by omega)]; exact h10
  · intro j hj; rw [hC _ _ (by omega)]; exact h11 j hj
  · intro j hj; rw [hC _ _ (by omega)]; exact h12 j hj
theorem rl_first (hS : tp_S G x st_Z (x + 19, F)) (hu : rl_u G x (x + 19, F)) (hZ : tp_Z x Z (x + 23, F')) (hF : ∀ a, a < x → F' a = F a) (htx : tx_ok x false Z C R q 0 t0l t0e) (hR4 : R 4 0 = some q) (hR5 : ∀ s, s < 4 → R 5 s = some (x + (23 + 2 * s))) (h71 : C 7 1 = Int32.ofNat 0) (h6 : ∀ j, C 6 j = st_C 6 j) (h0 : ∀ j, C 0 j = if j = 8 then Int32.ofNat 1 else st_C 0 j) (k1 : ∀ k j, ¬ (k = 31 ∨ k = 32 ∨ k = 33) → C' k j = st_C2 C k j) (k31 : ∀ j, C' 31 j = Int32.ofNat (st_n j)) (k33 : C' 33 0 = Int32.ofNat 40) (k32 : ∀ j, j < 40 → C' 32 j = Int32.ofNat (t0B.getD j 0)) : rl G st_N x Z C' (st_R2 R) (x + 58, F') := by
  have lo : ∀ k j, ¬ (23 ≤ k ∧ k < 58) → C' k j = C k j := fun k j hk => (k1 k j (by omega)).trans (if_neg hk)
  have lr : ∀ k j, ¬ (23 ≤ k ∧ k < 58) → st_R2 R k j = R k j := fun k j hk => if_neg hk
  have c0 : ∀ j, ¬ j = 8 → C' 0 j = st_C 0 j := fun j hj => by rw [lo 0 j (by omega), h0, if_neg hj]
  have c8 : C' 0 8 = Int32.ofNat 1 := by rw [lo 0 8 (by omega), h0, if_pos rfl]
  have c6 : ∀ j, C' 6 j = st_C 6 j := fun j => by rw [lo 6 j (by omega), h6]
  have hZ23 : ∀ a, x + 23 ≤ a → Z.1 a = none := hZ.2.2
  refine ⟨?_, fun i hi => absurd hi (Nat.not_lt_zero i), fun i hi => absurd hi (Nat.not_lt_zero i), fun i hi => absurd hi (Nat.not_lt_zero i), ?_, fun i hi => absurd hi (Nat.not_lt_zero i), Or.inl ⟨k31 46, (c0 17 (by decide)).trans rfl⟩, ?_, ?_, ?_, Nat.le_refl _, ?_⟩
  · exact ⟨⟨(c0 5 (by decide)).trans rfl, k31 13, by decide⟩, ⟨(c0 6 (by decide)).trans rfl, k31 17, by decide⟩, ⟨(c0 7 (by decide)).trans rfl, k31 27, by decide⟩, ⟨c8, k31 3, by decide⟩, ⟨(c0 10 (by decide)).trans rfl, k31 4, by decide⟩, ⟨(lo 7 1 (by omega)).trans h71, k31 6, by decide⟩, ⟨(c6 0).trans rfl, k31 7, by decide, by decide⟩, ⟨(c6 1).trans rfl, k31 8, by decide⟩, ⟨(c6 2).trans rfl, k31 9, by decide⟩, ⟨(c6 3).trans rfl, k31 10, by decide⟩⟩
  · intro t ht
    have ht : t < 1 := ht
    have e : t = 0 := by omega
    subst e
    have hq := htx
    obtain ⟨a1, a2, a3, hq, -⟩ := hq
    have hz : Z.2 (0 + 7000) = q := hq.2.1
    refine ⟨by rw [lr 4 0 (by omega), hz]; exact hR4, ⟨by decide, k33, by decide, fun j hj => ?_, fun j hj => ?_⟩, t0l, t0e, ?_, ?_⟩
    · have hj : j < 40 := hj
      show t0B.getD (160 * 0 + j) 0 < 256
      rw [Nat.mul_zero, Nat.zero_add]
      exact t0B_lt j hj
    · have hj : j < 40 := hj
      show C' 32 (160 * 0 + j) = Int32.ofNat (t0B.getD (160 * 0 + j) 0)
      rw [Nat.mul_zero, Nat.zero_add]
      exact k32 j hj
    · have e2 : pa_text (rl_b st_N 0) 40 = pa_text (fun j => t0B.getD j 0) 40 := pa_text_eq (fun j hj => by
        show t0B.getD (160 * 0 + j) 0 = t0B.getD j 0
        rw [Nat.mul_zero, Nat.zero_add])
      exact e2.trans t0B_text
    · rw [hz]
      exact tx_true hZ23 htx (fun k j hk => lo k j (by omega))
  · intro s hs
    refine ⟨by rw [lr 5 s (by omega)]; exact hR5 s hs, Or.inl ⟨?_, ?_⟩⟩
    · rw [k1 _ _ (by omega)]
      unfold st_C2
      rw [if_pos (by omega), if_pos (by omega)]
    · rw [k1 _ _ (by omega)]
      unfold st_C2
      rw [if_pos (by omega), if_neg (by omega)]
  · exact ⟨Nat.le_add_right _ _, hZ.2.1, fun a ha => hZ23 a (by have ha : x + 58 ≤ a := ha; omega)⟩
  · obtain ⟨g1, -, g3⟩ := hS
    refine ⟨g1, hZ.2.1, fun i hi => ?_⟩
    obtain ⟨k, v, e1, e2, e3, e4, e5⟩ := g3 i hi
    exact ⟨k, v, e1, e2, e3, (hF k e2).trans e4, (hF v e3).trans e5⟩
  · obtain ⟨u0, e1, e2, e3⟩ := hu
    exact ⟨u0, e1, e2, (hF u0 e2).trans e3⟩
end
theorem am_pure {G : Nat → Value} {M : am_M} {b L u0 : Nat} {xs : Nat → Int32} {adK adV : Nat → Nat} (hS : am_Start G M b L u0 xs adK adV) (hL : L ≤ 384) : ∃ M' : am_M, am_run G 100 K_Law_law (0, [some (.ref b), none, none, none], [], M) = some (some (.int 1), M') ∧ M'.1 ≤ M.1 + 7000 := by
  obtain ⟨s1, s2, s3, s4, s5, s6, s7⟩ := hS
  have lt : ∀ a e, M.2 a = some e → a < M.1 := fun a e h => by
    by_cases hlt : a < M.1
    · exact hlt
    · rw [s7 a (by omega)] at h; cases h
  have hM : M = mwf M.1 0 (fun _ => .inl (0, 0, .inl (fun _ => Int32.ofNat 0))) M.2 := mw_0.symm
  have hT : tp_S G M.1 st_Z (M.1 + 19, M.2) := ⟨s2, fun _ _ => rfl, fun i hi => ⟨adK i, adV i, s3 i hi, lt _ _ (s6 i hi).1, lt _ _ (s6 i hi).2, (s6 i hi).1, (s6 i hi).2⟩⟩
  have hu : rl_u G M.1 (M.1 + 19, M.2) := ⟨u0, s1, lt _ _ s5, s5⟩
  have hb := lt _ _ s4
  generalize M.2 = F at *
  generalize M.1 = x at *
  obtain ⟨Z, C, L1, R, F', f8, q, e1, e2, e3, e4, e5, e6, e7, e8, e9, e10⟩ := x_H_init (G := G) (f := fun _ => .inl (0, 0, .inl (fun _ => Int32.ofNat 0))) hT
  have hZ23 : ∀ a, x + 23 ≤ a → Z.1 a = none := e2.2.2
  obtain ⟨C', g1, g2, g3, g4, g5⟩ := x_M_init (G := G) (x := x) (Z := Z) (C := C) (L := L1) (R := R) (F := F') hZ23 e10
  have h := rl_first hT hu e2 e3 e4 e5 e6 e7 e8 e9 g2 g3 g4 g5
  have hq : (am_mk x true Z C' (st_L2 L1) (st_R2 R) (x + 58, F')).2 b = some (.inl (5, L, .inl xs)) := by
    rw [ly_geto hb (e2.2.1 b hb)]
    exact (e3 b hb).trans s4
  obtain ⟨M', w1, w2⟩ := l_law (G := G) (x := x) (b := b) (n := L) (xs := xs) hb hL 64 0 st_N Z C' (st_L2 L1) (st_R2 R) (x + 58, F') (by omega) (by omega) h hq
  have w2 : M'.1 ≤ x + 58 + 10 * 64 := w2
  refine ⟨M', ?_, by omega⟩
  have e31 : x + 23 + 8 = x + 31 := rfl
  simp only [st_M, e31] at g1
  rw [i3n_1, ← w1, hM]
  simp only [r_Law_law_0, r_Law_law_3, r_Law_law_4, r_Law_law_7, r_Law_law_7_k, r_Law_law_8, r_Law_law_11, r_Law_law_12, r_Law_law_15, r_Law_law_15_k, r_Law_law_16, r_Law_law_17, r_Law_law_17_k, ly_k0, ly_k31, i3n_0, i3n_1, i3n_2, i3n_3, i3n_4, i3n_5, i3n_6, i3n_7, i3n_8, i3n_9, i3n_10, i3n_11, i3n_12, i3n_13, i3n_14, i3n_15, i3n_16, i3n_17, i3n_18, i3n_19, i3n_20, i3n_21, i3n_22, i3n_23, i3n_24, i3n_25, i3n_26, i3n_27, i3n_28, i3n_29, i3n_31, i3n_32, l6n_0, l6n_1, l6n_4294967295, am_kf_s, am_km_s, am_kn_s, am_k_v, am_k_0, am_isr_r, am_isr_n, am_isr_v, am_sw_0, am_sw_i, am_sw_l, am_sw_r, am_sw_n, am_sw_v, am_ct_i, am_ct_r, am_ct_n, am_c1_o, am_c1_n, am_c1_i, am_c1_r, am_c1_v, am_mk_1, lc_lt, lc_gt, lc_eq, lc_le, lc_ge, i01_eq, i01_ok, ite_not, true_or, or_true, true_and, and_true, false_or, or_false, false_and, and_false, if_true, if_false, not_true_eq_false, not_false_eq_true, eq_self, Nat.reduceAdd, Nat.reduceLeDiff, Nat.reduceLT, Nat.reduceEqDiff, Nat.reduceMul, Nat.reduceSub, Nat.reduceDiv, Nat.reduceMod, reduceCtorEq, Nat.zero_le, i3_le, i3_lt, i3_eq, i3_eqN, i3_leN, i3_Nle, i3_ltN, i3_NleN, i3_NeqN, i3_Neq, i3_NltN, i3_Nlt, l6_le, l6_lt, l6_eq, l6_leN, l6_Nle, l6_ltN, l6_Nlt, l6_eqN, l6_Neq, mw_1, mw_add, bl_1, bl_add hZ23, Nat.add_zero, e1, g1, e31, ↓reduceIte]
