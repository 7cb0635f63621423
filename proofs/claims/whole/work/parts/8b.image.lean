/-! image, back -/
theorem cp_any {M : am_M} {a0 a n0 n1 sp dp m : Nat} {f g : Nat → Int32} (h0 : M.2 a0 = some (.inl (0, n0, .inl f))) (h1 : M.2 a = some (.inl (0, n1, .inl g))) (l0 : sp + m ≤ n0) (l1 : dp + m ≤ n1) (b0 : n0 < 1000) (b1 : n1 < 1000) : am_cp M a0 (Int32.ofNat sp) a (Int32.ofNat dp) (Int32.ofNat m) = some (am_set M a (.inl (0, n1, .inl (va_cpy f g sp dp m)))) := by
  unfold am_cp
  rw [h0, h1]
  simp only [i3_clamp (show sp < 2147483648 by omega), i3_clamp (show dp < 2147483648 by omega), i3_clamp (show m < 2147483648 by omega)]
  rw [if_pos ⟨trivial, trivial, ly_nn (by omega), ly_nn (by omega), ly_nn (by omega), l0, l1⟩]
theorem va_cpy_0 {f g : Nat → Int32} {m : Nat} : va_cpy f g 0 0 m = fun k => if k < m then f k else g k := by
  funext k
  simp only [va_cpy, Nat.zero_le, true_and, Nat.zero_add, Nat.sub_zero]
section
variable {G : Nat → Value} {x : Nat}
theorem k_H_hallAt {d i n q : Nat} {Z : ly_Z} {C : Nat → Nat → Int32} {L : Nat → Nat → Int64} {R : Nat → Nat → Option Nat} {D : am_M} (s1 : C 0 6 = Int32.ofNat n) (s2 : n ≤ 6) (hi : i < n) (hr : R 2 i = some q) : am_ex G (d + 1) K_H_hallAt [.ref x, .int (Int32.ofNat i)] (am_mk x true Z C L R D) = some (some (.ref q), am_mk x true Z C L R D) := by
  have b1 : i < 2147483648 := by omega
  have b2 : n < 2147483648 := by omega
  have b3 : ¬ i < 0 := by omega
  have b4 : ¬ n ≤ i := by omega
  have b5 : ¬ 6 ≤ i := by omega
  have b6 : i < 6 := by omega
  simp only [e_H_hallAt, r_H_hallAt_0, r_H_hallAt_1, r_H_hallAt_4, r_H_hallAt_5, r_H_hallAt_6, r_H_hallAt_9, r_H_hallAt_12, r_H_hallAt_13, r_H_hallAt_14, r_H_hallAt_17, r_H_hallAt_18, r_H_hallAt_21, r_H_hallAt_22, r_H_hallAt_25, r_H_hallAt_26, r_H_hallAt_27, r_H_hallAt_30, r_H_hallAt_31, ly_g0_6, ly_g0_1, ly_n2, ly_r2, ly_w2, i3n_0, i3n_1, l6n_0, l6n_1, am_kf_s, am_km_s, am_kn_s, am_k_v, am_k_0, am_isr_r, am_isr_n, am_isr_v, am_sw_0, am_sw_i, am_sw_l, am_sw_r, am_sw_n, am_sw_v, am_ct_i, am_ct_r, am_ct_n, am_c1_o, am_c1_n, am_c1_i, am_c1_r, am_c1_v, am_mk_1, lc_lt, lc_gt, lc_eq, lc_le, lc_ge, i01_eq, i01_ok, ite_not, true_or, or_true, true_and, and_true, false_or, or_false, false_and, and_false, if_true, if_false, not_true_eq_false, not_false_eq_true, eq_self, Nat.reduceAdd, Nat.reduceLeDiff, Nat.reduceLT, Nat.reduceEqDiff, Nat.reduceMul, Nat.reduceSub, Nat.reduceDiv, Nat.reduceMod, reduceCtorEq, Nat.zero_le, i3_le, i3_lt, i3_eq, i3_eqN, i3_leN, i3_Nle, i3_ltN, i3_NleN, i3_NeqN, i3_Neq, i3_NltN, i3_Nlt, l6_le, l6_lt, l6_eq, l6_leN, l6_Nle, l6_ltN, l6_Nlt, l6_eqN, l6_Neq, s1, b1, b2, b3, b4, b5, b6, hr, va_rf_s]
theorem x_Ha_keepSurfaces {d i q a3 a5 : Nat} {Z : ly_Z} {C : Nat → Nat → Int32} {L : Nat → Nat → Int64} {R : Nat → Nat → Option Nat} {D : am_M} (h2 : ly_is x true Z q (i + 2000) 2) (h3 : ly_is x true Z a3 (i + 3000) 3) (h5 : ly_is x true Z a5 (i + 5000) 5) (r3 : R (i + 2000) 3 = some a3) (r6 : R (i + 2000) 6 = some a5) : am_ex G (d + 1) K_Ha_keepSurfaces [.ref q] (am_mk x true Z C L R D) = some (none, am_mk x true Z (ux (uk C (i + 5000) (fun k => if k < 6 then C (i + 3000) k else C (i + 5000) k)) (i + 2000) 7 (C (i + 2000) 5)) L R D) := by
  have hd2 := h2.2.2
  have g3 := fun C => (ly_dg2_3 (C := C) (L := L) (R := R) (D := D) h2).trans (by rw [r3, va_rf_s])
  have g6 := fun C => (ly_dg2_6 (C := C) (L := L) (R := R) (D := D) h2).trans (by rw [r6, va_rf_s])
  have gs := fun C => ly_dg2_5 (C := C) (L := L) (R := R) (D := D) h2
  have gn := ly_dn3 (C := C) (L := L) (R := R) (D := D) h3
  have hc := cp_any (sp := 0) (dp := 0) (m := 6) (ly_dc3 (C := C) (L := L) (R := R) (D := D) h3) (ly_dc5 (C := C) (L := L) (R := R) (D := D) h5) (by decide) (by decide) (by decide) (by decide)
  have hset := ly_ds (C := C) (L := L) (R := R) (D := D) (f := va_cpy (C (i + 3000)) (C (i + 5000)) 0 0 6) (g := L (i + 5000)) (r := R (i + 5000)) h5
  rw [uk_self, uk_self, va_cpy_0] at hset
  rw [va_cpy_0] at hc
  have hc2 := hc.trans (congrArg some hset)
  have hp := fun C v => ly_dp2_7 (C := C) (L := L) (R := R) (D := D) (v := v) h2
  have hk : ∀ j, uk C (i + 5000) (fun k => if k < 6 then C (i + 3000) k else C (i + 5000) k) (i + 2000) j = C (i + 2000) j := fun j => by rw [uk_ne (by have := h5.2.2; omega)]
  simp only [e_Ha_keepSurfaces, r_Ha_keepSurfaces_0, r_Ha_keepSurfaces_1, r_Ha_keepSurfaces_4, r_Ha_keepSurfaces_5, r_Ha_keepSurfaces_6, r_Ha_keepSurfaces_9, r_Ha_keepSurfaces_10, r_Ha_keepSurfaces_11, r_Ha_keepSurfaces_14, r_Ha_keepSurfaces_15, r_Ha_keepSurfaces_18, r_Ha_keepSurfaces_19, r_Ha_keepSurfaces_20, r_Ha_keepSurfaces_23, r_Ha_keepSurfaces_26, i3n_0, i3n_1, l6n_0, l6n_1, am_kf_s, am_km_s, am_kn_s, am_k_v, am_k_0, am_isr_r, am_isr_n, am_isr_v, am_sw_0, am_sw_i, am_sw_l, am_sw_r, am_sw_n, am_sw_v, am_ct_i, am_ct_r, am_ct_n, am_c1_o, am_c1_n, am_c1_i, am_c1_r, am_c1_v, am_mk_1, lc_lt, lc_gt, lc_eq, lc_le, lc_ge, i01_eq, i01_ok, ite_not, true_or, or_true, true_and, and_true, false_or, or_false, false_and, and_false, if_true, if_false, not_true_eq_false, not_false_eq_true, eq_self, Nat.reduceAdd, Nat.reduceLeDiff, Nat.reduceLT, Nat.reduceEqDiff, Nat.reduceMul, Nat.reduceSub, Nat.reduceDiv, Nat.reduceMod, reduceCtorEq, Nat.zero_le, i3_le, i3_lt, i3_eq, i3_eqN, i3_leN, i3_Nle, i3_ltN, i3_NleN, i3_NeqN, i3_Neq, i3_NltN, i3_Nlt, l6_le, l6_lt, l6_eq, l6_leN, l6_Nle, l6_ltN, l6_Nlt, l6_eqN, l6_Neq, g3, g6, gn, hc2, gs, hk, hp]
theorem x_Ha_layBackSurfaces {d i q a5 a3 : Nat} {Z : ly_Z} {C : Nat → Nat → Int32} {L : Nat → Nat → Int64} {R : Nat → Nat → Option Nat} {D : am_M} (h2 : ly_is x true Z q (i + 2000) 2) (h5 : ly_is x true Z a5 (i + 5000) 5) (h3 : ly_is x true Z a3 (i + 3000) 3) (r3 : R (i + 2000) 3 = some a3) (r6 : R (i + 2000) 6 = some a5) : am_ex G (d + 1) K_Ha_layBackSurfaces [.ref q] (am_mk x true Z C L R D) = some (none, am_mk x true Z (ux (uk C (i + 3000) (fun k => if k < 6 then C (i + 5000) k else C (i + 3000) k)) (i + 2000) 5 (C (i + 2000) 7)) L R D) := by
  have hd2 := h2.2.2
  have g3 := fun C => (ly_dg2_3 (C := C) (L := L) (R := R) (D := D) h2).trans (by rw [r3, va_rf_s])
  have g6 := fun C => (ly_dg2_6 (C := C) (L := L) (R := R) (D := D) h2).trans (by rw [r6, va_rf_s])
  have gs := fun C => ly_dg2_7 (C := C) (L := L) (R := R) (D := D) h2
  have gn := ly_dn3 (C := C) (L := L) (R := R) (D := D) h3
  have hc := cp_any (sp := 0) (dp := 0) (m := 6) (ly_dc5 (C := C) (L := L) (R := R) (D := D) h5) (ly_dc3 (C := C) (L := L) (R := R) (D := D) h3) (by decide) (by decide) (by decide) (by decide)
  have hset := ly_ds (C := C) (L := L) (R := R) (D := D) (f := va_cpy (C (i + 5000)) (C (i + 3000)) 0 0 6) (g := L (i + 3000)) (r := R (i + 3000)) h3
  rw [uk_self, uk_self, va_cpy_0] at hset
  rw [va_cpy_0] at hc
  have hc2 := hc.trans (congrArg some hset)
  have hp := fun C v => ly_dp2_5 (C := C) (L := L) (R := R) (D := D) (v := v) h2
  have hk : ∀ j, uk C (i + 3000) (fun k => if k < 6 then C (i + 5000) k else C (i + 3000) k) (i + 2000) j = C (i + 2000) j := fun j => by rw [uk_ne (by have := h3.2.2; omega)]
  simp only [e_Ha_layBackSurfaces, r_Ha_layBackSurfaces_0, r_Ha_layBackSurfaces_1, r_Ha_layBackSurfaces_4, r_Ha_layBackSurfaces_5, r_Ha_layBackSurfaces_6, r_Ha_layBackSurfaces_9, r_Ha_layBackSurfaces_10, r_Ha_layBackSurfaces_11, r_Ha_layBackSurfaces_14, r_Ha_layBackSurfaces_15, r_Ha_layBackSurfaces_18, r_Ha_layBackSurfaces_19, r_Ha_layBackSurfaces_20, r_Ha_layBackSurfaces_23, r_Ha_layBackSurfaces_26, i3n_0, i3n_1, l6n_0, l6n_1, am_kf_s, am_km_s, am_kn_s, am_k_v, am_k_0, am_isr_r, am_isr_n, am_isr_v, am_sw_0, am_sw_i, am_sw_l, am_sw_r, am_sw_n, am_sw_v, am_ct_i, am_ct_r, am_ct_n, am_c1_o, am_c1_n, am_c1_i, am_c1_r, am_c1_v, am_mk_1, lc_lt, lc_gt, lc_eq, lc_le, lc_ge, i01_eq, i01_ok, ite_not, true_or, or_true, true_and, and_true, false_or, or_false, false_and, and_false, if_true, if_false, not_true_eq_false, not_false_eq_true, eq_self, Nat.reduceAdd, Nat.reduceLeDiff, Nat.reduceLT, Nat.reduceEqDiff, Nat.reduceMul, Nat.reduceSub, Nat.reduceDiv, Nat.reduceMod, reduceCtorEq, Nat.zero_le, i3_le, i3_lt, i3_eq, i3_eqN, i3_leN, i3_Nle, i3_ltN, i3_NleN, i3_NeqN, i3_Neq, i3_NltN, i3_Nlt, l6_le, l6_lt, l6_eq, l6_leN, l6_Nle, l6_ltN, l6_Nlt, l6_eqN, l6_Neq, g3, g6, gn, hc2, gs, hk, hp]
theorem l_H_image {d n m nn : Nat} {N : Nat → Nat → Nat} {Z : ly_Z} {C0 : Nat → Nat → Int32} {L : Nat → Nat → Int64} {R : Nat → Nat → Option Nat} {D : am_M} (hha : rl_ha N x Z C0 R) (hn : N 31 17 = n) (hn6 : n ≤ 6) (hm : m = n) : ∀ (k i : Nat) (C : Nat → Nat → Int32) (w : Option Value), m - i = k → i ≤ m → am_c1 w = true → C 0 6 = Int32.ofNat n → C 0 7 = Int32.ofNat nn → ∃ C', am_run G (d + 1) K_H_image (44, [some (.ref x), some (.int (Int32.ofNat i)), w], [], am_mk x true Z C L R D) = some (some (.int (Int32.ofNat nn)), am_mk x true Z C' L R D) ∧ (∀ a j, ¬ (5000 ≤ a ∧ a < 5006 ∨ 2000 ≤ a ∧ a < 2006 ∧ j = 7) → C' a j = C a j) ∧ (∀ b, i ≤ b → b < m → C' (b + 2000) 7 = C (b + 2000) 5 ∧ ∀ k, k < 6 → C' (b + 5000) k = C (b + 3000) k) ∧ ∀ b, b < 6 → (b < i ∨ m ≤ b) → C' (b + 2000) 7 = C (b + 2000) 7 ∧ ∀ k, C' (b + 5000) k = C (b + 5000) k := by
  intro k
  induction k with
  | zero =>
    intro i C w hk hi hw h6 h7
    have : i = m := by omega
    subst this
    subst hm
    have b1 : i < 2147483648 := by omega
    refine ⟨C, ?_, fun _ _ _ => rfl, fun b q1 q2 => by omega, fun b _ _ => ⟨rfl, fun _ => rfl⟩⟩
    rw [r_H_image_44]
    simp only [r_H_image_45, r_H_image_46, r_H_image_49, r_H_image_52, r_H_image_53, r_H_image_54, r_H_image_57, r_H_image_57_k, r_H_image_58, r_H_image_59, r_H_image_62, r_H_image_63, r_H_image_66, r_H_image_66_k, r_H_image_69, r_H_image_72, r_H_image_73, r_H_image_76, ly_g0_9, ly_n6, ly_r6, ly_w6, ly_g0_14, ly_n18, ly_r18, ly_w18, ly_g0_10, ly_g0_15, ly_p0_15, ly_g0_6, ly_g0_16, ly_p0_16, ly_g0_7, ly_g0_17, ly_p0_17, ly_k0, i3n_0, i3n_1, l6n_0, l6n_1, am_kf_s, am_km_s, am_kn_s, am_k_v, am_k_0, am_isr_r, am_isr_n, am_isr_v, am_sw_0, am_sw_i, am_sw_l, am_sw_r, am_sw_n, am_sw_v, am_ct_i, am_ct_r, am_ct_n, am_c1_o, am_c1_n, am_c1_i, am_c1_r, am_c1_v, am_mk_1, lc_lt, lc_gt, lc_eq, lc_le, lc_ge, i01_eq, i01_ok, ite_not, true_or, or_true, true_and, and_true, false_or, or_false, false_and, and_false, if_true, if_false, not_true_eq_false, not_false_eq_true, eq_self, Nat.reduceAdd, Nat.reduceLeDiff, Nat.reduceLT, Nat.reduceEqDiff, Nat.reduceMul, Nat.reduceSub, Nat.reduceDiv, Nat.reduceMod, reduceCtorEq, Nat.zero_le, i3_le, i3_lt, i3_eq, i3_eqN, i3_leN, i3_Nle, i3_ltN, i3_NleN, i3_NeqN, i3_Neq, i3_NltN, i3_Nlt, l6_le, l6_lt, l6_eq, l6_leN, l6_Nle, l6_ltN, l6_Nlt, l6_eqN, l6_Neq, h6, h7, b1, Nat.le_refl]
  | succ k ih =>
    intro i C w hk hi hw h6 h7
    obtain ⟨a1, a2, a3, a4, a5, r3, r4, r6, -⟩ := hha i (by omega)
    have b1 : i < 2147483648 := by omega
    have b2 : n < 2147483648 := by omega
    have b3 : ¬ n ≤ i := by omega
    have b4 : m < 2147483648 := by omega
    have e0 := k_H_hallAt (G := G) (d := d) (x := x) (Z := Z) (L := L) (D := D) h6 hn6 (show i < n by omega) a1
    have k2 := ly_dk2 (C := C) (L := L) (R := R) (D := D) a2
    have e1 := x_Ha_keepSurfaces (G := G) (d := d) (C := C) (L := L) (D := D) a2 a3 a5 r3 r6
    generalize hC1 : ux (uk C (i + 5000) (fun k => if k < 6 then C (i + 3000) k else C (i + 5000) k)) (i + 2000) 7 (C (i + 2000) 5) = C1 at e1
    have c1 : ∀ a j, ¬ (a = i + 5000 ∨ a = i + 2000 ∧ j = 7) → C1 a j = C a j := fun a j q => by rw [← hC1, ux_ne (by omega), uk_ne (by omega)]
    have c1a : C1 (i + 2000) 7 = C (i + 2000) 5 := by rw [← hC1, ux_at]
    have c1b : ∀ k, k < 6 → C1 (i + 5000) k = C (i + 3000) k := fun k hk => by rw [← hC1, ux_ne (by omega), uk_at]; rw [if_pos hk]
    obtain ⟨C', f1, f2, f3, f4⟩ := ih (i + 1) C1 (some (.ref (Z.2 (i + 2000)))) (by omega) (by omega) am_c1_r ((c1 0 6 (by omega)).trans h6) ((c1 0 7 (by omega)).trans h7)
    refine ⟨C', ?_, fun a j q => by rw [f2 a j q, c1 a j (by omega)], fun b q1 q2 => ?_, fun b q6 q => ?_⟩
    · rw [r_H_image_44, ← f1]
      simp only [r_H_image_45, r_H_image_46, r_H_image_49, r_H_image_52, r_H_image_53, r_H_image_54, r_H_image_57, r_H_image_57_k, r_H_image_58, r_H_image_59, r_H_image_62, r_H_image_63, r_H_image_66, r_H_image_66_k, r_H_image_69, r_H_image_72, r_H_image_73, r_H_image_76, ly_g0_9, ly_n6, ly_r6, ly_w6, ly_g0_14, ly_n18, ly_r18, ly_w18, ly_g0_10, ly_g0_15, ly_p0_15, ly_g0_6, ly_g0_16, ly_p0_16, ly_g0_7, ly_g0_17, ly_p0_17, ly_k0, i3n_0, i3n_1, l6n_0, l6n_1, am_kf_s, am_km_s, am_kn_s, am_k_v, am_k_0, am_isr_r, am_isr_n, am_isr_v, am_sw_0, am_sw_i, am_sw_l, am_sw_r, am_sw_n, am_sw_v, am_ct_i, am_ct_r, am_ct_n, am_c1_o, am_c1_n, am_c1_i, am_c1_r, am_c1_v, am_mk_1, lc_lt, lc_gt, lc_eq, lc_le, lc_ge, i01_eq, i01_ok, ite_not, true_or, or_true, true_and, and_true, false_or, or_false, false_and, and_false, if_true, if_false, not_true_eq_false, not_false_eq_true, eq_self, Nat.reduceAdd, Nat.reduceLeDiff, Nat.reduceLT, Nat.reduceEqDiff, Nat.reduceMul, Nat.reduceSub, Nat.reduceDiv, Nat.reduceMod, reduceCtorEq, Nat.zero_le, i3_le, i3_lt, i3_eq, i3_eqN, i3_leN, i3_Nle, i3_ltN, i3_NleN, i3_NeqN, i3_Neq, i3_NltN, i3_Nlt, l6_le, l6_lt, l6_eq, l6_leN, l6_Nle, l6_ltN, l6_Nlt, l6_eqN, l6_Neq, h6, b1, b2, b3, b4, hw, e0, k2, e1, i3_add]
    · by_cases hb : b = i
      · subst hb
        obtain ⟨g1, g2⟩ := f4 b (by omega) (by omega)
        rw [g1, c1a]
        exact ⟨rfl, fun k hk => by rw [g2, c1b k hk]⟩
      · obtain ⟨g1, g2⟩ := f3 b (by omega) q2
        rw [g1, c1 _ _ (by omega)]
        exact ⟨rfl, fun k hk => by rw [g2 k hk, c1 _ _ (by omega)]⟩
    · obtain ⟨g1, g2⟩ := f4 b (by omega) (by omega)
      rw [g1, c1 _ _ (by omega)]
      exact ⟨rfl, fun k => by rw [g2, c1 _ _ (by omega)]⟩
theorem l_H_back {d n m nn : Nat} {N : Nat → Nat → Nat} {Z : ly_Z} {C0 : Nat → Nat → Int32} {L : Nat → Nat → Int64} {R : Nat → Nat → Option Nat} {D : am_M} (hha : rl_ha N x Z C0 R) (hn : N 31 17 = n) (hn6 : n ≤ 6) (hm : m ≤ n) : ∀ (k i : Nat) (C : Nat → Nat → Int32) (w : Option Value), m - i = k → i ≤ m → am_c1 w = true → C 0 6 = Int32.ofNat n → C 0 16 = Int32.ofNat m → C 0 7 = Int32.ofNat nn → ∃ C', am_run G (d + 1) K_H_back (47, [some (.ref x), some (.int (Int32.ofNat i)), w], [], am_mk x true Z C L R D) = some (some (.int (Int32.ofNat nn)), am_mk x true Z C' L R D) ∧ (∀ a j, ¬ (3000 ≤ a ∧ a < 3006 ∨ 2000 ≤ a ∧ a < 2006 ∧ j = 5) → C' a j = C a j) ∧ (∀ b, i ≤ b → b < m → C' (b + 2000) 5 = C (b + 2000) 7 ∧ ∀ k, k < 6 → C' (b + 3000) k = C (b + 5000) k) ∧ ∀ b, b < 6 → (b < i ∨ m ≤ b) → C' (b + 2000) 5 = C (b + 2000) 5 ∧ ∀ k, C' (b + 3000) k = C (b + 3000) k := by
  intro k
  induction k with
  | zero =>
    intro i C w hk hi hw h6 h16 h7
    have : i = m := by omega
    subst this
    have b1 : i < 2147483648 := by omega
    have b2 : n < 2147483648 := by omega
    refine ⟨C, ?_, fun _ _ _ => rfl, fun b q1 q2 => by omega, fun b _ _ => ⟨rfl, fun _ => rfl⟩⟩
    rw [r_H_back_47]
    simp only [r_H_back_48, r_H_back_49, r_H_back_52, r_H_back_55, r_H_back_56, r_H_back_57, r_H_back_60, r_H_back_60_k, r_H_back_61, r_H_back_62, r_H_back_65, r_H_back_66, r_H_back_69, r_H_back_69_k, r_H_back_72, r_H_back_75, r_H_back_76, r_H_back_79, ly_g0_17, ly_g0_14, ly_n18, ly_r18, ly_w18, ly_g0_9, ly_n6, ly_r6, ly_w6, ly_g0_15, ly_g0_10, ly_p0_10, ly_g0_7, ly_p0_7, ly_g0_16, ly_k0, i3n_0, i3n_1, i3n_3, l6n_0, l6n_1, am_kf_s, am_km_s, am_kn_s, am_k_v, am_k_0, am_isr_r, am_isr_n, am_isr_v, am_sw_0, am_sw_i, am_sw_l, am_sw_r, am_sw_n, am_sw_v, am_ct_i, am_ct_r, am_ct_n, am_c1_o, am_c1_n, am_c1_i, am_c1_r, am_c1_v, am_mk_1, lc_lt, lc_gt, lc_eq, lc_le, lc_ge, i01_eq, i01_ok, ite_not, true_or, or_true, true_and, and_true, false_or, or_false, false_and, and_false, if_true, if_false, not_true_eq_false, not_false_eq_true, eq_self, Nat.reduceAdd, Nat.reduceLeDiff, Nat.reduceLT, Nat.reduceEqDiff, Nat.reduceMul, Nat.reduceSub, Nat.reduceDiv, Nat.reduceMod, reduceCtorEq, Nat.zero_le, i3_le, i3_lt, i3_eq, i3_eqN, i3_leN, i3_Nle, i3_ltN, i3_NleN, i3_NeqN, i3_Neq, i3_NltN, i3_Nlt, l6_le, l6_lt, l6_eq, l6_leN, l6_Nle, l6_ltN, l6_Nlt, l6_eqN, l6_Neq, h6, h16, h7, b1, b2, Nat.le_refl]
  | succ k ih =>
    intro i C w hk hi hw h6 h16 h7
    obtain ⟨a1, a2, a3, a4, a5, r3, r4, r6, -⟩ := hha i (by omega)
    have b1 : i < 2147483648 := by omega
    have b2 : n < 2147483648 := by omega
    have b3 : ¬ m ≤ i := by omega
    have b4 : m < 2147483648 := by omega
    have e0 := k_H_hallAt (G := G) (d := d) (x := x) (Z := Z) (L := L) (D := D) h6 hn6 (show i < n by omega) a1
    have k2 := ly_dk2 (C := C) (L := L) (R := R) (D := D) a2
    have e1 := x_Ha_layBackSurfaces (G := G) (d := d) (C := C) (L := L) (D := D) a2 a5 a3 r3 r6
    generalize hC1 : ux (uk C (i + 3000) (fun k => if k < 6 then C (i + 5000) k else C (i + 3000) k)) (i + 2000) 5 (C (i + 2000) 7) = C1 at e1
    have c1 : ∀ a j, ¬ (a = i + 3000 ∨ a = i + 2000 ∧ j = 5) → C1 a j = C a j := fun a j q => by rw [← hC1, ux_ne (by omega), uk_ne (by omega)]
    have c1a : C1 (i + 2000) 5 = C (i + 2000) 7 := by rw [← hC1, ux_at]
    have c1b : ∀ k, k < 6 → C1 (i + 3000) k = C (i + 5000) k := fun k hk => by rw [← hC1, ux_ne (by omega), uk_at]; rw [if_pos hk]
    obtain ⟨C', f1, f2, f3, f4⟩ := ih (i + 1) C1 (some (.ref (Z.2 (i + 2000)))) (by omega) (by omega) am_c1_r ((c1 0 6 (by omega)).trans h6) ((c1 0 16 (by omega)).trans h16) ((c1 0 7 (by omega)).trans h7)
    refine ⟨C', ?_, fun a j q => by rw [f2 a j q, c1 a j (by omega)], fun b q1 q2 => ?_, fun b q6 q => ?_⟩
    · rw [r_H_back_47, ← f1]
      simp only [r_H_back_48, r_H_back_49, r_H_back_52, r_H_back_55, r_H_back_56, r_H_back_57, r_H_back_60, r_H_back_60_k, r_H_back_61, r_H_back_62, r_H_back_65, r_H_back_66, r_H_back_69, r_H_back_69_k, r_H_back_72, r_H_back_75, r_H_back_76, r_H_back_79, ly_g0_17, ly_g0_14, ly_n18, ly_r18, ly_w18, ly_g0_9, ly_n6, ly_r6, ly_w6, ly_g0_15, ly_g0_10, ly_p0_10, ly_g0_7, ly_p0_7, ly_g0_16, ly_k0, i3n_0, i3n_1, i3n_3, l6n_0, l6n_1, am_kf_s, am_km_s, am_kn_s, am_k_v, am_k_0, am_isr_r, am_isr_n, am_isr_v, am_sw_0, am_sw_i, am_sw_l, am_sw_r, am_sw_n, am_sw_v, am_ct_i, am_ct_r, am_ct_n, am_c1_o, am_c1_n, am_c1_i, am_c1_r, am_c1_v, am_mk_1, lc_lt, lc_gt, lc_eq, lc_le, lc_ge, i01_eq, i01_ok, ite_not, true_or, or_true, true_and, and_true, false_or, or_false, false_and, and_false, if_true, if_false, not_true_eq_false, not_false_eq_true, eq_self, Nat.reduceAdd, Nat.reduceLeDiff, Nat.reduceLT, Nat.reduceEqDiff, Nat.reduceMul, Nat.reduceSub, Nat.reduceDiv, Nat.reduceMod, reduceCtorEq, Nat.zero_le, i3_le, i3_lt, i3_eq, i3_eqN, i3_leN, i3_Nle, i3_ltN, i3_NleN, i3_NeqN, i3_Neq, i3_NltN, i3_Nlt, l6_le, l6_lt, l6_eq, l6_leN, l6_Nle, l6_ltN, l6_Nlt, l6_eqN, l6_Neq, h6, h16, b1, b2, b3, b4, hw, e0, k2, e1, i3_add]
    · by_cases hb : b = i
      · subst hb
        obtain ⟨g1, g2⟩ := f4 b (by omega) (by omega)
        rw [g1, c1a]
        exact ⟨rfl, fun k hk => by rw [g2, c1b k hk]⟩
      · obtain ⟨g1, g2⟩ := f3 b (by omega) q2
        rw [g1, c1 _ _ (by omega)]
        exact ⟨rfl, fun k hk => by rw [g2 k hk, c1 _ _ (by omega)]⟩
    · obtain ⟨g1, g2⟩ := f4 b (by omega) (by omega)
      rw [g1, c1 _ _ (by omega)]
      exact ⟨rfl, fun k => by rw [g2, c1 _ _ (by omega)]⟩
theorem l_M_image1 {d n : Nat} {Z : ly_Z} {L : Nat → Nat → Int64} {R : Nat → Nat → Option Nat} {D : am_M} (hn : n ≤ 6) : ∀ (k i : Nat) (C : Nat → Nat → Int32), n - i = k → i ≤ n → C 31 17 = Int32.ofNat n → ∃ C', am_run G d K_M_image (63, [some (.ref (x + 31)), some (.int (Int32.ofNat i))], [], am_mk x true Z C L R D) = am_run G d K_M_image (92, [some (.ref (x + 31)), some (.int (Int32.ofNat n))], [], am_mk x true Z C' L R D) ∧ (∀ b, i ≤ b → b < n → C' 53 (72 + b) = C 40 b) ∧ ∀ a j, ¬ (a = 53 ∧ 72 + i ≤ j) → C' a j = C a j := by
  intro k
  induction k with
  | zero =>
    intro i C hk hi h17
    have : i = n := by omega
    subst this
    have b1 : i < 2147483648 := by omega
    refine ⟨C, ?_, fun b q1 q2 => by omega, fun _ _ _ => rfl⟩
    rw [r_M_image_63]
    simp only [r_M_image_64, r_M_image_65, r_M_image_68, r_M_image_71, r_M_image_72, r_M_image_75, r_M_image_77, r_M_image_78, r_M_image_79, r_M_image_80, r_M_image_83, r_M_image_84, r_M_image_85, r_M_image_86, r_M_image_86_k, r_M_image_89, ly_g31_46, ly_p31_46, ly_g31_17, ly_g31_47, ly_p31_47, ly_g31_27, ly_g31_48, ly_p31_48, ly_g31_7, ly_g31_49, ly_p31_49, ly_g31_8, ly_g31_50, ly_p31_50, ly_g31_9, ly_g31_51, ly_p31_51, ly_g31_10, ly_g31_52, ly_p31_52, ly_g31_4, ly_g31_53, ly_p31_53, ly_g31_45, ly_n53, ly_r53, ly_w53, ly_g31_18, ly_n40, ly_r40, ly_w40, ly_g31_19, ly_n41, ly_r41, ly_w41, ly_g31_20, ly_n42, ly_r42, ly_w42, i3n_0, i3n_1, i3n_6, i3n_36, i3n_72, l6n_0, l6n_1, am_kf_s, am_km_s, am_kn_s, am_k_v, am_k_0, am_isr_r, am_isr_n, am_isr_v, am_sw_0, am_sw_i, am_sw_l, am_sw_r, am_sw_n, am_sw_v, am_ct_i, am_ct_r, am_ct_n, am_c1_o, am_c1_n, am_c1_i, am_c1_r, am_c1_v, am_mk_1, lc_lt, lc_gt, lc_eq, lc_le, lc_ge, i01_eq, i01_ok, ite_not, true_or, or_true, true_and, and_true, false_or, or_false, false_and, and_false, if_true, if_false, not_true_eq_false, not_false_eq_true, eq_self, Nat.reduceAdd, Nat.reduceLeDiff, Nat.reduceLT, Nat.reduceEqDiff, Nat.reduceMul, Nat.reduceSub, Nat.reduceDiv, Nat.reduceMod, reduceCtorEq, Nat.zero_le, i3_le, i3_lt, i3_eq, i3_eqN, i3_leN, i3_Nle, i3_ltN, i3_NleN, i3_NeqN, i3_Neq, i3_NltN, i3_Nlt, l6_le, l6_lt, l6_eq, l6_leN, l6_Nle, l6_ltN, l6_Nlt, l6_eqN, l6_Neq, h17, b1, Nat.le_refl]
  | succ k ih =>
    intro i C hk hi h17
    have b1 : i < 2147483648 := by omega
    have b2 : n < 2147483648 := by omega
    have b3 : ¬ n ≤ i := by omega
    have b4 : i < 6 := by omega
    have b5 : 72 + i < 78 := by omega
    obtain ⟨C', e1, e2, e3⟩ := ih (i + 1) (ux C 53 (72 + i) (C 40 i)) (by omega) (by omega) (by rw [ux_ne (by omega)]; exact h17)
    refine ⟨C', ?_, fun b q1 q2 => ?_, fun a j q => by rw [e3 a j (by omega), ux_ne (by omega)]⟩
    · rw [r_M_image_63, ← e1]
      simp only [r_M_image_64, r_M_image_65, r_M_image_68, r_M_image_71, r_M_image_72, r_M_image_75, r_M_image_77, r_M_image_78, r_M_image_79, r_M_image_80, r_M_image_83, r_M_image_84, r_M_image_85, r_M_image_86, r_M_image_86_k, r_M_image_89, ly_g31_46, ly_p31_46, ly_g31_17, ly_g31_47, ly_p31_47, ly_g31_27, ly_g31_48, ly_p31_48, ly_g31_7, ly_g31_49, ly_p31_49, ly_g31_8, ly_g31_50, ly_p31_50, ly_g31_9, ly_g31_51, ly_p31_51, ly_g31_10, ly_g31_52, ly_p31_52, ly_g31_4, ly_g31_53, ly_p31_53, ly_g31_45, ly_n53, ly_r53, ly_w53, ly_g31_18, ly_n40, ly_r40, ly_w40, ly_g31_19, ly_n41, ly_r41, ly_w41, ly_g31_20, ly_n42, ly_r42, ly_w42, i3n_0, i3n_1, i3n_6, i3n_36, i3n_72, l6n_0, l6n_1, am_kf_s, am_km_s, am_kn_s, am_k_v, am_k_0, am_isr_r, am_isr_n, am_isr_v, am_sw_0, am_sw_i, am_sw_l, am_sw_r, am_sw_n, am_sw_v, am_ct_i, am_ct_r, am_ct_n, am_c1_o, am_c1_n, am_c1_i, am_c1_r, am_c1_v, am_mk_1, lc_lt, lc_gt, lc_eq, lc_le, lc_ge, i01_eq, i01_ok, ite_not, true_or, or_true, true_and, and_true, false_or, or_false, false_and, and_false, if_true, if_false, not_true_eq_false, not_false_eq_true, eq_self, Nat.reduceAdd, Nat.reduceLeDiff, Nat.reduceLT, Nat.reduceEqDiff, Nat.reduceMul, Nat.reduceSub, Nat.reduceDiv, Nat.reduceMod, reduceCtorEq, Nat.zero_le, i3_le, i3_lt, i3_eq, i3_eqN, i3_leN, i3_Nle, i3_ltN, i3_NleN, i3_NeqN, i3_Neq, i3_NltN, i3_Nlt, l6_le, l6_lt, l6_eq, l6_leN, l6_Nle, l6_ltN, l6_Nlt, l6_eqN, l6_Neq, h17, b1, b2, b3, b4, b5, i3_add]
    · by_cases hb : b = i
      · subst hb; rw [e3 53 (72 + b) (by omega), ux_at]
      · rw [e2 b (by omega) q2, ux_ne (by omega)]
theorem l_M_image2 {d n nn : Nat} {Z : ly_Z} {L : Nat → Nat → Int64} {R : Nat → Nat → Option Nat} {D : am_M} (hn : n ≤ 6) : ∀ (k i : Nat) (C : Nat → Nat → Int32), 6 * n - i = k → i ≤ 6 * n → C 31 17 = Int32.ofNat n → C 31 27 = Int32.ofNat nn → ∃ C', am_run G d K_M_image (94, [some (.ref (x + 31)), some (.int (Int32.ofNat i))], [], am_mk x true Z C L R D) = some (some (.int (Int32.ofNat nn)), am_mk x true Z C' L R D) ∧ (∀ b, i ≤ b → b < 6 * n → C' 53 b = C 41 b ∧ C' 53 (36 + b) = C 42 b) ∧ (∀ j, j < i ∨ 36 ≤ j ∧ j < 36 + i ∨ 72 ≤ j → C' 53 j = C 53 j) ∧ ∀ a j, ¬ a = 53 → C' a j = C a j := by
  intro k
  induction k with
  | zero =>
    intro i C hk hi h17 h27
    have : i = 6 * n := by omega
    subst this
    have b1 : 6 * n < 2147483648 := by omega
    refine ⟨C, ?_, fun b q1 q2 => by omega, fun _ _ => rfl, fun _ _ _ => rfl⟩
    rw [r_M_image_94]
    simp only [r_M_image_95, r_M_image_97, r_M_image_98, r_M_image_101, r_M_image_102, r_M_image_105, r_M_image_106, r_M_image_109, r_M_image_110, r_M_image_111, r_M_image_114, r_M_image_115, r_M_image_116, r_M_image_117, r_M_image_118, r_M_image_121, r_M_image_123, r_M_image_124, r_M_image_125, r_M_image_126, r_M_image_129, r_M_image_130, r_M_image_131, r_M_image_132, r_M_image_132_k, r_M_image_135, r_M_image_138, r_M_image_139, r_M_image_142, ly_g31_46, ly_p31_46, ly_g31_17, ly_g31_47, ly_p31_47, ly_g31_27, ly_g31_48, ly_p31_48, ly_g31_7, ly_g31_49, ly_p31_49, ly_g31_8, ly_g31_50, ly_p31_50, ly_g31_9, ly_g31_51, ly_p31_51, ly_g31_10, ly_g31_52, ly_p31_52, ly_g31_4, ly_g31_53, ly_p31_53, ly_g31_45, ly_n53, ly_r53, ly_w53, ly_g31_18, ly_n40, ly_r40, ly_w40, ly_g31_19, ly_n41, ly_r41, ly_w41, ly_g31_20, ly_n42, ly_r42, ly_w42, i3n_0, i3n_1, i3n_6, i3n_36, i3n_72, l6n_0, l6n_1, am_kf_s, am_km_s, am_kn_s, am_k_v, am_k_0, am_isr_r, am_isr_n, am_isr_v, am_sw_0, am_sw_i, am_sw_l, am_sw_r, am_sw_n, am_sw_v, am_ct_i, am_ct_r, am_ct_n, am_c1_o, am_c1_n, am_c1_i, am_c1_r, am_c1_v, am_mk_1, lc_lt, lc_gt, lc_eq, lc_le, lc_ge, i01_eq, i01_ok, ite_not, true_or, or_true, true_and, and_true, false_or, or_false, false_and, and_false, if_true, if_false, not_true_eq_false, not_false_eq_true, eq_self, Nat.reduceAdd, Nat.reduceLeDiff, Nat.reduceLT, Nat.reduceEqDiff, Nat.reduceMul, Nat.reduceSub, Nat.reduceDiv, Nat.reduceMod, reduceCtorEq, Nat.zero_le, i3_le, i3_lt, i3_eq, i3_eqN, i3_leN, i3_Nle, i3_ltN, i3_NleN, i3_NeqN, i3_Neq, i3_NltN, i3_Nlt, l6_le, l6_lt, l6_eq, l6_leN, l6_Nle, l6_ltN, l6_Nlt, l6_eqN, l6_Neq, h17, h27, b1, i3_mul, Nat.le_refl]
  | succ k ih =>
    intro i C hk hi h17 h27
    have b1 : i < 2147483648 := by omega
    have b2 : 6 * n < 2147483648 := by omega
    have b3 : ¬ 6 * n ≤ i := by omega
    have b4 : i < 36 := by omega
    have b5 : i < 78 := by omega
    have b6 : 36 + i < 78 := by omega
    obtain ⟨C', e1, e2, e3, e4⟩ := ih (i + 1) (ux (ux C 53 i (C 41 i)) 53 (36 + i) (C 42 i)) (by omega) (by omega) (by rw [ux_ne (by omega), ux_ne (by omega)]; exact h17) (by rw [ux_ne (by omega), ux_ne (by omega)]; exact h27)
    refine ⟨C', ?_, fun b q1 q2 => ?_, fun j q => by rw [e3 j (by omega), ux_ne (by omega), ux_ne (by omega)], fun a j q => by rw [e4 a j (by omega), ux_ne (by omega), ux_ne (by omega)]⟩
    · rw [r_M_image_94, ← e1]
      have e42 : ux C 53 i (C 41 i) 42 i = C 42 i := ux_ne (by omega)
      simp only [r_M_image_95, r_M_image_97, r_M_image_98, r_M_image_101, r_M_image_102, r_M_image_105, r_M_image_106, r_M_image_109, r_M_image_110, r_M_image_111, r_M_image_114, r_M_image_115, r_M_image_116, r_M_image_117, r_M_image_118, r_M_image_121, r_M_image_123, r_M_image_124, r_M_image_125, r_M_image_126, r_M_image_129, r_M_image_130, r_M_image_131, r_M_image_132, r_M_image_132_k, r_M_image_135, r_M_image_138, r_M_image_139, r_M_image_142, ly_g31_46, ly_p31_46, ly_g31_17, ly_g31_47, ly_p31_47, ly_g31_27, ly_g31_48, ly_p31_48, ly_g31_7, ly_g31_49, ly_p31_49, ly_g31_8, ly_g31_50, ly_p31_50, ly_g31_9, ly_g31_51, ly_p31_51, ly_g31_10, ly_g31_52, ly_p31_52, ly_g31_4, ly_g31_53, ly_p31_53, ly_g31_45, ly_n53, ly_r53, ly_w53, ly_g31_18, ly_n40, ly_r40, ly_w40, ly_g31_19, ly_n41, ly_r41, ly_w41, ly_g31_20, ly_n42, ly_r42, ly_w42, i3n_0, i3n_1, i3n_6, i3n_36, i3n_72, l6n_0, l6n_1, am_kf_s, am_km_s, am_kn_s, am_k_v, am_k_0, am_isr_r, am_isr_n, am_isr_v, am_sw_0, am_sw_i, am_sw_l, am_sw_r, am_sw_n, am_sw_v, am_ct_i, am_ct_r, am_ct_n, am_c1_o, am_c1_n, am_c1_i, am_c1_r, am_c1_v, am_mk_1, lc_lt, lc_gt, lc_eq, lc_le, lc_ge, i01_eq, i01_ok, ite_not, true_or, or_true, true_and, and_true, false_or, or_false, false_and, and_false, if_true, if_false, not_true_eq_false, not_false_eq_true, eq_self, Nat.reduceAdd, Nat.reduceLeDiff, Nat.reduceLT, Nat.reduceEqDiff, Nat.reduceMul, Nat.reduceSub, Nat.reduceDiv, Nat.reduceMod, reduceCtorEq, Nat.zero_le, i3_le, i3_lt, i3_eq, i3_eqN, i3_leN, i3_Nle, i3_ltN, i3_NleN, i3_NeqN, i3_Neq, i3_NltN, i3_Nlt, l6_le, l6_lt, l6_eq, l6_leN, l6_Nle, l6_ltN, l6_Nlt, l6_eqN, l6_Neq, h17, b1, b2, b3, b4, b5, b6, i3_add, i3_mul, e42]
    · by_cases hb : b = i
      · subst hb
        exact ⟨by rw [e3 b (by omega), ux_ne (by omega), ux_at], by rw [e3 (36 + b) (by omega), ux_at]⟩
      · obtain ⟨g1, g2⟩ := e2 b (by omega) q2
        rw [g1, g2, ux_ne (by omega), ux_ne (by omega), ux_ne (by omega), ux_ne (by omega)]
        exact ⟨rfl, rfl⟩
theorem l_M_back1 {d n : Nat} {Z : ly_Z} {L : Nat → Nat → Int64} {R : Nat → Nat → Option Nat} {D : am_M} (hn : n ≤ 6) : ∀ (k i : Nat) (C : Nat → Nat → Int32), n - i = k → i ≤ n → C 31 47 = Int32.ofNat n → ∃ C', am_run G d K_M_back (60, [some (.ref (x + 31)), some (.int (Int32.ofNat i))], [], am_mk x true Z C L R D) = am_run G d K_M_back (89, [some (.ref (x + 31)), some (.int (Int32.ofNat n))], [], am_mk x true Z C' L R D) ∧ (∀ b, i ≤ b → b < n → C' 40 b = C 53 (72 + b)) ∧ ∀ a j, ¬ (a = 40 ∧ i ≤ j ∧ j < n) → C' a j = C a j := by
  intro k
  induction k with
  | zero =>
    intro i C hk hi h17
    have : i = n := by omega
    subst this
    have b1 : i < 2147483648 := by omega
    refine ⟨C, ?_, fun b q1 q2 => by omega, fun _ _ _ => rfl⟩
    rw [r_M_back_60]
    simp only [r_M_back_61, r_M_back_62, r_M_back_65, r_M_back_68, r_M_back_69, r_M_back_72, r_M_back_73, r_M_back_74, r_M_back_77, r_M_back_79, r_M_back_80, r_M_back_81, r_M_back_82, r_M_back_83, r_M_back_83_k, r_M_back_86, ly_g31_46, ly_g31_48, ly_g31_27, ly_p31_27, ly_g31_49, ly_g31_7, ly_p31_7, ly_g31_50, ly_g31_8, ly_p31_8, ly_g31_51, ly_g31_9, ly_p31_9, ly_g31_52, ly_g31_10, ly_p31_10, ly_g31_53, ly_g31_4, ly_p31_4, ly_g31_47, ly_g31_18, ly_n40, ly_r40, ly_w40, ly_g31_45, ly_n53, ly_r53, ly_w53, ly_g31_19, ly_n41, ly_r41, ly_w41, ly_g31_20, ly_n42, ly_r42, ly_w42, i3n_0, i3n_1, i3n_3, i3n_6, i3n_36, i3n_72, l6n_0, l6n_1, am_kf_s, am_km_s, am_kn_s, am_k_v, am_k_0, am_isr_r, am_isr_n, am_isr_v, am_sw_0, am_sw_i, am_sw_l, am_sw_r, am_sw_n, am_sw_v, am_ct_i, am_ct_r, am_ct_n, am_c1_o, am_c1_n, am_c1_i, am_c1_r, am_c1_v, am_mk_1, lc_lt, lc_gt, lc_eq, lc_le, lc_ge, i01_eq, i01_ok, ite_not, true_or, or_true, true_and, and_true, false_or, or_false, false_and, and_false, if_true, if_false, not_true_eq_false, not_false_eq_true, eq_self, Nat.reduceAdd, Nat.reduceLeDiff, Nat.reduceLT, Nat.reduceEqDiff, Nat.reduceMul, Nat.reduceSub, Nat.reduceDiv, Nat.reduceMod, reduceCtorEq, Nat.zero_le, i3_le, i3_lt, i3_eq, i3_eqN, i3_leN, i3_Nle, i3_ltN, i3_NleN, i3_NeqN, i3_Neq, i3_NltN, i3_Nlt, l6_le, l6_lt, l6_eq, l6_leN, l6_Nle, l6_ltN, l6_Nlt, l6_eqN, l6_Neq, h17, b1, Nat.le_refl]
  | succ k ih =>
    intro i C hk hi h17
    have b1 : i < 2147483648 := by omega
    have b2 : n < 2147483648 := by omega
    have b3 : ¬ n ≤ i := by omega
    have b4 : i < 6 := by omega
    have b5 : 72 + i < 78 := by omega
    obtain ⟨C', e1, e2, e3⟩ := ih (i + 1) (ux C 40 i (C 53 (72 + i))) (by omega) (by omega) (by rw [ux_ne (by omega)]; exact h17)
    refine ⟨C', ?_, fun b q1 q2 => ?_, fun a j q => by rw [e3 a j (by omega), ux_ne (by omega)]⟩
    · rw [r_M_back_60, ← e1]
      simp only [r_M_back_61, r_M_back_62, r_M_back_65, r_M_back_68, r_M_back_69, r_M_back_72, r_M_back_73, r_M_back_74, r_M_back_77, r_M_back_79, r_M_back_80, r_M_back_81, r_M_back_82, r_M_back_83, r_M_back_83_k, r_M_back_86, ly_g31_46, ly_g31_48, ly_g31_27, ly_p31_27, ly_g31_49, ly_g31_7, ly_p31_7, ly_g31_50, ly_g31_8, ly_p31_8, ly_g31_51, ly_g31_9, ly_p31_9, ly_g31_52, ly_g31_10, ly_p31_10, ly_g31_53, ly_g31_4, ly_p31_4, ly_g31_47, ly_g31_18, ly_n40, ly_r40, ly_w40, ly_g31_45, ly_n53, ly_r53, ly_w53, ly_g31_19, ly_n41, ly_r41, ly_w41, ly_g31_20, ly_n42, ly_r42, ly_w42, i3n_0, i3n_1, i3n_3, i3n_6, i3n_36, i3n_72, l6n_0, l6n_1, am_kf_s, am_km_s, am_kn_s, am_k_v, am_k_0, am_isr_r, am_isr_n, am_isr_v, am_sw_0, am_sw_i, am_sw_l, am_sw_r, am_sw_n, am_sw_v, am_ct_i, am_ct_r, am_ct_n, am_c1_o, am_c1_n, am_c1_i, am_c1_r, am_c1_v, am_mk_1, lc_lt, lc_gt, lc_eq, lc_le, lc_ge, i01_eq, i01_ok, ite_not, true_or, or_true, true_and, and_true, false_or, or_false, false_and, and_false, if_true, if_false, not_true_eq_false, not_false_eq_true, eq_self, Nat.reduceAdd, Nat.reduceLeDiff, Nat.reduceLT, Nat.reduceEqDiff, Nat.reduceMul, Nat.reduceSub, Nat.reduceDiv, Nat.reduceMod, reduceCtorEq, Nat.zero_le, i3_le, i3_lt, i3_eq, i3_eqN, i3_leN, i3_Nle, i3_ltN, i3_NleN, i3_NeqN, i3_Neq, i3_NltN, i3_Nlt, l6_le, l6_lt, l6_eq, l6_leN, l6_Nle, l6_ltN, l6_Nlt, l6_eqN, l6_Neq, h17, b1, b2, b3, b4, b5, i3_add]
    · by_cases hb : b = i
      · subst hb; rw [e3 40 b (by omega), ux_at]
      · rw [e2 b (by omega) q2, ux_ne (by omega)]
theorem l_M_back2 {d n nn : Nat} {Z : ly_Z} {L : Nat → Nat → Int64} {R : Nat → Nat → Option Nat} {D : am_M} (hn : n ≤ 6) : ∀ (k i : Nat) (C : Nat → Nat → Int32), 6 * n - i = k → i ≤ 6 * n → C 31 47 = Int32.ofNat n → C 31 27 = Int32.ofNat nn → ∃ C', am_run G d K_M_back (91, [some (.ref (x + 31)), some (.int (Int32.ofNat i))], [], am_mk x true Z C L R D) = some (some (.int (Int32.ofNat nn)), am_mk x true Z C' L R D) ∧ (∀ b, i ≤ b → b < 6 * n → C' 41 b = C 53 b ∧ C' 42 b = C 53 (36 + b)) ∧ ∀ a j, ¬ ((a = 41 ∨ a = 42) ∧ i ≤ j ∧ j < 6 * n) → C' a j = C a j := by
  intro k
  induction k with
  | zero =>
    intro i C hk hi h17 h27
    have : i = 6 * n := by omega
    subst this
    have b1 : 6 * n < 2147483648 := by omega
    refine ⟨C, ?_, fun b q1 q2 => by omega, fun _ _ _ => rfl⟩
    rw [r_M_back_91]
    simp only [r_M_back_92, r_M_back_94, r_M_back_95, r_M_back_98, r_M_back_99, r_M_back_102, r_M_back_103, r_M_back_106, r_M_back_107, r_M_back_108, r_M_back_111, r_M_back_112, r_M_back_113, r_M_back_114, r_M_back_115, r_M_back_118, r_M_back_119, r_M_back_120, r_M_back_123, r_M_back_125, r_M_back_126, r_M_back_127, r_M_back_128, r_M_back_129, r_M_back_129_k, r_M_back_132, r_M_back_135, r_M_back_136, r_M_back_139, ly_g31_46, ly_g31_48, ly_g31_27, ly_p31_27, ly_g31_49, ly_g31_7, ly_p31_7, ly_g31_50, ly_g31_8, ly_p31_8, ly_g31_51, ly_g31_9, ly_p31_9, ly_g31_52, ly_g31_10, ly_p31_10, ly_g31_53, ly_g31_4, ly_p31_4, ly_g31_47, ly_g31_18, ly_n40, ly_r40, ly_w40, ly_g31_45, ly_n53, ly_r53, ly_w53, ly_g31_19, ly_n41, ly_r41, ly_w41, ly_g31_20, ly_n42, ly_r42, ly_w42, i3n_0, i3n_1, i3n_3, i3n_6, i3n_36, i3n_72, l6n_0, l6n_1, am_kf_s, am_km_s, am_kn_s, am_k_v, am_k_0, am_isr_r, am_isr_n, am_isr_v, am_sw_0, am_sw_i, am_sw_l, am_sw_r, am_sw_n, am_sw_v, am_ct_i, am_ct_r, am_ct_n, am_c1_o, am_c1_n, am_c1_i, am_c1_r, am_c1_v, am_mk_1, lc_lt, lc_gt, lc_eq, lc_le, lc_ge, i01_eq, i01_ok, ite_not, true_or, or_true, true_and, and_true, false_or, or_false, false_and, and_false, if_true, if_false, not_true_eq_false, not_false_eq_true, eq_self, Nat.reduceAdd, Nat.reduceLeDiff, Nat.reduceLT, Nat.reduceEqDiff, Nat.reduceMul, Nat.reduceSub, Nat.reduceDiv, Nat.reduceMod, reduceCtorEq, Nat.zero_le, i3_le, i3_lt, i3_eq, i3_eqN, i3_leN, i3_Nle, i3_ltN, i3_NleN, i3_NeqN, i3_Neq, i3_NltN, i3_Nlt, l6_le, l6_lt, l6_eq, l6_leN, l6_Nle, l6_ltN, l6_Nlt, l6_eqN, l6_Neq, h17, h27, b1, i3_mul, Nat.le_refl]
  | succ k ih =>
    intro i C hk hi h17 h27
    have b1 : i < 2147483648 := by omega
    have b2 : 6 * n < 2147483648 := by omega
    have b3 : ¬ 6 * n ≤ i := by omega
    have b4 : i < 36 := by omega
    have b5 : i < 78 := by omega
    have b6 : 36 + i < 78 := by omega
    obtain ⟨C', e1, e2, e4⟩ := ih (i + 1) (ux (ux C 41 i (C 53 i)) 42 i (C 53 (36 + i))) (by omega) (by omega) (by rw [ux_ne (by omega), ux_ne (by omega)]; exact h17) (by rw [ux_ne (by omega), ux_ne (by omega)]; exact h27)
    refine ⟨C', ?_, fun b q1 q2 => ?_, fun a j q => by rw [e4 a j (by omega), ux_ne (by omega), ux_ne (by omega)]⟩
    · rw [r_M_back_91, ← e1]
      have e42 : ux C 41 i (C 53 i) 53 (36 + i) = C 53 (36 + i) := ux_ne (by omega)
      simp only [r_M_back_92, r_M_back_94, r_M_back_95, r_M_back_98, r_M_back_99, r_M_back_102, r_M_back_103, r_M_back_106, r_M_back_107, r_M_back_108, r_M_back_111, r_M_back_112, r_M_back_113, r_M_back_114, r_M_back_115, r_M_back_118, r_M_back_119, r_M_back_120, r_M_back_123, r_M_back_125, r_M_back_126, r_M_back_127, r_M_back_128, r_M_back_129, r_M_back_129_k, r_M_back_132, r_M_back_135, r_M_back_136, r_M_back_139, ly_g31_46, ly_g31_48, ly_g31_27, ly_p31_27, ly_g31_49, ly_g31_7, ly_p31_7, ly_g31_50, ly_g31_8, ly_p31_8, ly_g31_51, ly_g31_9, ly_p31_9, ly_g31_52, ly_g31_10, ly_p31_10, ly_g31_53, ly_g31_4, ly_p31_4, ly_g31_47, ly_g31_18, ly_n40, ly_r40, ly_w40, ly_g31_45, ly_n53, ly_r53, ly_w53, ly_g31_19, ly_n41, ly_r41, ly_w41, ly_g31_20, ly_n42, ly_r42, ly_w42, i3n_0, i3n_1, i3n_3, i3n_6, i3n_36, i3n_72, l6n_0, l6n_1, am_kf_s, am_km_s, am_kn_s, am_k_v, am_k_0, am_isr_r, am_isr_n, am_isr_v, am_sw_0, am_sw_i, am_sw_l, am_sw_r, am_sw_n, am_sw_v, am_ct_i, am_ct_r, am_ct_n, am_c1_o, am_c1_n, am_c1_i, am_c1_r, am_c1_v, am_mk_1, lc_lt, lc_gt, lc_eq, lc_le, lc_ge, i01_eq, i01_ok, ite_not, true_or, or_true, true_and, and_true, false_or, or_false, false_and, and_false, if_true, if_false, not_true_eq_false, not_false_eq_true, eq_self, Nat.reduceAdd, Nat.reduceLeDiff, Nat.reduceLT, Nat.reduceEqDiff, Nat.reduceMul, Nat.reduceSub, Nat.reduceDiv, Nat.reduceMod, reduceCtorEq, Nat.zero_le, i3_le, i3_lt, i3_eq, i3_eqN, i3_leN, i3_Nle, i3_ltN, i3_NleN, i3_NeqN, i3_Neq, i3_NltN, i3_Nlt, l6_le, l6_lt, l6_eq, l6_leN, l6_Nle, l6_ltN, l6_Nlt, l6_eqN, l6_Neq, h17, b1, b2, b3, b4, b5, b6, i3_add, i3_mul, e42]
    · by_cases hb : b = i
      · subst hb
        exact ⟨by rw [e4 41 b (by omega), ux_ne (by omega), ux_at], by rw [e4 42 b (by omega), ux_at]⟩
      · obtain ⟨g1, g2⟩ := e2 b (by omega) q2
        rw [g1, g2, ux_ne (by omega), ux_ne (by omega), ux_ne (by omega), ux_ne (by omega)]
        exact ⟨rfl, rfl⟩
theorem J_image : rl_pair G x K_H_image K_M_image [] := by
  intro N Z C L R D h
  have hz := h.2.2.2.2.2.2.2.2.1
  obtain ⟨hs, hst, hha, hni, hte, htp, him, hsh, hZ, hS, h58, hu⟩ := h
  have s5 := hs.2.1.1
  have m5 := hs.2.1.2.1
  have h6 := hs.2.1.2.2
  have s6 := hs.2.2.1.1
  have m6 := hs.2.2.1.2.1
  have s10 := hs.2.2.2.2.1.1
  have m10 := hs.2.2.2.2.1.2.1
  have hcp := (cp_any (M := am_mk x true Z C L R D) (sp := 0) (dp := 0) (m := 4) ly_c6 ly_c18 (by decide) (by decide) (by decide) (by decide)).trans (congrArg some (ly_put (o := 18) (f := va_cpy (C 6) (C 18) 0 0 4) (g := L 18) (r := R 18) rfl))
  rw [uk_self, uk_self, va_cpy_0] at hcp
  generalize hCk : uk C 18 (fun k => if k < 4 then C 6 k else C 18 k) = Ck at hcp
  have ck : ∀ a j, ¬ a = 18 → Ck a j = C a j := fun a j q => by rw [← hCk, uk_ne q]
  have ck18 : ∀ j, j < 4 → Ck 18 j = C 6 j := fun j q => by rw [← hCk, uk_at]; rw [if_pos q]
  generalize hCa : ux (ux (ux Ck 0 15 (Int32.ofNat (N 31 4))) 0 16 (Int32.ofNat (N 31 17))) 0 17 (Int32.ofNat (N 31 27)) = Ca
  have ca : ∀ a j, ¬ (a = 18 ∨ a = 0 ∧ 15 ≤ j ∧ j ≤ 17) → Ca a j = C a j := fun a j q => by rw [← hCa, ux_ne (by omega), ux_ne (by omega), ux_ne (by omega), ck a j (by omega)]
  have ca15 : Ca 0 15 = Int32.ofNat (N 31 4) := by rw [← hCa, ux_ne (by omega), ux_ne (by omega), ux_at]
  have ca16 : Ca 0 16 = Int32.ofNat (N 31 17) := by rw [← hCa, ux_ne (by omega), ux_at]
  have ca17 : Ca 0 17 = Int32.ofNat (N 31 27) := by rw [← hCa, ux_at]
  have ca18 : ∀ j, j < 4 → Ca 18 j = C 6 j := fun j q => by rw [← hCa, ux_ne (by omega), ux_ne (by omega), ux_ne (by omega), ck18 j q]
  obtain ⟨C1, e1, f1, f2, -⟩ := l_H_image (G := G) (d := 98) (L := L) (D := D) (nn := N 31 27) hha rfl h6 rfl (N 31 17 - 0) 0 Ca none rfl (Nat.zero_le _) am_c1_n ((ca 0 6 (by omega)).trans s5) ((ca 0 7 (by omega)).trans s6)
  have k10 : Ck 0 10 = Int32.ofNat (N 31 4) := (ck 0 10 (by omega)).trans s10
  have k6 : ∀ v, ux Ck 0 15 v 0 6 = Int32.ofNat (N 31 17) := fun v => (ux_ne (by omega)).trans ((ck 0 6 (by omega)).trans s5)
  have k7 : ∀ v w, ux (ux Ck 0 15 v) 0 16 w 0 7 = Int32.ofNat (N 31 27) := fun v w => (ux_ne (by omega)).trans ((ux_ne (by omega)).trans ((ck 0 7 (by omega)).trans s6))
  have r1 : am_ex G 100 K_H_image [.ref x] (am_mk x true Z C L R D) = some (some (.int (Int32.ofNat (N 31 27))), am_mk x true Z C1 L R D) := by
    rw [← e1]
    simp only [e_H_image, r_H_image_0, r_H_image_1, r_H_image_4, r_H_image_5, r_H_image_6, r_H_image_9, r_H_image_10, r_H_image_11, r_H_image_14, r_H_image_15, r_H_image_18, r_H_image_19, r_H_image_20, r_H_image_23, r_H_image_26, r_H_image_27, r_H_image_28, r_H_image_31, r_H_image_34, r_H_image_35, r_H_image_36, r_H_image_39, r_H_image_42, r_H_image_43, r_H_image_43_k, r_H_image_45, r_H_image_46, r_H_image_49, r_H_image_52, r_H_image_53, r_H_image_54, r_H_image_57, r_H_image_57_k, r_H_image_58, r_H_image_59, r_H_image_62, r_H_image_63, r_H_image_66, r_H_image_66_k, r_H_image_69, r_H_image_72, r_H_image_73, r_H_image_76, ly_g0_9, ly_n6, ly_r6, ly_w6, ly_g0_14, ly_n18, ly_r18, ly_w18, ly_g0_10, ly_g0_15, ly_p0_15, ly_g0_6, ly_g0_16, ly_p0_16, ly_g0_7, ly_g0_17, ly_p0_17, ly_k0, i3n_0, i3n_1, l6n_0, l6n_1, am_kf_s, am_km_s, am_kn_s, am_k_v, am_k_0, am_isr_r, am_isr_n, am_isr_v, am_sw_0, am_sw_i, am_sw_l, am_sw_r, am_sw_n, am_sw_v, am_ct_i, am_ct_r, am_ct_n, am_c1_o, am_c1_n, am_c1_i, am_c1_r, am_c1_v, am_mk_1, lc_lt, lc_gt, lc_eq, lc_le, lc_ge, i01_eq, i01_ok, ite_not, true_or, or_true, true_and, and_true, false_or, or_false, false_and, and_false, if_true, if_false, not_true_eq_false, not_false_eq_true, eq_self, Nat.reduceAdd, Nat.reduceLeDiff, Nat.reduceLT, Nat.reduceEqDiff, Nat.reduceMul, Nat.reduceSub, Nat.reduceDiv, Nat.reduceMod, reduceCtorEq, Nat.zero_le, i3_le, i3_lt, i3_eq, i3_eqN, i3_leN, i3_Nle, i3_ltN, i3_NleN, i3_NeqN, i3_Neq, i3_NltN, i3_Nlt, l6_le, l6_lt, l6_eq, l6_leN, l6_Nle, l6_ltN, l6_Nlt, l6_eqN, l6_Neq, hcp, k10, k6, k7, hCa]
  -- the reference
  have c1 : ∀ a j, ¬ (a = 18 ∨ a = 0 ∧ 15 ≤ j ∧ j ≤ 17 ∨ 5000 ≤ a ∧ a < 5006 ∨ 2000 ≤ a ∧ a < 2006 ∧ j = 7) → C1 a j = C a j := fun a j q => by rw [f1 a j (by omega), ca a j (by omega)]
  have m7 := (c1 31 7 (by omega)).trans hs.2.2.2.2.2.2.1.2.1
  have m8 := (c1 31 8 (by omega)).trans hs.2.2.2.2.2.2.2.1.2.1
  have m9 := (c1 31 9 (by omega)).trans hs.2.2.2.2.2.2.2.2.1.2.1
  have m1 := (c1 31 10 (by omega)).trans hs.2.2.2.2.2.2.2.2.2.2.1
  have m17 := (c1 31 17 (by omega)).trans m5
  have m27 := (c1 31 27 (by omega)).trans m6
  have m4 := (c1 31 4 (by omega)).trans m10
  generalize hCb : ux (ux (ux (ux (ux (ux (ux (ux C1 31 46 (Int32.ofNat 1)) 31 47 (Int32.ofNat (N 31 17))) 31 48 (Int32.ofNat (N 31 27))) 31 49 (Int32.ofNat (N 31 7))) 31 50 (Int32.ofNat (N 31 8))) 31 51 (Int32.ofNat (N 31 9))) 31 52 (Int32.ofNat (N 31 10))) 31 53 (Int32.ofNat (N 31 4)) = Cb
  have cb : ∀ a j, ¬ (a = 31 ∧ 46 ≤ j ∧ j ≤ 53) → Cb a j = C1 a j := fun a j q => by rw [← hCb, ux_ne (by omega), ux_ne (by omega), ux_ne (by omega), ux_ne (by omega), ux_ne (by omega), ux_ne (by omega), ux_ne (by omega), ux_ne (by omega)]
  have cb46 : Cb 31 46 = Int32.ofNat 1 := by rw [← hCb, ux_ne (by omega), ux_ne (by omega), ux_ne (by omega), ux_ne (by omega), ux_ne (by omega), ux_ne (by omega), ux_ne (by omega), ux_at]
  have cb47 : Cb 31 47 = Int32.ofNat (N 31 17) := by rw [← hCb, ux_ne (by omega), ux_ne (by omega), ux_ne (by omega), ux_ne (by omega), ux_ne (by omega), ux_ne (by omega), ux_at]
  have cb48 : Cb 31 48 = Int32.ofNat (N 31 27) := by rw [← hCb, ux_ne (by omega), ux_ne (by omega), ux_ne (by omega), ux_ne (by omega), ux_ne (by omega), ux_at]
  have cb49 : Cb 31 49 = Int32.ofNat (N 31 7) := by rw [← hCb, ux_ne (by omega), ux_ne (by omega), ux_ne (by omega), ux_ne (by omega), ux_at]
  have cb50 : Cb 31 50 = Int32.ofNat (N 31 8) := by rw [← hCb, ux_ne (by omega), ux_ne (by omega), ux_ne (by omega), ux_at]
  have cb51 : Cb 31 51 = Int32.ofNat (N 31 9) := by rw [← hCb, ux_ne (by omega), ux_ne (by omega), ux_at]
  have cb52 : Cb 31 52 = Int32.ofNat (N 31 10) := by rw [← hCb, ux_ne (by omega), ux_at]
  have cb53 : Cb 31 53 = Int32.ofNat (N 31 4) := by rw [← hCb, ux_at]
  obtain ⟨C3, e3, g1, g2⟩ := l_M_image1 (G := G) (d := 99) (x := x) (Z := Z) (L := L) (R := R) (D := D) h6 (N 31 17 - 0) 0 Cb rfl (Nat.zero_le _) ((cb 31 17 (by omega)).trans m17)
  obtain ⟨C4, e4, g3, g4, g5⟩ := l_M_image2 (G := G) (d := 99) (x := x) (Z := Z) (L := L) (R := R) (D := D) (nn := N 31 27) h6 (6 * N 31 17 - 0) 0 C3 rfl (Nat.zero_le _) ((g2 31 17 (by omega)).trans ((cb 31 17 (by omega)).trans m17)) ((g2 31 27 (by omega)).trans ((cb 31 27 (by omega)).trans m27))
  have x1 : ∀ v j, ¬ j = 46 → ux C1 31 46 v 31 j = C1 31 j := fun v j q => ux_ne (by omega)
  have x2 : ∀ (C : Nat → Nat → Int32) v j, ¬ j = 47 → ux C 31 47 v 31 j = C 31 j := fun C v j q => ux_ne (by omega)
  have x3 : ∀ (C : Nat → Nat → Int32) v j, ¬ j = 48 → ux C 31 48 v 31 j = C 31 j := fun C v j q => ux_ne (by omega)
  have x4 : ∀ (C : Nat → Nat → Int32) v j, ¬ j = 49 → ux C 31 49 v 31 j = C 31 j := fun C v j q => ux_ne (by omega)
  have x5 : ∀ (C : Nat → Nat → Int32) v j, ¬ j = 50 → ux C 31 50 v 31 j = C 31 j := fun C v j q => ux_ne (by omega)
  have x6 : ∀ (C : Nat → Nat → Int32) v j, ¬ j = 51 → ux C 31 51 v 31 j = C 31 j := fun C v j q => ux_ne (by omega)
  have x7 : ∀ (C : Nat → Nat → Int32) v j, ¬ j = 52 → ux C 31 52 v 31 j = C 31 j := fun C v j q => ux_ne (by omega)
  have r2 : am_ex G 100 K_M_image [.ref (x + 31)] (am_mk x true Z C1 L R D) = some (some (.int (Int32.ofNat (N 31 27))), am_mk x true Z C4 L R D) := by
    rw [← e4]
    simp only [e_M_image, r_M_image_0, r_M_image_1, r_M_image_2, r_M_image_5, r_M_image_6, r_M_image_7, r_M_image_10, r_M_image_13, r_M_image_14, r_M_image_15, r_M_image_18, r_M_image_21, r_M_image_22, r_M_image_23, r_M_image_26, r_M_image_29, r_M_image_30, r_M_image_31, r_M_image_34, r_M_image_37, r_M_image_38, r_M_image_39, r_M_image_42, r_M_image_45, r_M_image_46, r_M_image_47, r_M_image_50, r_M_image_53, r_M_image_54, r_M_image_55, r_M_image_58, r_M_image_61, r_M_image_62, r_M_image_62_k, r_M_image_64, r_M_image_65, r_M_image_68, r_M_image_71, r_M_image_72, r_M_image_75, r_M_image_77, r_M_image_78, r_M_image_79, r_M_image_80, r_M_image_83, r_M_image_84, r_M_image_85, r_M_image_86, r_M_image_86_k, r_M_image_89, r_M_image_92, r_M_image_93, r_M_image_93_k, r_M_image_95, r_M_image_97, r_M_image_98, r_M_image_101, r_M_image_102, r_M_image_105, r_M_image_106, r_M_image_109, r_M_image_110, r_M_image_111, r_M_image_114, r_M_image_115, r_M_image_116, r_M_image_117, r_M_image_118, r_M_image_121, r_M_image_123, r_M_image_124, r_M_image_125, r_M_image_126, r_M_image_129, r_M_image_130, r_M_image_131, r_M_image_132, r_M_image_132_k, r_M_image_135, r_M_image_138, r_M_image_139, r_M_image_142, ly_g31_46, ly_p31_46, ly_g31_17, ly_g31_47, ly_p31_47, ly_g31_27, ly_g31_48, ly_p31_48, ly_g31_7, ly_g31_49, ly_p31_49, ly_g31_8, ly_g31_50, ly_p31_50, ly_g31_9, ly_g31_51, ly_p31_51, ly_g31_10, ly_g31_52, ly_p31_52, ly_g31_4, ly_g31_53, ly_p31_53, ly_g31_45, ly_n53, ly_r53, ly_w53, ly_g31_18, ly_n40, ly_r40, ly_w40, ly_g31_19, ly_n41, ly_r41, ly_w41, ly_g31_20, ly_n42, ly_r42, ly_w42, i3n_0, i3n_1, i3n_6, i3n_36, i3n_72, l6n_0, l6n_1, am_kf_s, am_km_s, am_kn_s, am_k_v, am_k_0, am_isr_r, am_isr_n, am_isr_v, am_sw_0, am_sw_i, am_sw_l, am_sw_r, am_sw_n, am_sw_v, am_ct_i, am_ct_r, am_ct_n, am_c1_o, am_c1_n, am_c1_i, am_c1_r, am_c1_v, am_mk_1, lc_lt, lc_gt, lc_eq, lc_le, lc_ge, i01_eq, i01_ok, ite_not, true_or, or_true, true_and, and_true, false_or, or_false, false_and, and_false, if_true, if_false, not_true_eq_false, not_false_eq_true, eq_self, Nat.reduceAdd, Nat.reduceLeDiff, Nat.reduceLT, Nat.reduceEqDiff, Nat.reduceMul, Nat.reduceSub, Nat.reduceDiv, Nat.reduceMod, reduceCtorEq, Nat.zero_le, i3_le, i3_lt, i3_eq, i3_eqN, i3_leN, i3_Nle, i3_ltN, i3_NleN, i3_NeqN, i3_Neq, i3_NltN, i3_Nlt, l6_le, l6_lt, l6_eq, l6_leN, l6_Nle, l6_ltN, l6_Nlt, l6_eqN, l6_Neq, x1, x2, x3, x4, x5, x6, x7, m7, m8, m9, m1, m17, m27, m4, hCb, e3]
  generalize hN : (fun a j => if a = 31 ∧ j = 47 then N 31 17 else if a = 31 ∧ j = 48 then N 31 27 else if a = 31 ∧ j = 49 then N 31 7 else if a = 31 ∧ j = 50 then N 31 8 else if a = 31 ∧ j = 51 then N 31 9 else if a = 31 ∧ j = 52 then N 31 10 else if a = 31 ∧ j = 53 then N 31 4 else if a = 53 then (if j < 72 then N 41 j else N 40 (j - 72)) else N a j : Nat → Nat → Nat) = N'
  have nn : ∀ a j, ¬ (a = 31 ∧ 47 ≤ j ∧ j ≤ 53 ∨ a = 53) → N' a j = N a j := fun a j q => by rw [← hN]; simp only; rw [if_neg (by omega), if_neg (by omega), if_neg (by omega), if_neg (by omega), if_neg (by omega), if_neg (by omega), if_neg (by omega), if_neg (by omega)]
  have n47 : N' 31 47 = N 31 17 := by rw [← hN]; rfl
  have n48 : N' 31 48 = N 31 27 := by rw [← hN]; rfl
  have n49 : N' 31 49 = N 31 7 := by rw [← hN]; rfl
  have n50 : N' 31 50 = N 31 8 := by rw [← hN]; rfl
  have n51 : N' 31 51 = N 31 9 := by rw [← hN]; rfl
  have n52 : N' 31 52 = N 31 10 := by rw [← hN]; rfl
  have n53 : N' 31 53 = N 31 4 := by rw [← hN]; rfl
  have na : ∀ j, j < 72 → N' 53 j = N 41 j := fun j q => by rw [← hN]; show (if j < 72 then N 41 j else N 40 (j - 72)) = N 41 j; rw [if_pos q]
  have nb : ∀ j, N' 53 (72 + j) = N 40 j := fun j => by rw [← hN]; show (if 72 + j < 72 then N 41 (72 + j) else N 40 (72 + j - 72)) = N 40 j; rw [if_neg (by omega), Nat.add_sub_cancel_left]
  have c2 : ∀ a j, ¬ (a = 18 ∨ a = 0 ∧ 15 ≤ j ∧ j ≤ 17 ∨ 5000 ≤ a ∧ a < 5006 ∨ 2000 ≤ a ∧ a < 2006 ∧ j = 7 ∨ a = 31 ∧ 46 ≤ j ∧ j ≤ 53 ∨ a = 53) → C4 a j = C a j := fun a j q => by rw [g5 a j (by omega), g2 a j (by omega), cb a j (by omega), c1 a j (by omega)]
  have c3 : ∀ j, C4 31 j = Cb 31 j := fun j => by rw [g5 31 j (by omega), g2 31 j (by omega)]
  have c4 : ∀ a j, ¬ (a = 31 ∨ a = 53) → C4 a j = C1 a j := fun a j q => by rw [g5 a j (by omega), g2 a j (by omega), cb a j (by omega)]
  refine ⟨_, N', Z, C1, L, R, D, Z, C4, L, R, D, r1, r2, ⟨by
          obtain ⟨q1, q2, q3, q4, q5, q6, q7, q8, q9, q10⟩ := hs
          exact ⟨by rw [c2 0 5 (by omega), c2 31 13 (by omega), nn 31 13 (by omega)]; exact q1, by rw [c2 0 6 (by omega), c2 31 17 (by omega), nn 31 17 (by omega)]; exact q2, by rw [c2 0 7 (by omega), c2 31 27 (by omega), nn 31 27 (by omega)]; exact q3, by rw [c2 0 8 (by omega), c2 31 3 (by omega), nn 31 3 (by omega)]; exact q4, by rw [c2 0 10 (by omega), c2 31 4 (by omega), nn 31 4 (by omega), nn 31 3 (by omega)]; exact q5, by rw [c2 7 1 (by omega), c2 31 6 (by omega), nn 31 6 (by omega)]; exact q6, by rw [c2 6 0 (by omega), c2 31 7 (by omega), nn 31 7 (by omega)]; exact q7, by rw [c2 6 1 (by omega), c2 31 8 (by omega), nn 31 8 (by omega)]; exact q8, by rw [c2 6 2 (by omega), c2 31 9 (by omega), nn 31 9 (by omega)]; exact q9, by rw [c2 6 3 (by omega), c2 31 10 (by omega), nn 31 10 (by omega)]; exact q10⟩, rl_st_fr hst hs.1.2.2 (nn _ _ (by omega)) (fun j => ⟨nn _ _ (by omega), nn _ _ (by omega)⟩) (fun j => ⟨c2 _ _ (by omega), c2 _ _ (by omega)⟩) (fun k j q1 q2 => c2 _ _ (by omega)) (fun j => rfl) rl_zt_rf, rl_ha_fr hha hs.2.1.2.2 (nn _ _ (by omega)) (Nat.le_of_eq (nn 31 13 (by omega)).symm) (fun k j q1 q2 => nn _ _ (by omega)) (fun k j q1 q2 => c2 _ _ (by omega)) (fun k j q1 q2 q3 => c2 _ _ (by omega)) (fun j => rfl) (fun k j q1 q2 => rfl) rl_zt_rf, rl_ni_fr hni hs.2.2.1.2.2 hs.2.1.2.2 (nn _ _ (by omega)) (Nat.le_of_eq (nn 31 17 (by omega)).symm) (fun k j q1 q2 => nn _ _ (by omega)) (fun k j q1 q2 => c2 _ _ (by omega)) (fun k j q1 q2 => c2 _ _ (by omega)) (fun j => rfl) (fun k j q1 q2 => rfl) rl_zt_rf (fun _ _ => rfl), rl_te_fr hte hs.2.2.2.1.2.2 (nn _ _ (by omega)) (fun j => ⟨nn _ _ (by omega), nn _ _ (by omega)⟩) (fun j => ⟨c2 _ _ (by omega), c2 _ _ (by omega)⟩) (fun k j q1 q2 => c2 _ _ (by omega)) (fun j => rfl) (fun k j q1 q2 => rfl) rl_zt_rf, rl_tp_fr htp (nn _ _ (by omega)) (fun j => nn _ _ (by omega)) (fun j => ⟨c2 _ _ (by omega), c2 _ _ (by omega)⟩), ?_, rl_sh_fr hsh (fun k j q1 q2 => c2 _ _ (by omega)) (fun k j q1 q2 => c2 _ _ (by omega)) (fun j => rfl), hZ, hS, h58, hu⟩, by omega, hz.2.1, fun _ _ => rfl⟩
  refine Or.inr ⟨by rw [c3, cb46], ?_, ?_, ?_, ?_, ?_, ?_, ?_, fun i hi => ?_⟩
  · rw [c3, cb48, n48, nn 31 27 (by omega), c4 0 17 (by omega), f1 0 17 (by omega), ca17]; exact ⟨rfl, rfl, Nat.le_refl _⟩
  · rw [c3, cb47, n47, nn 31 17 (by omega), c4 0 16 (by omega), f1 0 16 (by omega), ca16]; exact ⟨rfl, rfl, Nat.le_refl _⟩
  · rw [c3, cb53, n53, nn 31 3 (by omega), c4 0 15 (by omega), f1 0 15 (by omega), ca15]; exact ⟨rfl, rfl, hs.2.2.2.2.1.2.2⟩
  · rw [c3, cb49, n49, c4 18 0 (by omega), f1 18 0 (by omega), ca18 0 (by omega)]; exact ⟨hs.2.2.2.2.2.2.1.1, rfl, hs.2.2.2.2.2.2.1.2.2⟩
  · rw [c3, cb50, n50, c4 18 1 (by omega), f1 18 1 (by omega), ca18 1 (by omega)]; exact ⟨hs.2.2.2.2.2.2.2.1.1, rfl, hs.2.2.2.2.2.2.2.1.2.2⟩
  · rw [c3, cb51, n51, c4 18 2 (by omega), f1 18 2 (by omega), ca18 2 (by omega)]; exact ⟨hs.2.2.2.2.2.2.2.2.1.1, rfl, hs.2.2.2.2.2.2.2.2.1.2.2⟩
  · rw [c3, cb52, n52, c4 18 3 (by omega), f1 18 3 (by omega), ca18 3 (by omega)]; exact ⟨hs.2.2.2.2.2.2.2.2.2.1, rfl, hs.2.2.2.2.2.2.2.2.2.2.2⟩
  · rw [n47] at hi
    obtain ⟨-, -, -, -, -, -, -, -, -, -, -, a12, a13⟩ := hha i hi
    obtain ⟨v1, v2⟩ := f2 i (Nat.zero_le _) hi
    refine ⟨?_, fun k hk => ?_⟩
    · rw [nb, nn 40 i (by omega), c4 _ _ (by omega), v1, ca _ _ (by omega), g4 (72 + i) (by omega), g1 i (by omega) hi, cb 40 i (by omega), c1 40 i (by omega)]
      exact ⟨a12.1, a12.2.1, Nat.le_refl _⟩
    · rw [nb] at hk
      obtain ⟨b1, b2⟩ := a13 k hk
      have k6 : k < 6 := by omega
      obtain ⟨w1, w2⟩ := g3 (6 * i + k) (by omega) (by omega)
      rw [na _ (by omega), nn 31 13 (by omega), nn 42 _ (by omega), c4 _ _ (by omega), v2 k k6, ca _ _ (by omega), w1, g2 41 _ (by omega), cb 41 _ (by omega), c1 41 _ (by omega), Nat.add_assoc, w2, g2 42 _ (by omega), cb 42 _ (by omega), c1 42 _ (by omega)]
      exact ⟨b1, b2.2.1⟩
theorem J_back : rl_pair G x K_H_back K_M_back [] := by
  intro N Z C L R D h
  have hz := h.2.2.2.2.2.2.2.2.1
  rcases h.2.2.2.2.2.2.1 with ⟨h1, h2⟩ | ⟨hasI, a2, a3, a4, a5, a6, a7, a8, a9⟩
  · refine ⟨.int (-Int32.ofNat 3), N, Z, C, L, R, D, Z, C, L, R, D, ?_, ?_, h, by omega, hz.2.1, fun _ _ => rfl⟩
    · simp only [e_H_back, r_H_back_0, r_H_back_1, r_H_back_4, r_H_back_5, r_H_back_8, r_H_back_10, r_H_back_11, r_H_back_12, r_H_back_15, r_H_back_16, r_H_back_17, r_H_back_20, r_H_back_21, r_H_back_22, r_H_back_25, r_H_back_26, r_H_back_29, r_H_back_30, r_H_back_31, r_H_back_34, r_H_back_37, r_H_back_38, r_H_back_39, r_H_back_42, r_H_back_45, r_H_back_46, r_H_back_46_k, r_H_back_48, r_H_back_49, r_H_back_52, r_H_back_55, r_H_back_56, r_H_back_57, r_H_back_60, r_H_back_60_k, r_H_back_61, r_H_back_62, r_H_back_65, r_H_back_66, r_H_back_69, r_H_back_69_k, r_H_back_72, r_H_back_75, r_H_back_76, r_H_back_79, ly_g0_17, ly_g0_14, ly_n18, ly_r18, ly_w18, ly_g0_9, ly_n6, ly_r6, ly_w6, ly_g0_15, ly_g0_10, ly_p0_10, ly_g0_7, ly_p0_7, ly_g0_16, ly_k0, i3n_0, i3n_1, i3n_3, l6n_0, l6n_1, am_kf_s, am_km_s, am_kn_s, am_k_v, am_k_0, am_isr_r, am_isr_n, am_isr_v, am_sw_0, am_sw_i, am_sw_l, am_sw_r, am_sw_n, am_sw_v, am_ct_i, am_ct_r, am_ct_n, am_c1_o, am_c1_n, am_c1_i, am_c1_r, am_c1_v, am_mk_1, lc_lt, lc_gt, lc_eq, lc_le, lc_ge, i01_eq, i01_ok, ite_not, true_or, or_true, true_and, and_true, false_or, or_false, false_and, and_false, if_true, if_false, not_true_eq_false, not_false_eq_true, eq_self, Nat.reduceAdd, Nat.reduceLeDiff, Nat.reduceLT, Nat.reduceEqDiff, Nat.reduceMul, Nat.reduceSub, Nat.reduceDiv, Nat.reduceMod, reduceCtorEq, Nat.zero_le, i3_le, i3_lt, i3_eq, i3_eqN, i3_leN, i3_Nle, i3_ltN, i3_NleN, i3_NeqN, i3_Neq, i3_NltN, i3_Nlt, l6_le, l6_lt, l6_eq, l6_leN, l6_Nle, l6_ltN, l6_Nlt, l6_eqN, l6_Neq, h2]
    · simp only [e_M_back, r_M_back_0, r_M_back_1, r_M_back_4, r_M_back_7, r_M_back_9, r_M_back_10, r_M_back_11, r_M_back_12, r_M_back_15, r_M_back_18, r_M_back_19, r_M_back_20, r_M_back_23, r_M_back_26, r_M_back_27, r_M_back_28, r_M_back_31, r_M_back_34, r_M_back_35, r_M_back_36, r_M_back_39, r_M_back_42, r_M_back_43, r_M_back_44, r_M_back_47, r_M_back_50, r_M_back_51, r_M_back_52, r_M_back_55, r_M_back_58, r_M_back_59, r_M_back_59_k, r_M_back_61, r_M_back_62, r_M_back_65, r_M_back_68, r_M_back_69, r_M_back_72, r_M_back_73, r_M_back_74, r_M_back_77, r_M_back_79, r_M_back_80, r_M_back_81, r_M_back_82, r_M_back_83, r_M_back_83_k, r_M_back_86, r_M_back_89, r_M_back_90, r_M_back_90_k, r_M_back_92, r_M_back_94, r_M_back_95, r_M_back_98, r_M_back_99, r_M_back_102, r_M_back_103, r_M_back_106, r_M_back_107, r_M_back_108, r_M_back_111, r_M_back_112, r_M_back_113, r_M_back_114, r_M_back_115, r_M_back_118, r_M_back_119, r_M_back_120, r_M_back_123, r_M_back_125, r_M_back_126, r_M_back_127, r_M_back_128, r_M_back_129, r_M_back_129_k, r_M_back_132, r_M_back_135, r_M_back_136, r_M_back_139, ly_g31_46, ly_g31_48, ly_g31_27, ly_p31_27, ly_g31_49, ly_g31_7, ly_p31_7, ly_g31_50, ly_g31_8, ly_p31_8, ly_g31_51, ly_g31_9, ly_p31_9, ly_g31_52, ly_g31_10, ly_p31_10, ly_g31_53, ly_g31_4, ly_p31_4, ly_g31_47, ly_g31_18, ly_n40, ly_r40, ly_w40, ly_g31_45, ly_n53, ly_r53, ly_w53, ly_g31_19, ly_n41, ly_r41, ly_w41, ly_g31_20, ly_n42, ly_r42, ly_w42, i3n_0, i3n_1, i3n_3, i3n_6, i3n_36, i3n_72, l6n_0, l6n_1, am_kf_s, am_km_s, am_kn_s, am_k_v, am_k_0, am_isr_r, am_isr_n, am_isr_v, am_sw_0, am_sw_i, am_sw_l, am_sw_r, am_sw_n, am_sw_v, am_ct_i, am_ct_r, am_ct_n, am_c1_o, am_c1_n, am_c1_i, am_c1_r, am_c1_v, am_mk_1, lc_lt, lc_gt, lc_eq, lc_le, lc_ge, i01_eq, i01_ok, ite_not, true_or, or_true, true_and, and_true, false_or, or_false, false_and, and_false, if_true, if_false, not_true_eq_false, not_false_eq_true, eq_self, Nat.reduceAdd, Nat.reduceLeDiff, Nat.reduceLT, Nat.reduceEqDiff, Nat.reduceMul, Nat.reduceSub, Nat.reduceDiv, Nat.reduceMod, reduceCtorEq, Nat.zero_le, i3_le, i3_lt, i3_eq, i3_eqN, i3_leN, i3_Nle, i3_ltN, i3_NleN, i3_NeqN, i3_Neq, i3_NltN, i3_Nlt, l6_le, l6_lt, l6_eq, l6_leN, l6_Nle, l6_ltN, l6_Nlt, l6_eqN, l6_Neq, h1]
  have him0 := h.2.2.2.2.2.2.1
  obtain ⟨hs, hst, hha, hni, hte, htp, him, hsh, hZ, hS, h58, hu⟩ := h
  have h6 := hs.2.1.2.2
  have h40 := hs.2.2.1.2.2
  have hm := a3.2.2
  have l48 := a2.2.2
  have b48 : N 31 48 < 2147483648 := by omega
  have s5 := hs.2.1.1
  have hcp := (cp_any (M := am_mk x true Z C L R D) (sp := 0) (dp := 0) (m := 4) ly_c18 ly_c6 (by decide) (by decide) (by decide) (by decide)).trans (congrArg some (ly_put (o := 6) (f := va_cpy (C 18) (C 6) 0 0 4) (g := L 6) (r := R 6) rfl))
  rw [uk_self, uk_self, va_cpy_0] at hcp
  generalize hCk : uk C 6 (fun k => if k < 4 then C 18 k else C 6 k) = Ck at hcp
  have ck : ∀ a j, ¬ a = 6 → Ck a j = C a j := fun a j q => by rw [← hCk, uk_ne q]
  have ck6 : ∀ j, j < 4 → Ck 6 j = C 18 j := fun j q => by rw [← hCk, uk_at]; rw [if_pos q]
  generalize hCa : ux (ux Ck 0 10 (Int32.ofNat (N 31 53))) 0 7 (Int32.ofNat (N 31 48)) = Ca
  have ca : ∀ a j, ¬ (a = 6 ∨ a = 0 ∧ (j = 7 ∨ j = 10)) → Ca a j = C a j := fun a j q => by rw [← hCa, ux_ne (by omega), ux_ne (by omega), ck a j (by omega)]
  have ca10 : Ca 0 10 = Int32.ofNat (N 31 53) := by rw [← hCa, ux_ne (by omega), ux_at]
  have ca7 : Ca 0 7 = Int32.ofNat (N 31 48) := by rw [← hCa, ux_at]
  have ca6 : ∀ j, j < 4 → Ca 6 j = C 18 j := fun j q => by rw [← hCa, ux_ne (by omega), ux_ne (by omega), ck6 j q]
  obtain ⟨C1, e1, f1, f2, f3⟩ := l_H_back (G := G) (d := 98) (L := L) (D := D) (nn := N 31 48) hha rfl h6 hm (N 31 47 - 0) 0 Ca none rfl (Nat.zero_le _) am_c1_n ((ca 0 6 (by omega)).trans s5) ((ca 0 16 (by omega)).trans a3.1) ca7
  have k15 : Ck 0 15 = Int32.ofNat (N 31 53) := (ck 0 15 (by omega)).trans a4.1
  have k17 : ∀ v, ux Ck 0 10 v 0 17 = Int32.ofNat (N 31 48) := fun v => (ux_ne (by omega)).trans ((ck 0 17 (by omega)).trans a2.1)
  have r1 : am_ex G 100 K_H_back [.ref x] (am_mk x true Z C L R D) = some (some (.int (Int32.ofNat (N 31 48))), am_mk x true Z C1 L R D) := by
    rw [← e1]
    simp only [e_H_back, r_H_back_0, r_H_back_1, r_H_back_4, r_H_back_5, r_H_back_8, r_H_back_10, r_H_back_11, r_H_back_12, r_H_back_15, r_H_back_16, r_H_back_17, r_H_back_20, r_H_back_21, r_H_back_22, r_H_back_25, r_H_back_26, r_H_back_29, r_H_back_30, r_H_back_31, r_H_back_34, r_H_back_37, r_H_back_38, r_H_back_39, r_H_back_42, r_H_back_45, r_H_back_46, r_H_back_46_k, r_H_back_48, r_H_back_49, r_H_back_52, r_H_back_55, r_H_back_56, r_H_back_57, r_H_back_60, r_H_back_60_k, r_H_back_61, r_H_back_62, r_H_back_65, r_H_back_66, r_H_back_69, r_H_back_69_k, r_H_back_72, r_H_back_75, r_H_back_76, r_H_back_79, ly_g0_17, ly_g0_14, ly_n18, ly_r18, ly_w18, ly_g0_9, ly_n6, ly_r6, ly_w6, ly_g0_15, ly_g0_10, ly_p0_10, ly_g0_7, ly_p0_7, ly_g0_16, ly_k0, i3n_0, i3n_1, i3n_3, l6n_0, l6n_1, am_kf_s, am_km_s, am_kn_s, am_k_v, am_k_0, am_isr_r, am_isr_n, am_isr_v, am_sw_0, am_sw_i, am_sw_l, am_sw_r, am_sw_n, am_sw_v, am_ct_i, am_ct_r, am_ct_n, am_c1_o, am_c1_n, am_c1_i, am_c1_r, am_c1_v, am_mk_1, lc_lt, lc_gt, lc_eq, lc_le, lc_ge, i01_eq, i01_ok, ite_not, true_or, or_true, true_and, and_true, false_or, or_false, false_and, and_false, if_true, if_false, not_true_eq_false, not_false_eq_true, eq_self, Nat.reduceAdd, Nat.reduceLeDiff, Nat.reduceLT, Nat.reduceEqDiff, Nat.reduceMul, Nat.reduceSub, Nat.reduceDiv, Nat.reduceMod, reduceCtorEq, Nat.zero_le, i3_le, i3_lt, i3_eq, i3_eqN, i3_leN, i3_Nle, i3_ltN, i3_NleN, i3_NeqN, i3_Neq, i3_NltN, i3_Nlt, l6_le, l6_lt, l6_eq, l6_leN, l6_Nle, l6_ltN, l6_Nlt, l6_eqN, l6_Neq, hcp, a2.1, b48, k15, k17, hCa]
  have c1 : ∀ a j, ¬ (a = 6 ∨ a = 0 ∧ (j = 7 ∨ j = 10) ∨ 3000 ≤ a ∧ a < 3006 ∨ 2000 ≤ a ∧ a < 2006 ∧ j = 5) → C1 a j = C a j := fun a j q => by rw [f1 a j (by omega), ca a j (by omega)]
  have m46 := (c1 31 46 (by omega)).trans hasI
  have m47 := (c1 31 47 (by omega)).trans a3.2.1
  have m48 := (c1 31 48 (by omega)).trans a2.2.1
  have m49 := (c1 31 49 (by omega)).trans a5.2.1
  have m50 := (c1 31 50 (by omega)).trans a6.2.1
  have m51 := (c1 31 51 (by omega)).trans a7.2.1
  have m52 := (c1 31 52 (by omega)).trans a8.2.1
  have m53 := (c1 31 53 (by omega)).trans a4.2.1
  generalize hCb : ux (ux (ux (ux (ux (ux C1 31 27 (Int32.ofNat (N 31 48))) 31 7 (Int32.ofNat (N 31 49))) 31 8 (Int32.ofNat (N 31 50))) 31 9 (Int32.ofNat (N 31 51))) 31 10 (Int32.ofNat (N 31 52))) 31 4 (Int32.ofNat (N 31 53)) = Cb
  have cb : ∀ a j, ¬ (a = 31 ∧ (j = 27 ∨ j = 4 ∨ 7 ≤ j ∧ j ≤ 10)) → Cb a j = C1 a j := fun a j q => by rw [← hCb, ux_ne (by omega), ux_ne (by omega), ux_ne (by omega), ux_ne (by omega), ux_ne (by omega), ux_ne (by omega)]
  have cb27 : Cb 31 27 = Int32.ofNat (N 31 48) := by rw [← hCb, ux_ne (by omega), ux_ne (by omega), ux_ne (by omega), ux_ne (by omega), ux_ne (by omega), ux_at]
  have cb7 : Cb 31 7 = Int32.ofNat (N 31 49) := by rw [← hCb, ux_ne (by omega), ux_ne (by omega), ux_ne (by omega), ux_ne (by omega), ux_at]
  have cb8 : Cb 31 8 = Int32.ofNat (N 31 50) := by rw [← hCb, ux_ne (by omega), ux_ne (by omega), ux_ne (by omega), ux_at]
  have cb9 : Cb 31 9 = Int32.ofNat (N 31 51) := by rw [← hCb, ux_ne (by omega), ux_ne (by omega), ux_at]
  have cb10 : Cb 31 10 = Int32.ofNat (N 31 52) := by rw [← hCb, ux_ne (by omega), ux_at]
  have cb4 : Cb 31 4 = Int32.ofNat (N 31 53) := by rw [← hCb, ux_at]
  have hm6 : N 31 47 ≤ 6 := by omega
  obtain ⟨C3, e3, g1, g2⟩ := l_M_back1 (G := G) (d := 99) (x := x) (Z := Z) (L := L) (R := R) (D := D) hm6 (N 31 47 - 0) 0 Cb rfl (Nat.zero_le _) ((cb 31 47 (by omega)).trans m47)
  obtain ⟨C4, e4, g3, g5⟩ := l_M_back2 (G := G) (d := 99) (x := x) (Z := Z) (L := L) (R := R) (D := D) (nn := N 31 48) hm6 (6 * N 31 47 - 0) 0 C3 rfl (Nat.zero_le _) ((g2 31 47 (by omega)).trans ((cb 31 47 (by omega)).trans m47)) ((g2 31 27 (by omega)).trans cb27)
  have x1 : ∀ (C : Nat → Nat → Int32) v j, ¬ j = 27 → ux C 31 27 v 31 j = C 31 j := fun C v j q => ux_ne (by omega)
  have x2 : ∀ (C : Nat → Nat → Int32) v j, ¬ j = 7 → ux C 31 7 v 31 j = C 31 j := fun C v j q => ux_ne (by omega)
  have x3 : ∀ (C : Nat → Nat → Int32) v j, ¬ j = 8 → ux C 31 8 v 31 j = C 31 j := fun C v j q => ux_ne (by omega)
  have x4 : ∀ (C : Nat → Nat → Int32) v j, ¬ j = 9 → ux C 31 9 v 31 j = C 31 j := fun C v j q => ux_ne (by omega)
  have x5 : ∀ (C : Nat → Nat → Int32) v j, ¬ j = 10 → ux C 31 10 v 31 j = C 31 j := fun C v j q => ux_ne (by omega)
  have r2 : am_ex G 100 K_M_back [.ref (x + 31)] (am_mk x true Z C1 L R D) = some (some (.int (Int32.ofNat (N 31 48))), am_mk x true Z C4 L R D) := by
    rw [← e4]
    simp only [e_M_back, r_M_back_0, r_M_back_1, r_M_back_4, r_M_back_7, r_M_back_9, r_M_back_10, r_M_back_11, r_M_back_12, r_M_back_15, r_M_back_18, r_M_back_19, r_M_back_20, r_M_back_23, r_M_back_26, r_M_back_27, r_M_back_28, r_M_back_31, r_M_back_34, r_M_back_35, r_M_back_36, r_M_back_39, r_M_back_42, r_M_back_43, r_M_back_44, r_M_back_47, r_M_back_50, r_M_back_51, r_M_back_52, r_M_back_55, r_M_back_58, r_M_back_59, r_M_back_59_k, r_M_back_61, r_M_back_62, r_M_back_65, r_M_back_68, r_M_back_69, r_M_back_72, r_M_back_73, r_M_back_74, r_M_back_77, r_M_back_79, r_M_back_80, r_M_back_81, r_M_back_82, r_M_back_83, r_M_back_83_k, r_M_back_86, r_M_back_89, r_M_back_90, r_M_back_90_k, r_M_back_92, r_M_back_94, r_M_back_95, r_M_back_98, r_M_back_99, r_M_back_102, r_M_back_103, r_M_back_106, r_M_back_107, r_M_back_108, r_M_back_111, r_M_back_112, r_M_back_113, r_M_back_114, r_M_back_115, r_M_back_118, r_M_back_119, r_M_back_120, r_M_back_123, r_M_back_125, r_M_back_126, r_M_back_127, r_M_back_128, r_M_back_129, r_M_back_129_k, r_M_back_132, r_M_back_135, r_M_back_136, r_M_back_139, ly_g31_46, ly_g31_48, ly_g31_27, ly_p31_27, ly_g31_49, ly_g31_7, ly_p31_7, ly_g31_50, ly_g31_8, ly_p31_8, ly_g31_51, ly_g31_9, ly_p31_9, ly_g31_52, ly_g31_10, ly_p31_10, ly_g31_53, ly_g31_4, ly_p31_4, ly_g31_47, ly_g31_18, ly_n40, ly_r40, ly_w40, ly_g31_45, ly_n53, ly_r53, ly_w53, ly_g31_19, ly_n41, ly_r41, ly_w41, ly_g31_20, ly_n42, ly_r42, ly_w42, i3n_0, i3n_1, i3n_3, i3n_6, i3n_36, i3n_72, l6n_0, l6n_1, am_kf_s, am_km_s, am_kn_s, am_k_v, am_k_0, am_isr_r, am_isr_n, am_isr_v, am_sw_0, am_sw_i, am_sw_l, am_sw_r, am_sw_n, am_sw_v, am_ct_i, am_ct_r, am_ct_n, am_c1_o, am_c1_n, am_c1_i, am_c1_r, am_c1_v, am_mk_1, lc_lt, lc_gt, lc_eq, lc_le, lc_ge, i01_eq, i01_ok, ite_not, true_or, or_true, true_and, and_true, false_or, or_false, false_and, and_false, if_true, if_false, not_true_eq_false, not_false_eq_true, eq_self, Nat.reduceAdd, Nat.reduceLeDiff, Nat.reduceLT, Nat.reduceEqDiff, Nat.reduceMul, Nat.reduceSub, Nat.reduceDiv, Nat.reduceMod, reduceCtorEq, Nat.zero_le, i3_le, i3_lt, i3_eq, i3_eqN, i3_leN, i3_Nle, i3_ltN, i3_NleN, i3_NeqN, i3_Neq, i3_NltN, i3_Nlt, l6_le, l6_lt, l6_eq, l6_leN, l6_Nle, l6_ltN, l6_Nlt, l6_eqN, l6_Neq, x1, x2, x3, x4, x5, m46, m47, m48, m49, m50, m51, m52, m53, hCb, e3]
  generalize hN : (fun a j => if a = 31 ∧ j = 27 then N 31 48 else if a = 31 ∧ j = 7 then N 31 49 else if a = 31 ∧ j = 8 then N 31 50 else if a = 31 ∧ j = 9 then N 31 51 else if a = 31 ∧ j = 10 then N 31 52 else if a = 31 ∧ j = 4 then N 31 53 else if a = 40 ∧ j < N 31 47 then N 53 (72 + j) else if a = 41 ∧ j < 6 * N 31 47 then N 53 j else N a j : Nat → Nat → Nat) = N'
  have nn : ∀ a j, ¬ (a = 31 ∧ (j = 27 ∨ j = 4 ∨ 7 ≤ j ∧ j ≤ 10) ∨ a = 40 ∧ j < N 31 47 ∨ a = 41 ∧ j < 6 * N 31 47) → N' a j = N a j := fun a j q => by rw [← hN]; simp only; rw [if_neg (by omega), if_neg (by omega), if_neg (by omega), if_neg (by omega), if_neg (by omega), if_neg (by omega), if_neg (by omega), if_neg (by omega)]
  have n27 : N' 31 27 = N 31 48 := by rw [← hN]; rfl
  have n7 : N' 31 7 = N 31 49 := by rw [← hN]; rfl
  have n8 : N' 31 8 = N 31 50 := by rw [← hN]; rfl
  have n9 : N' 31 9 = N 31 51 := by rw [← hN]; rfl
  have n10 : N' 31 10 = N 31 52 := by rw [← hN]; rfl
  have n4 : N' 31 4 = N 31 53 := by rw [← hN]; rfl
  have n40 : ∀ j, j < N 31 47 → N' 40 j = N 53 (72 + j) := fun j q => by rw [← hN]; simp only; rw [if_neg (by omega), if_neg (by omega), if_neg (by omega), if_neg (by omega), if_neg (by omega), if_neg (by omega), if_pos ⟨trivial, q⟩]
  have n41 : ∀ j, j < 6 * N 31 47 → N' 41 j = N 53 j := fun j q => by rw [← hN]; simp only; rw [if_neg (by omega), if_neg (by omega), if_neg (by omega), if_neg (by omega), if_neg (by omega), if_neg (by omega), if_neg (by omega), if_pos ⟨trivial, q⟩]
  have c3 : ∀ a j, ¬ ((a = 40 ∧ j < N 31 47) ∨ (a = 41 ∨ a = 42) ∧ j < 6 * N 31 47) → C4 a j = Cb a j := fun a j q => by rw [g5 a j (by omega), g2 a j (by omega)]
  have c2 : ∀ a j, ¬ (a = 6 ∨ a = 0 ∧ (j = 7 ∨ j = 10) ∨ 3000 ≤ a ∧ a < 3006 ∨ 2000 ≤ a ∧ a < 2006 ∧ j = 5 ∨ a = 31 ∧ (j = 27 ∨ j = 4 ∨ 7 ≤ j ∧ j ≤ 10) ∨ a = 40 ∧ j < N 31 47 ∨ (a = 41 ∨ a = 42) ∧ j < 6 * N 31 47) → C4 a j = C a j := fun a j q => by rw [c3 a j (by omega), cb a j (by omega), c1 a j (by omega)]
  have w07 : C4 0 7 = Int32.ofNat (N 31 48) := by rw [c3 0 7 (by omega), cb 0 7 (by omega), f1 0 7 (by omega), ca7]
  have w010 : C4 0 10 = Int32.ofNat (N 31 53) := by rw [c3 0 10 (by omega), cb 0 10 (by omega), f1 0 10 (by omega), ca10]
  have w27 : C4 31 27 = Int32.ofNat (N 31 48) := by rw [c3 31 27 (by omega), cb27]
  have w4 : C4 31 4 = Int32.ofNat (N 31 53) := by rw [c3 31 4 (by omega), cb4]
  have w31_7 : C4 31 7 = Int32.ofNat (N 31 49) := by rw [c3 31 7 (by omega), cb7]
  have w31_8 : C4 31 8 = Int32.ofNat (N 31 50) := by rw [c3 31 8 (by omega), cb8]
  have w31_9 : C4 31 9 = Int32.ofNat (N 31 51) := by rw [c3 31 9 (by omega), cb9]
  have w31_10 : C4 31 10 = Int32.ofNat (N 31 52) := by rw [c3 31 10 (by omega), cb10]
  have c2a : ∀ j, C4 6 j = Ca 6 j := fun j => by rw [c3 6 j (by omega), cb 6 j (by omega), f1 6 j (by omega)]
  have w6 := ca6
  have c53 : ∀ j, C4 53 j = C 53 j := fun j => c2 53 j (by omega)
  refine ⟨_, N', Z, C1, L, R, D, Z, C4, L, R, D, r1, r2, ⟨by
          obtain ⟨q1, q2, q3, q4, q5, q6, q7, q8, q9, q10⟩ := hs
          exact ⟨by rw [c2 0 5 (by omega), c2 31 13 (by omega), nn 31 13 (by omega)]; exact q1, by rw [c2 0 6 (by omega), c2 31 17 (by omega), nn 31 17 (by omega)]; exact q2, by rw [w07, w27, n27]; exact ⟨rfl, rfl, by omega⟩, by rw [c2 0 8 (by omega), c2 31 3 (by omega), nn 31 3 (by omega)]; exact q4, by rw [w010, w4, n4, nn 31 3 (by omega)]; exact ⟨rfl, rfl, a4.2.2⟩, by rw [c2 7 1 (by omega), c2 31 6 (by omega), nn 31 6 (by omega)]; exact q6, by rw [c2a 0, w6 0 (by omega), w31_7, n7]; exact ⟨a5.1, rfl, a5.2.2⟩, by rw [c2a 1, w6 1 (by omega), w31_8, n8]; exact ⟨a6.1, rfl, a6.2.2⟩, by rw [c2a 2, w6 2 (by omega), w31_9, n9]; exact ⟨a7.1, rfl, a7.2.2⟩, by rw [c2a 3, w6 3 (by omega), w31_10, n10]; exact ⟨a8.1, rfl, a8.2.2⟩⟩, rl_st_fr hst hs.1.2.2 (nn _ _ (by omega)) (fun j => ⟨nn _ _ (by omega), nn _ _ (by omega)⟩) (fun j => ⟨c2 _ _ (by omega), c2 _ _ (by omega)⟩) (fun k j q1 q2 => c2 _ _ (by omega)) (fun j => rfl) rl_zt_rf, ?_, ?_, rl_te_fr hte hs.2.2.2.1.2.2 (nn _ _ (by omega)) (fun j => ⟨nn _ _ (by omega), nn _ _ (by omega)⟩) (fun j => ⟨c2 _ _ (by omega), c2 _ _ (by omega)⟩) (fun k j q1 q2 => c2 _ _ (by omega)) (fun j => rfl) (fun k j q1 q2 => rfl) rl_zt_rf, rl_tp_fr htp (nn _ _ (by omega)) (fun j => nn _ _ (by omega)) (fun j => ⟨c2 _ _ (by omega), c2 _ _ (by omega)⟩), ?_, rl_sh_fr hsh (fun k j q1 q2 => c2 _ _ (by omega)) (fun k j q1 q2 => c2 _ _ (by omega)) (fun j => rfl), hZ, hS, h58, hu⟩, by omega, hz.2.1, fun _ _ => rfl⟩
  · intro i hi
    rw [nn 31 17 (by omega)] at hi
    obtain ⟨p1, p2, p3, p4, p5, p6, p7, p8, p9, p10, p11, p12, p13⟩ := hha i hi
    refine ⟨p1, p2, p3, p4, p5, p6, p7, p8, ?_, ?_, ?_, ?_, fun k hk => ?_⟩
    · rw [c2 (i + 2000) 0 (by omega), c2 37 i (by omega), nn 37 i (by omega)]; exact p9
    · rw [c2 (i + 2000) 1 (by omega), c2 38 i (by omega), nn 38 i (by omega)]; exact p10
    · rw [c2 (i + 2000) 2 (by omega), c2 39 i (by omega), nn 39 i (by omega)]; exact p11
    · by_cases hm : i < N 31 47
      · obtain ⟨v1, -⟩ := f2 i (Nat.zero_le _) hm
        obtain ⟨u1, -⟩ := a9 i hm
        rw [n40 i hm, c3 _ _ (by omega), cb _ _ (by omega), v1, ca _ _ (by omega), g5 40 i (by omega), g1 i (Nat.zero_le _) hm, cb 53 _ (by omega), c1 53 _ (by omega)]
        exact ⟨u1.1, u1.2.1, by omega⟩
      · obtain ⟨v1, -⟩ := f3 i (by omega) (Or.inr (by omega))
        rw [nn 40 i (by omega), c3 _ _ (by omega), cb _ _ (by omega), v1, ca _ _ (by omega), c2 40 i (by omega)]
        exact p12
    · by_cases hm : i < N 31 47
      · obtain ⟨-, v2⟩ := f2 i (Nat.zero_le _) hm
        obtain ⟨u1, u2⟩ := a9 i hm
        rw [n40 i hm] at hk
        obtain ⟨b1, b2⟩ := u2 k hk
        have k6 : k < 6 := by omega
        obtain ⟨w1, w2⟩ := g3 (6 * i + k) (Nat.zero_le _) (by omega)
        have p13 := (p13 k (by omega)).2
        rw [← p13.2.1] at b2
        have z1 : C4 (i + 3000) k = C (i + 5000) k := by rw [c3 _ _ (by omega), cb _ _ (by omega), v2 k k6, ca _ _ (by omega)]
        have z2 : C4 41 (6 * i + k) = C 53 (6 * i + k) := by rw [w1, g2 53 _ (by omega), cb 53 _ (by omega), c1 53 _ (by omega)]
        have z3 : C4 42 (6 * i + k) = C 42 (6 * i + k) := by rw [w2, g2 53 _ (by omega), cb 53 _ (by omega), c1 53 _ (by omega), ← Nat.add_assoc, b2]
        rw [z1, z2, z3, n41 _ (by omega), nn 31 13 (by omega), nn 42 _ (by omega), c2 (i + 4000) k (by omega)]
        exact ⟨b1, p13⟩
      · obtain ⟨-, v2⟩ := f3 i (by omega) (Or.inr (by omega))
        rw [nn 40 i (by omega)] at hk
        have p12 := p12.2.2
        rw [c3 _ _ (by omega), cb _ _ (by omega), v2 k, ca _ _ (by omega), c2 41 _ (by omega), c2 42 _ (by omega), c2 (i + 4000) k (by omega), nn 41 _ (by omega), nn 42 _ (by omega), nn 31 13 (by omega)]
        exact p13 k hk
  · intro i hi
    rw [n27] at hi
    obtain ⟨p1, p2, p3, p4, p5, p6, p7, p8, p9⟩ := hni i (by omega)
    refine ⟨p1, p2, by rw [nn 44 i (by omega)]; exact p3, ?_, ?_, ?_, ?_, ?_, ?_⟩
    · rw [c2 (i + 6000) 0 (by omega), c2 43 i (by omega), nn 43 i (by omega)]; exact p4
    · rw [c2 (i + 6000) 2 (by omega), c2 44 i (by omega), nn 44 i (by omega), nn 31 17 (by omega)]; exact p5
    · rw [c2 (i + 6000) 3 (by omega), c2 45 i (by omega), nn 45 i (by omega)]; exact p6
    · rw [c2 (i + 6000) 4 (by omega), c2 46 i (by omega), nn 46 i (by omega)]; exact p7
    · rw [c2 (i + 6000) 5 (by omega), c2 47 i (by omega), nn 47 i (by omega)]; exact p8
    · rw [c2 (i + 6000) 6 (by omega), c2 48 i (by omega), nn 48 i (by omega)]; exact p9
  · refine Or.inr ⟨by rw [c2 31 46 (by omega)]; exact hasI, ?_, ?_, ?_, ?_, ?_, ?_, ?_, fun i hi => ?_⟩
    · rw [c2 0 17 (by omega), c2 31 48 (by omega), nn 31 48 (by omega), n27]; exact ⟨a2.1, a2.2.1, Nat.le_refl _⟩
    · rw [c2 0 16 (by omega), c2 31 47 (by omega), nn 31 47 (by omega), nn 31 17 (by omega)]; exact a3
    · rw [c2 0 15 (by omega), c2 31 53 (by omega), nn 31 53 (by omega), nn 31 3 (by omega)]; exact a4
    · rw [c2 18 0 (by omega), c2 31 49 (by omega), nn 31 49 (by omega)]; exact a5
    · rw [c2 18 1 (by omega), c2 31 50 (by omega), nn 31 50 (by omega)]; exact a6
    · rw [c2 18 2 (by omega), c2 31 51 (by omega), nn 31 51 (by omega)]; exact a7
    · rw [c2 18 3 (by omega), c2 31 52 (by omega), nn 31 52 (by omega)]; exact a8
    · rw [nn 31 47 (by omega)] at hi
      obtain ⟨u1, u2⟩ := a9 i hi
      refine ⟨?_, fun k hk => ?_⟩
      · rw [c2 (i + 2000) 7 (by omega), c53, nn 53 _ (by omega), n40 i hi]
        exact ⟨u1.1, u1.2.1, Nat.le_refl _⟩
      · rw [nn 53 _ (by omega)] at hk
        obtain ⟨b1, b2⟩ := u2 k hk
        rw [c2 (i + 5000) k (by omega), c53, c53, nn 53 _ (by omega), nn 31 13 (by omega), nn 42 _ (by omega)]
        exact ⟨b1, b2⟩
end
