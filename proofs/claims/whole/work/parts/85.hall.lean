/-! hall, surface, cover -/
section
variable {G : Nat → Value} {x : Nat}
theorem x_Ha_init {d n q : Nat} {Z : ly_Z} {C : Nat → Nat → Int32} {L : Nat → Nat → Int64} {R : Nat → Nat → Option Nat} {D : am_M} {a0 a1 a2 : Int32} (hn : n < 1000) (hq : ly_is x true Z q (n + 2000) 2) (hD : x + 58 ≤ D.1) (hZ : tp_Z x Z D) : ∃ Z' C' L' R' D', am_ex G (d + 1) K_Ha_init [.ref q, .int a0, .int a1, .int a2] (am_mk x true Z C L R D) = some (none, am_mk x true Z' C' L' R' D') ∧ ly_fr (fun u => u = n + 2000 ∨ u = n + 3000 ∨ u = n + 4000 ∨ u = n + 5000) x Z C L R D Z' C' L' R' D' ∧ tp_Z x Z' D' ∧ D'.1 = D.1 + 3 ∧ ly_is x true Z' q (n + 2000) 2 ∧ ly_is x true Z' D.1 (n + 3000) 3 ∧ ly_is x true Z' (D.1 + 1) (n + 4000) 4 ∧ ly_is x true Z' (D.1 + 2) (n + 5000) 5 ∧ R' (n + 2000) 3 = some D.1 ∧ R' (n + 2000) 4 = some (D.1 + 1) ∧ R' (n + 2000) 6 = some (D.1 + 2) ∧ C' (n + 2000) 0 = a0 ∧ C' (n + 2000) 1 = a1 ∧ C' (n + 2000) 2 = a2 ∧ C' (n + 2000) 5 = C (n + 2000) 5 := by
  have hD0 := tp_D_58 hD
  have hs3 := tp_D_ns (tp_D_up hD0 (show D.1 ≤ D.1 by omega)) (Nat.le_refl D.1)
  have ha3 := ly_a3 (x := x) (b := true) (Z := Z) (C := C) (L := L) (R := R) (D := D) (t := (n + 3000)) (n := 6) (by omega) (by omega) rfl hs3
  have hF3 := ly_fr_new (t := (n + 3000)) (C := C) (L := L) (R := R) (f := fun _ => Int32.ofNat 0) (g := fun _ => Int64.ofNat 0) (r := fun _ => none) hZ
  have hz3 := tp_Z_new (t := (n + 3000)) (C := C) (L := L) (R := R) hZ
  have hi3 : ly_is x true (ly_new Z D.1 (n + 3000)) D.1 (n + 3000) 3 := ly_is_new hs3 (by omega) (by omega)
  have hd3 : (ly_fz x Z C L R D (n + 3000)).1 = D.1 + 1 := rfl
  generalize hgZ3 : ly_new Z D.1 (n + 3000) = Z3 at *
  generalize hgC3 : uk C (n + 3000) (fun _ => Int32.ofNat 0) = C3 at *
  generalize hgL3 : uk L (n + 3000) (fun _ => Int64.ofNat 0) = L3 at *
  generalize hgR3 : uk R (n + 3000) (fun _ => none) = R3a at *
  generalize hgD3 : ly_fz x Z C L R D (n + 3000) = D3 at *
  have hq3 := ly_is_fr hq hZ hF3 (by omega)
  have hp3 := ly_dp2_3 (C := C3) (L := L3) (R := R3a) (D := D3) (v := D.1) hq3
  have hE3 : ly_fr (fun u => u = n + 2000) x Z3 C3 L3 R3a D3 Z3 C3 L3 (ux R3a (n + 2000) 3 (some D.1)) D3 := ly_fr_R (fun u j hu => by rw [ux_ne (fun e => hu e.1)])
  have hr3 : ∀ j, ¬ j = 3 → ux R3a (n + 2000) 3 (some D.1) (n + 2000) j = R (n + 2000) j := fun j hj => by rw [ux_ne (by omega), ← hgR3, uk_ne (by omega)]
  have hv3 : ux R3a (n + 2000) 3 (some D.1) (n + 2000) 3 = some D.1 := ux_at
  have hc3 : ∀ j, C3 (n + 2000) j = C (n + 2000) j := fun j => by rw [← hgC3, uk_ne (by omega)]
  generalize hgS3 : ux R3a (n + 2000) 3 (some D.1) = R3 at *
  have hs4 := tp_D_ns (tp_D_up hD0 (show D.1 ≤ D3.1 by omega)) (Nat.le_refl D3.1)
  have ha4 := ly_a4 (x := x) (b := true) (Z := Z3) (C := C3) (L := L3) (R := R3) (D := D3) (t := (n + 4000)) (n := 6) (by omega) (by omega) rfl hs4
  have hF4 := ly_fr_new (t := (n + 4000)) (C := C3) (L := L3) (R := R3) (f := fun _ => Int32.ofNat 0) (g := fun _ => Int64.ofNat 0) (r := fun _ => none) hz3
  have hz4 := tp_Z_new (t := (n + 4000)) (C := C3) (L := L3) (R := R3) hz3
  have hi4 : ly_is x true (ly_new Z3 D3.1 (n + 4000)) D3.1 (n + 4000) 4 := ly_is_new hs4 (by omega) (by omega)
  have hd4 : (ly_fz x Z3 C3 L3 R3 D3 (n + 4000)).1 = D3.1 + 1 := rfl
  generalize hgZ4 : ly_new Z3 D3.1 (n + 4000) = Z4 at *
  generalize hgC4 : uk C3 (n + 4000) (fun _ => Int32.ofNat 0) = C4 at *
  generalize hgL4 : uk L3 (n + 4000) (fun _ => Int64.ofNat 0) = L4 at *
  generalize hgR4 : uk R3 (n + 4000) (fun _ => none) = R4a at *
  generalize hgD4 : ly_fz x Z3 C3 L3 R3 D3 (n + 4000) = D4 at *
  have hq4 := ly_is_fr hq3 hz3 hF4 (by omega)
  have hp4 := ly_dp2_4 (C := C4) (L := L4) (R := R4a) (D := D4) (v := D3.1) hq4
  have hE4 : ly_fr (fun u => u = n + 2000) x Z4 C4 L4 R4a D4 Z4 C4 L4 (ux R4a (n + 2000) 4 (some D3.1)) D4 := ly_fr_R (fun u j hu => by rw [ux_ne (fun e => hu e.1)])
  have hr4 : ∀ j, ¬ j = 4 → ux R4a (n + 2000) 4 (some D3.1) (n + 2000) j = R3 (n + 2000) j := fun j hj => by rw [ux_ne (by omega), ← hgR4, uk_ne (by omega)]
  have hv4 : ux R4a (n + 2000) 4 (some D3.1) (n + 2000) 4 = some D3.1 := ux_at
  have hc4 : ∀ j, C4 (n + 2000) j = C3 (n + 2000) j := fun j => by rw [← hgC4, uk_ne (by omega)]
  generalize hgS4 : ux R4a (n + 2000) 4 (some D3.1) = R4 at *
  have hs5 := tp_D_ns (tp_D_up hD0 (show D.1 ≤ D4.1 by omega)) (Nat.le_refl D4.1)
  have ha5 := ly_a5 (x := x) (b := true) (Z := Z4) (C := C4) (L := L4) (R := R4) (D := D4) (t := (n + 5000)) (n := 6) (by omega) (by omega) rfl hs5
  have hF5 := ly_fr_new (t := (n + 5000)) (C := C4) (L := L4) (R := R4) (f := fun _ => Int32.ofNat 0) (g := fun _ => Int64.ofNat 0) (r := fun _ => none) hz4
  have hz5 := tp_Z_new (t := (n + 5000)) (C := C4) (L := L4) (R := R4) hz4
  have hi5 : ly_is x true (ly_new Z4 D4.1 (n + 5000)) D4.1 (n + 5000) 5 := ly_is_new hs5 (by omega) (by omega)
  have hd5 : (ly_fz x Z4 C4 L4 R4 D4 (n + 5000)).1 = D4.1 + 1 := rfl
  generalize hgZ5 : ly_new Z4 D4.1 (n + 5000) = Z5 at *
  generalize hgC5 : uk C4 (n + 5000) (fun _ => Int32.ofNat 0) = C5 at *
  generalize hgL5 : uk L4 (n + 5000) (fun _ => Int64.ofNat 0) = L5 at *
  generalize hgR5 : uk R4 (n + 5000) (fun _ => none) = R5a at *
  generalize hgD5 : ly_fz x Z4 C4 L4 R4 D4 (n + 5000) = D5 at *
  have hq5 := ly_is_fr hq4 hz4 hF5 (by omega)
  have hp5 := ly_dp2_6 (C := C5) (L := L5) (R := R5a) (D := D5) (v := D4.1) hq5
  have hE5 : ly_fr (fun u => u = n + 2000) x Z5 C5 L5 R5a D5 Z5 C5 L5 (ux R5a (n + 2000) 6 (some D4.1)) D5 := ly_fr_R (fun u j hu => by rw [ux_ne (fun e => hu e.1)])
  have hr5 : ∀ j, ¬ j = 6 → ux R5a (n + 2000) 6 (some D4.1) (n + 2000) j = R4 (n + 2000) j := fun j hj => by rw [ux_ne (by omega), ← hgR5, uk_ne (by omega)]
  have hv5 : ux R5a (n + 2000) 6 (some D4.1) (n + 2000) 6 = some D4.1 := ux_at
  have hc5 : ∀ j, C5 (n + 2000) j = C4 (n + 2000) j := fun j => by rw [← hgC5, uk_ne (by omega)]
  generalize hgS5 : ux R5a (n + 2000) 6 (some D4.1) = R5 at *
  have p0 := ly_dp2_0 (C := C5) (L := L5) (R := R5) (D := D5) (v := a0) hq5
  have p1 := ly_dp2_1 (C := ux C5 (n + 2000) 0 a0) (L := L5) (R := R5) (D := D5) (v := a1) hq5
  have p2 := ly_dp2_2 (C := ux (ux C5 (n + 2000) 0 a0) (n + 2000) 1 a1) (L := L5) (R := R5) (D := D5) (v := a2) hq5
  have hE : ly_fr (fun u => u = n + 2000) x Z5 C5 L5 R5 D5 Z5 (ux (ux (ux C5 (n + 2000) 0 a0) (n + 2000) 1 a1) (n + 2000) 2 a2) L5 R5 D5 := ly_fr_C (fun u j hu => by rw [ux_ne (fun e => hu e.1), ux_ne (fun e => hu e.1), ux_ne (fun e => hu e.1)])
  have hi3' := ly_is_fr (ly_is_fr hi3 hz3 hE3 (by omega)) hz3 (ly_fr_tr hF4 hE4) (by omega)
  have hi3'' := ly_is_fr hi3' hz4 (ly_fr_tr hF5 hE5) (by omega)
  have hi4' := ly_is_fr hi4 hz4 (ly_fr_tr hF5 hE5) (by omega)
  refine ⟨Z5, ux (ux (ux C5 (n + 2000) 0 a0) (n + 2000) 1 a1) (n + 2000) 2 a2, L5, R5, D5, ?_, ly_fr_sub (ly_fr_tr hF3 (ly_fr_tr hE3 (ly_fr_tr hF4 (ly_fr_tr hE4 (ly_fr_tr hF5 (ly_fr_tr hE5 hE)))))) (fun u hu => by omega), hz5, by omega, hq5, hi3'', ?_, ?_, ?_, ?_, ?_, ?_, ?_, ?_, ?_⟩
  · simp only [e_Ha_init, r_Ha_init_0, r_Ha_init_1, r_Ha_init_4, r_Ha_init_5, r_Ha_init_7, r_Ha_init_9, r_Ha_init_12, r_Ha_init_13, r_Ha_init_15, r_Ha_init_17, r_Ha_init_20, r_Ha_init_21, r_Ha_init_23, r_Ha_init_25, r_Ha_init_28, r_Ha_init_29, r_Ha_init_30, r_Ha_init_33, r_Ha_init_34, r_Ha_init_35, r_Ha_init_38, r_Ha_init_39, r_Ha_init_40, r_Ha_init_43, i3n_0, i3n_1, i3n_6, l6n_0, l6n_1, am_kf_s, am_km_s, am_kn_s, am_k_v, am_k_0, am_isr_r, am_isr_n, am_isr_v, am_sw_0, am_sw_i, am_sw_l, am_sw_r, am_sw_n, am_sw_v, am_ct_i, am_ct_r, am_ct_n, am_c1_o, am_c1_n, am_c1_i, am_c1_r, am_c1_v, am_mk_1, lc_lt, lc_gt, lc_eq, lc_le, lc_ge, i01_eq, i01_ok, ite_not, true_or, or_true, true_and, and_true, false_or, or_false, false_and, and_false, if_true, if_false, not_true_eq_false, not_false_eq_true, eq_self, Nat.reduceAdd, Nat.reduceLeDiff, Nat.reduceLT, Nat.reduceEqDiff, Nat.reduceMul, Nat.reduceSub, Nat.reduceDiv, Nat.reduceMod, reduceCtorEq, Nat.zero_le, i3_le, i3_lt, i3_eq, i3_eqN, i3_leN, i3_Nle, i3_ltN, i3_NleN, i3_NeqN, i3_Neq, i3_NltN, i3_Nlt, l6_le, l6_lt, l6_eq, l6_leN, l6_Nle, l6_ltN, l6_Nlt, l6_eqN, l6_Neq, ly_newa, ha3, hp3, ha4, hp4, ha5, hp5, p0, p1, p2]
  · rw [← hd3]; exact hi4'
  · rw [show D.1 + 2 = D4.1 by omega]; exact hi5
  · rw [hr5 3 (by omega), hr4 3 (by omega)]; exact hv3
  · rw [hr5 4 (by omega), ← hd3]; exact hv4
  · rw [hv5, show D4.1 = D.1 + 2 by omega]
  · rw [ux_ne (by omega), ux_ne (by omega), ux_at]
  · rw [ux_ne (by omega), ux_at]
  · rw [ux_at]
  · rw [ux_ne (by omega), ux_ne (by omega), ux_ne (by omega), hc5, hc4, hc3]
theorem J_hall {a0 a1 a2 : Int32} : rl_pair G x K_H_hall K_M_hall [.int a0, .int a1, .int a2] := by
  intro N Z C L R D h
  have hz := h.2.2.2.2.2.2.2.2.1
  by_cases h1 : Int32.ofNat 1 ≤ a0 ∧ a0 ≤ Int32.ofNat 99999
  · by_cases h2 : Int32.ofNat 2 ≤ a1 ∧ a1 ≤ Int32.ofNat 20
    · by_cases h3 : Int32.ofNat 2 ≤ a2 ∧ a2 ≤ Int32.ofNat 20
      · obtain ⟨s1, s2, s3⟩ := h.1.2.1
        obtain ⟨e0, he0, rfl⟩ := i3_rng (by decide) ⟨Int32.le_trans (by decide) h1.1, h1.2⟩
        obtain ⟨e1, he1, rfl⟩ := i3_rng (by decide) ⟨Int32.le_trans (by decide) h2.1, h2.2⟩
        obtain ⟨e2, he2, rfl⟩ := i3_rng (by decide) ⟨Int32.le_trans (by decide) h3.1, h3.2⟩
        have g0 : 1 ≤ e0 := by have := h1.1; rw [i3_le (by decide) (by omega)] at this; exact this
        have g1 : 2 ≤ e1 := by have := h2.1; rw [i3_le (by decide) (by omega)] at this; exact this
        have g2 : 2 ≤ e2 := by have := h3.1; rw [i3_le (by decide) (by omega)] at this; exact this
        by_cases h6 : N 31 17 = 6
        · rw [h6] at s1 s2
          refine ⟨.int (-Int32.ofNat 4), N, Z, C, L, R, D, Z, C, L, R, D, ?_, ?_, h, by omega, hz.2.1, fun _ _ => rfl⟩
          · simp only [e_H_hall, r_H_hall_0, r_H_hall_1, r_H_hall_2, r_H_hall_4, r_H_hall_7, r_H_hall_10, r_H_hall_11, r_H_hall_12, r_H_hall_14, r_H_hall_17, r_H_hall_20, r_H_hall_21, r_H_hall_22, r_H_hall_24, r_H_hall_27, r_H_hall_30, r_H_hall_32, r_H_hall_33, r_H_hall_34, r_H_hall_37, r_H_hall_38, r_H_hall_41, r_H_hall_42, r_H_hall_45, r_H_hall_47, r_H_hall_48, r_H_hall_49, r_H_hall_52, r_H_hall_53, r_H_hall_56, r_H_hall_59, r_H_hall_60, r_H_hall_61, r_H_hall_62, r_H_hall_63, r_H_hall_66, r_H_hall_67, r_H_hall_68, r_H_hall_69, r_H_hall_72, r_H_hall_73, r_H_hall_74, r_H_hall_75, r_H_hall_78, ly_g0_6, ly_g0_1, ly_n2, ly_r2, ly_w2, ly_p0_6, i3n_0, i3n_1, i3n_2, i3n_4, i3n_20, i3n_99999, l6n_0, l6n_1, am_kf_s, am_km_s, am_kn_s, am_k_v, am_k_0, am_isr_r, am_isr_n, am_isr_v, am_sw_0, am_sw_i, am_sw_l, am_sw_r, am_sw_n, am_sw_v, am_ct_i, am_ct_r, am_ct_n, am_c1_o, am_c1_n, am_c1_i, am_c1_r, am_c1_v, am_mk_1, lc_lt, lc_gt, lc_eq, lc_le, lc_ge, i01_eq, i01_ok, ite_not, true_or, or_true, true_and, and_true, false_or, or_false, false_and, and_false, if_true, if_false, not_true_eq_false, not_false_eq_true, eq_self, Nat.reduceAdd, Nat.reduceLeDiff, Nat.reduceLT, Nat.reduceEqDiff, Nat.reduceMul, Nat.reduceSub, Nat.reduceDiv, Nat.reduceMod, reduceCtorEq, Nat.zero_le, i3_le, i3_lt, i3_eq, i3_eqN, i3_leN, i3_Nle, i3_ltN, i3_NleN, i3_NeqN, i3_Neq, i3_NltN, i3_Nlt, l6_le, l6_lt, l6_eq, l6_leN, l6_Nle, l6_ltN, l6_Nlt, l6_eqN, l6_Neq, x_H_within, h1, h2, h3, and_self, s1, Nat.lt_irrefl]
          · simp only [e_M_hall, r_M_hall_0, r_M_hall_1, r_M_hall_2, r_M_hall_3, r_M_hall_6, r_M_hall_9, r_M_hall_12, r_M_hall_13, r_M_hall_14, r_M_hall_17, r_M_hall_20, r_M_hall_23, r_M_hall_26, r_M_hall_27, r_M_hall_28, r_M_hall_31, r_M_hall_34, r_M_hall_37, r_M_hall_40, r_M_hall_42, r_M_hall_43, r_M_hall_44, r_M_hall_47, r_M_hall_49, r_M_hall_52, r_M_hall_54, r_M_hall_55, r_M_hall_56, r_M_hall_59, r_M_hall_60, r_M_hall_63, r_M_hall_64, r_M_hall_65, r_M_hall_66, r_M_hall_69, r_M_hall_70, r_M_hall_73, r_M_hall_74, r_M_hall_75, r_M_hall_76, r_M_hall_79, r_M_hall_80, r_M_hall_83, r_M_hall_84, r_M_hall_85, r_M_hall_86, r_M_hall_89, r_M_hall_90, r_M_hall_93, r_M_hall_94, r_M_hall_95, r_M_hall_96, r_M_hall_97, r_M_hall_100, r_M_hall_101, r_M_hall_102, r_M_hall_105, r_M_hall_106, r_M_hall_109, r_M_hall_110, r_M_hall_111, ly_g31_17, ly_g31_14, ly_n37, ly_r37, ly_w37, ly_g31_15, ly_n38, ly_r38, ly_w38, ly_g31_16, ly_n39, ly_r39, ly_w39, ly_g31_18, ly_n40, ly_r40, ly_w40, ly_p31_17, i3n_0, i3n_1, i3n_2, i3n_4, i3n_6, l6n_0, l6n_1, l6n_2, l6n_20, l6n_99999, am_kf_s, am_km_s, am_kn_s, am_k_v, am_k_0, am_isr_r, am_isr_n, am_isr_v, am_sw_0, am_sw_i, am_sw_l, am_sw_r, am_sw_n, am_sw_v, am_ct_i, am_ct_r, am_ct_n, am_c1_o, am_c1_n, am_c1_i, am_c1_r, am_c1_v, am_mk_1, lc_lt, lc_gt, lc_eq, lc_le, lc_ge, i01_eq, i01_ok, ite_not, true_or, or_true, true_and, and_true, false_or, or_false, false_and, and_false, if_true, if_false, not_true_eq_false, not_false_eq_true, eq_self, Nat.reduceAdd, Nat.reduceLeDiff, Nat.reduceLT, Nat.reduceEqDiff, Nat.reduceMul, Nat.reduceSub, Nat.reduceDiv, Nat.reduceMod, reduceCtorEq, Nat.zero_le, i3_le, i3_lt, i3_eq, i3_eqN, i3_leN, i3_Nle, i3_ltN, i3_NleN, i3_NeqN, i3_Neq, i3_NltN, i3_Nlt, l6_le, l6_lt, l6_eq, l6_leN, l6_Nle, l6_ltN, l6_Nlt, l6_eqN, l6_Neq, x_M_in, w_leL, w_leR, h1, h2, h3, and_self, s2]
        · have h6' : N 31 17 < 6 := by omega
          generalize hn : N 31 17 = n at *
          have b5 : n < 2147483648 := by omega
          have h58 := h.2.2.2.2.2.2.2.2.2.2.1
          have hD := tp_D_58 h58
          have hns := tp_D_ns hD (Nat.le_refl D.1)
          have hadd := ly_a2 (x := x) (b := true) (Z := Z) (C := C) (L := L) (R := R) (D := D) (t := n + 2000) (by omega) (by omega) hns
          have hi0 : ly_is x true (ly_new Z D.1 (n + 2000)) D.1 (n + 2000) 2 := ly_is_new hns (by omega) (by omega)
          have hF0 := ly_fr_new (t := n + 2000) (C := C) (L := L) (R := R) (f := fun _ => Int32.ofNat 0) (g := fun _ => Int64.ofNat 0) (r := fun _ => none) hz
          have hZ0 := tp_Z_new (t := n + 2000) (C := C) (L := L) (R := R) hz
          have hD0 : (ly_fz x Z C L R D (n + 2000)).1 = D.1 + 1 := rfl
          obtain ⟨Z1, Ca, L1, Ra, D1, e, hF1, hZ1, hD1, i0, i3, i4, i5, r3, r4, r6, v0, v1, v2, v5⟩ := x_Ha_init (G := G) (d := 98) (C := uk C (n + 2000) (fun _ => Int32.ofNat 0)) (L := uk L (n + 2000) (fun _ => Int64.ofNat 0)) (R := uk R (n + 2000) (fun _ => none)) (a0 := Int32.ofNat e0) (a1 := Int32.ofNat e1) (a2 := Int32.ofNat e2) (show n < 1000 by omega) hi0 (show x + 58 ≤ (ly_fz x Z C L R D (n + 2000)).1 by omega) hZ0
          rw [uk_at] at v5
          have hF := ly_fr_sub (T' := fun u => u = n + 2000 ∨ u = n + 3000 ∨ u = n + 4000 ∨ u = n + 5000) (ly_fr_tr hF0 hF1) (fun u hu => by omega)
          have k1 := ly_dk2 (C := Ca) (L := L1) (R := Ra) (D := D1) i0
          have p2 := ly_w2 (x := x) (b := true) (Z := Z1) (C := Ca) (L := L1) (R := Ra) (D := D1) (v := D.1) h6' k1
          have ca : ∀ k j, ¬ (k = n + 2000 ∨ k = n + 3000 ∨ k = n + 4000 ∨ k = n + 5000) → Ca k j = C k j := fun k j hk => by rw [(hF.1 k hk).1]
          have ra : ∀ k j, ¬ (k = n + 2000 ∨ k = n + 3000 ∨ k = n + 4000 ∨ k = n + 5000) → Ra k j = R k j := fun k j hk => by rw [(hF.1 k hk).2.2.1]
          have c06 := (ca 0 6 (by omega)).trans s1
          have q1 : am_ex G 100 K_H_hall [.ref x, .int (Int32.ofNat e0), .int (Int32.ofNat e1), .int (Int32.ofNat e2)] (am_mk x true Z C L R D) = some (some (.int (Int32.ofNat n)), am_mk x true Z1 (ux Ca 0 6 (Int32.ofNat (n + 1))) L1 (ux Ra 2 n (some D.1)) D1) := by
            simp only [e_H_hall, r_H_hall_0, r_H_hall_1, r_H_hall_2, r_H_hall_4, r_H_hall_7, r_H_hall_10, r_H_hall_11, r_H_hall_12, r_H_hall_14, r_H_hall_17, r_H_hall_20, r_H_hall_21, r_H_hall_22, r_H_hall_24, r_H_hall_27, r_H_hall_30, r_H_hall_32, r_H_hall_33, r_H_hall_34, r_H_hall_37, r_H_hall_38, r_H_hall_41, r_H_hall_42, r_H_hall_45, r_H_hall_47, r_H_hall_48, r_H_hall_49, r_H_hall_52, r_H_hall_53, r_H_hall_56, r_H_hall_59, r_H_hall_60, r_H_hall_61, r_H_hall_62, r_H_hall_63, r_H_hall_66, r_H_hall_67, r_H_hall_68, r_H_hall_69, r_H_hall_72, r_H_hall_73, r_H_hall_74, r_H_hall_75, r_H_hall_78, ly_g0_6, ly_g0_1, ly_n2, ly_r2, ly_w2, ly_p0_6, i3n_0, i3n_1, i3n_2, i3n_4, i3n_20, i3n_99999, l6n_0, l6n_1, am_kf_s, am_km_s, am_kn_s, am_k_v, am_k_0, am_isr_r, am_isr_n, am_isr_v, am_sw_0, am_sw_i, am_sw_l, am_sw_r, am_sw_n, am_sw_v, am_ct_i, am_ct_r, am_ct_n, am_c1_o, am_c1_n, am_c1_i, am_c1_r, am_c1_v, am_mk_1, lc_lt, lc_gt, lc_eq, lc_le, lc_ge, i01_eq, i01_ok, ite_not, true_or, or_true, true_and, and_true, false_or, or_false, false_and, and_false, if_true, if_false, not_true_eq_false, not_false_eq_true, eq_self, Nat.reduceAdd, Nat.reduceLeDiff, Nat.reduceLT, Nat.reduceEqDiff, Nat.reduceMul, Nat.reduceSub, Nat.reduceDiv, Nat.reduceMod, reduceCtorEq, Nat.zero_le, i3_le, i3_lt, i3_eq, i3_eqN, i3_leN, i3_Nle, i3_ltN, i3_NleN, i3_NeqN, i3_Neq, i3_NltN, i3_Nlt, l6_le, l6_lt, l6_eq, l6_leN, l6_Nle, l6_ltN, l6_Nlt, l6_eqN, l6_Neq, x_H_within, h1, h2, h3, and_self, s1, b5, h6', hadd, e, p2, c06, i3_add]
          generalize hC1 : ux Ca 0 6 (Int32.ofNat (n + 1)) = C1 at q1
          have c1 : ∀ k j, ¬ (k = n + 2000 ∨ k = n + 3000 ∨ k = n + 4000 ∨ k = n + 5000 ∨ k = 0 ∧ j = 6) → C1 k j = C k j := fun k j hk => by rw [← hC1, ux_ne (by omega), ca k j (by omega)]
          have c1s := (c1 31 17 (by omega)).trans s2
          have q2 : am_ex G 100 K_M_hall [.ref (x + 31), .int (Int32.ofNat e0), .int (Int32.ofNat e1), .int (Int32.ofNat e2)] (am_mk x true Z1 C1 L1 (ux Ra 2 n (some D.1)) D1) = some (some (.int (Int32.ofNat n)), am_mk x true Z1 (ux (ux (ux (ux (ux C1 37 n (Int32.ofNat e0)) 38 n (Int32.ofNat e1)) 39 n (Int32.ofNat e2)) 40 n (Int32.ofNat 0)) 31 17 (Int32.ofNat (n + 1))) L1 (ux Ra 2 n (some D.1)) D1) := by
            simp only [e_M_hall, r_M_hall_0, r_M_hall_1, r_M_hall_2, r_M_hall_3, r_M_hall_6, r_M_hall_9, r_M_hall_12, r_M_hall_13, r_M_hall_14, r_M_hall_17, r_M_hall_20, r_M_hall_23, r_M_hall_26, r_M_hall_27, r_M_hall_28, r_M_hall_31, r_M_hall_34, r_M_hall_37, r_M_hall_40, r_M_hall_42, r_M_hall_43, r_M_hall_44, r_M_hall_47, r_M_hall_49, r_M_hall_52, r_M_hall_54, r_M_hall_55, r_M_hall_56, r_M_hall_59, r_M_hall_60, r_M_hall_63, r_M_hall_64, r_M_hall_65, r_M_hall_66, r_M_hall_69, r_M_hall_70, r_M_hall_73, r_M_hall_74, r_M_hall_75, r_M_hall_76, r_M_hall_79, r_M_hall_80, r_M_hall_83, r_M_hall_84, r_M_hall_85, r_M_hall_86, r_M_hall_89, r_M_hall_90, r_M_hall_93, r_M_hall_94, r_M_hall_95, r_M_hall_96, r_M_hall_97, r_M_hall_100, r_M_hall_101, r_M_hall_102, r_M_hall_105, r_M_hall_106, r_M_hall_109, r_M_hall_110, r_M_hall_111, ly_g31_17, ly_g31_14, ly_n37, ly_r37, ly_w37, ly_g31_15, ly_n38, ly_r38, ly_w38, ly_g31_16, ly_n39, ly_r39, ly_w39, ly_g31_18, ly_n40, ly_r40, ly_w40, ly_p31_17, i3n_0, i3n_1, i3n_2, i3n_4, i3n_6, l6n_0, l6n_1, l6n_2, l6n_20, l6n_99999, am_kf_s, am_km_s, am_kn_s, am_k_v, am_k_0, am_isr_r, am_isr_n, am_isr_v, am_sw_0, am_sw_i, am_sw_l, am_sw_r, am_sw_n, am_sw_v, am_ct_i, am_ct_r, am_ct_n, am_c1_o, am_c1_n, am_c1_i, am_c1_r, am_c1_v, am_mk_1, lc_lt, lc_gt, lc_eq, lc_le, lc_ge, i01_eq, i01_ok, ite_not, true_or, or_true, true_and, and_true, false_or, or_false, false_and, and_false, if_true, if_false, not_true_eq_false, not_false_eq_true, eq_self, Nat.reduceAdd, Nat.reduceLeDiff, Nat.reduceLT, Nat.reduceEqDiff, Nat.reduceMul, Nat.reduceSub, Nat.reduceDiv, Nat.reduceMod, reduceCtorEq, Nat.zero_le, i3_le, i3_lt, i3_eq, i3_eqN, i3_leN, i3_Nle, i3_ltN, i3_NleN, i3_NeqN, i3_Neq, i3_NltN, i3_Nlt, l6_le, l6_lt, l6_eq, l6_leN, l6_Nle, l6_ltN, l6_Nlt, l6_eqN, l6_Neq, x_M_in, w_leL, w_leR, h1, h2, h3, and_self, c1s, b5, h6, h6', ux_eq, i3_add, i3_pred]
          generalize hC2 : ux (ux (ux (ux (ux C1 37 n (Int32.ofNat e0)) 38 n (Int32.ofNat e1)) 39 n (Int32.ofNat e2)) 40 n (Int32.ofNat 0)) 31 17 (Int32.ofNat (n + 1)) = C2 at q2
          have c2 : ∀ k j, ¬ (k = n + 2000 ∨ k = n + 3000 ∨ k = n + 4000 ∨ k = n + 5000 ∨ k = 0 ∧ j = 6 ∨ k = 31 ∧ j = 17 ∨ 37 ≤ k ∧ k ≤ 40 ∧ j = n) → C2 k j = C k j := fun k j q => by
            rw [← hC2, ux_ne (by omega), ux_ne (by omega), ux_ne (by omega), ux_ne (by omega), ux_ne (by omega), c1 k j (by omega)]
          generalize hN : ux (ux (ux (ux (ux N 37 n e0) 38 n e1) 39 n e2) 40 n 0) 31 17 (n + 1) = N'
          have nn : ∀ k j, ¬ (k = 31 ∧ j = 17 ∨ 37 ≤ k ∧ k ≤ 40 ∧ j = n) → N' k j = N k j := fun k j q => by
            rw [← hN, ux_ne (by omega), ux_ne (by omega), ux_ne (by omega), ux_ne (by omega), ux_ne (by omega)]
          have n17 : N' 31 17 = n + 1 := by rw [← hN, ux_at]
          have w17 : C2 31 17 = Int32.ofNat (n + 1) := by rw [← hC2, ux_at]
          have w06 : C2 0 6 = Int32.ofNat (n + 1) := by rw [← hC2, ux_ne (by omega), ux_ne (by omega), ux_ne (by omega), ux_ne (by omega), ux_ne (by omega), ← hC1, ux_at]
          have wa : ∀ k j, 2000 ≤ k → C2 k j = Ca k j := fun k j q => by rw [← hC2, ux_ne (by omega), ux_ne (by omega), ux_ne (by omega), ux_ne (by omega), ux_ne (by omega), ← hC1, ux_ne (by omega)]
          have rr : ∀ k j, ¬ (k = n + 2000 ∨ k = n + 3000 ∨ k = n + 4000 ∨ k = n + 5000 ∨ k = 2 ∧ j = n) → ux Ra 2 n (some D.1) k j = R k j := fun k j q => by rw [ux_ne (by omega), ra k j (by omega)]
          have zt : ∀ lo hi : Nat, n + 5000 < lo ∨ hi ≤ n + 2000 → rl_zt x Z Z1 lo hi := fun lo hi hh => rl_zt_fr hz hF (fun t q1 q2 => by omega)
          obtain ⟨hs, hst, hha, hni, hte, htp, him, hsh, -, hS, -, hu⟩ := h
          refine ⟨_, N', Z1, C1, _, _, D1, Z1, C2, _, _, D1, q1, q2, ⟨by
          obtain ⟨q1, q2, q3, q4, q5, q6, q7, q8, q9, q10⟩ := hs
          exact ⟨by rw [c2 0 5 (by omega), c2 31 13 (by omega), nn 31 13 (by omega)]; exact q1, ⟨by rw [n17]; exact w06, by rw [n17]; exact w17, by rw [n17]; omega⟩, by rw [c2 0 7 (by omega), c2 31 27 (by omega), nn 31 27 (by omega)]; exact q3, by rw [c2 0 8 (by omega), c2 31 3 (by omega), nn 31 3 (by omega)]; exact q4, by rw [c2 0 10 (by omega), c2 31 4 (by omega), nn 31 4 (by omega), nn 31 3 (by omega)]; exact q5, by rw [c2 7 1 (by omega), c2 31 6 (by omega), nn 31 6 (by omega)]; exact q6, by rw [c2 6 0 (by omega), c2 31 7 (by omega), nn 31 7 (by omega)]; exact q7, by rw [c2 6 1 (by omega), c2 31 8 (by omega), nn 31 8 (by omega)]; exact q8, by rw [c2 6 2 (by omega), c2 31 9 (by omega), nn 31 9 (by omega)]; exact q9, by rw [c2 6 3 (by omega), c2 31 10 (by omega), nn 31 10 (by omega)]; exact q10⟩, rl_st_fr hst hs.1.2.2 (nn _ _ (by omega)) (fun j => ⟨nn _ _ (by omega), nn _ _ (by omega)⟩) (fun j => ⟨c2 _ _ (by omega), c2 _ _ (by omega)⟩) (fun k j q1 q2 => c2 _ _ (by omega)) (fun j => rr _ _ (by omega)) (zt _ _ (by omega)), ?_, rl_ni_fr hni hs.2.2.1.2.2 hs.2.1.2.2 (nn _ _ (by omega)) (by omega) (fun k j q1 q2 => nn _ _ (by omega)) (fun k j q1 q2 => c2 _ _ (by omega)) (fun k j q1 q2 => c2 _ _ (by omega)) (fun j => rr _ _ (by omega)) (fun k j q1 q2 => rr _ _ (by omega)) (zt _ _ (by omega)) (fun t ht => (hF.1 (t + 2000) (by omega)).2.2.2), rl_te_fr hte hs.2.2.2.1.2.2 (nn _ _ (by omega)) (fun j => ⟨nn _ _ (by omega), nn _ _ (by omega)⟩) (fun j => ⟨c2 _ _ (by omega), c2 _ _ (by omega)⟩) (fun k j q1 q2 => c2 _ _ (by omega)) (fun j => rr _ _ (by omega)) (fun k j q1 q2 => rr _ _ (by omega)) (zt _ _ (by omega)), rl_tp_fr htp (nn _ _ (by omega)) (fun j => nn _ _ (by omega)) (fun j => ⟨c2 _ _ (by omega), c2 _ _ (by omega)⟩), ?_, rl_sh_fr hsh (fun k j q1 q2 => c2 _ _ (by omega)) (fun k j q1 q2 => c2 _ _ (by omega)) (fun j => rr _ _ (by omega)), hZ1, tp_S_fr hS hF hZ1, by omega, rl_u_fr hu hF.2.2.2⟩, by omega, hZ1.2.1, hF.2.2.2⟩
          · intro i hin
            rw [n17] at hin
            by_cases hie : i = n
            · subst hie
              have z2 := i0.2.1
              have z3 := i3.2.1
              have z4 := i4.2.1
              have z5 := i5.2.1
              have d1 : D.1 + 1 = (ly_fz x Z C L R D (i + 2000)).1 := rfl
              refine ⟨by rw [ux_at, z2], by rw [z2]; exact i0, by rw [z3]; exact i3, by rw [z4]; exact i4, by rw [z5]; exact i5, by rw [ux_ne (by omega), z3]; exact r3, by rw [ux_ne (by omega), z4]; exact r4, by rw [ux_ne (by omega), z5]; exact r6, ?_, ?_, ?_, ?_, ?_⟩
              · have n0 : N' 37 i = e0 := by rw [← hN, ux_ne (by omega), ux_ne (by omega), ux_ne (by omega), ux_ne (by omega), ux_at]
                rw [wa _ _ (by omega), v0, n0, ← hC2, ux_ne (by omega), ux_ne (by omega), ux_ne (by omega), ux_ne (by omega), ux_at]
                exact ⟨rfl, rfl, g0, he0⟩
              · have n0 : N' 38 i = e1 := by rw [← hN, ux_ne (by omega), ux_ne (by omega), ux_ne (by omega), ux_at]
                rw [wa _ _ (by omega), v1, n0, ← hC2, ux_ne (by omega), ux_ne (by omega), ux_ne (by omega), ux_at]
                exact ⟨rfl, rfl, g1, he1⟩
              · have n0 : N' 39 i = e2 := by rw [← hN, ux_ne (by omega), ux_ne (by omega), ux_at]
                rw [wa _ _ (by omega), v2, n0, ← hC2, ux_ne (by omega), ux_ne (by omega), ux_at]
                exact ⟨rfl, rfl, g2, he2⟩
              · have n0 : N' 40 i = 0 := by rw [← hN, ux_ne (by omega), ux_at]
                rw [wa _ _ (by omega), v5, n0, ← hC2, ux_ne (by omega), ux_at]
                exact ⟨rfl, rfl, by omega⟩
              · have n0 : N' 40 i = 0 := by rw [← hN, ux_ne (by omega), ux_at]
                intro k hk
                rw [n0] at hk
                omega
            · obtain ⟨a1, a2, a3, a4, a5, a6, a7, a8, a9, a10, a11, a12, a13⟩ := hha i (by omega)
              have hz2 := (hF.1 (i + 2000) (by omega)).2.2.2
              have hz3 := (hF.1 (i + 3000) (by omega)).2.2.2
              have hz4 := (hF.1 (i + 4000) (by omega)).2.2.2
              have hz5 := (hF.1 (i + 5000) (by omega)).2.2.2
              refine ⟨by rw [rr _ _ (by omega), hz2]; exact a1, by rw [hz2]; exact ly_is_fr a2 hz hF (by omega), by rw [hz3]; exact ly_is_fr a3 hz hF (by omega), by rw [hz4]; exact ly_is_fr a4 hz hF (by omega), by rw [hz5]; exact ly_is_fr a5 hz hF (by omega), by rw [rr _ _ (by omega), hz3]; exact a6, by rw [rr _ _ (by omega), hz4]; exact a7, by rw [rr _ _ (by omega), hz5]; exact a8, ?_, ?_, ?_, ?_, fun k hk => ?_⟩
              · rw [c2 _ _ (by omega), c2 37 _ (by omega), nn _ _ (by omega)]; exact a9
              · rw [c2 _ _ (by omega), c2 38 _ (by omega), nn _ _ (by omega)]; exact a10
              · rw [c2 _ _ (by omega), c2 39 _ (by omega), nn _ _ (by omega)]; exact a11
              · rw [c2 _ _ (by omega), c2 40 _ (by omega), nn _ _ (by omega)]; exact a12
              · rw [nn 40 i (by omega)] at hk
                rw [c2 (i + 3000) _ (by omega), c2 41 _ (by omega), c2 (i + 4000) _ (by omega), c2 42 _ (by omega), nn 41 _ (by omega), nn 42 _ (by omega), nn 31 13 (by omega)]
                exact a13 k hk
          · exact rl_im_fr him hs.2.1.2.2 (fun j q1 q2 => nn _ _ (by omega)) (fun j => nn _ _ (by omega)) (fun i q => by rw [nn 40 i (by omega)]; exact Nat.le_refl _) (fun i k q1 q2 => nn _ _ (by omega)) (Nat.le_of_eq (nn 31 27 (by omega)).symm) (by omega) (Nat.le_of_eq (nn 31 3 (by omega)).symm) (Nat.le_of_eq (nn 31 13 (by omega)).symm) (fun j q1 q2 => c2 _ _ (by omega)) (fun j q1 q2 => c2 _ _ (by omega)) (fun j => ⟨c2 _ _ (by omega), c2 _ _ (by omega)⟩) (fun i q => by have := hs.2.1.2.2; exact c2 _ _ (by omega)) (fun i j q => by have := hs.2.1.2.2; exact c2 _ _ (by omega))
      · refine ⟨.int (-Int32.ofNat 2), N, Z, C, L, R, D, Z, C, L, R, D, ?_, ?_, h, by omega, hz.2.1, fun _ _ => rfl⟩
        · simp only [e_H_hall, r_H_hall_0, r_H_hall_1, r_H_hall_2, r_H_hall_4, r_H_hall_7, r_H_hall_10, r_H_hall_11, r_H_hall_12, r_H_hall_14, r_H_hall_17, r_H_hall_20, r_H_hall_21, r_H_hall_22, r_H_hall_24, r_H_hall_27, r_H_hall_30, r_H_hall_32, r_H_hall_33, r_H_hall_34, r_H_hall_37, r_H_hall_38, r_H_hall_41, r_H_hall_42, r_H_hall_45, r_H_hall_47, r_H_hall_48, r_H_hall_49, r_H_hall_52, r_H_hall_53, r_H_hall_56, r_H_hall_59, r_H_hall_60, r_H_hall_61, r_H_hall_62, r_H_hall_63, r_H_hall_66, r_H_hall_67, r_H_hall_68, r_H_hall_69, r_H_hall_72, r_H_hall_73, r_H_hall_74, r_H_hall_75, r_H_hall_78, ly_g0_6, ly_g0_1, ly_n2, ly_r2, ly_w2, ly_p0_6, i3n_0, i3n_1, i3n_2, i3n_4, i3n_20, i3n_99999, l6n_0, l6n_1, am_kf_s, am_km_s, am_kn_s, am_k_v, am_k_0, am_isr_r, am_isr_n, am_isr_v, am_sw_0, am_sw_i, am_sw_l, am_sw_r, am_sw_n, am_sw_v, am_ct_i, am_ct_r, am_ct_n, am_c1_o, am_c1_n, am_c1_i, am_c1_r, am_c1_v, am_mk_1, lc_lt, lc_gt, lc_eq, lc_le, lc_ge, i01_eq, i01_ok, ite_not, true_or, or_true, true_and, and_true, false_or, or_false, false_and, and_false, if_true, if_false, not_true_eq_false, not_false_eq_true, eq_self, Nat.reduceAdd, Nat.reduceLeDiff, Nat.reduceLT, Nat.reduceEqDiff, Nat.reduceMul, Nat.reduceSub, Nat.reduceDiv, Nat.reduceMod, reduceCtorEq, Nat.zero_le, i3_le, i3_lt, i3_eq, i3_eqN, i3_leN, i3_Nle, i3_ltN, i3_NleN, i3_NeqN, i3_Neq, i3_NltN, i3_Nlt, l6_le, l6_lt, l6_eq, l6_leN, l6_Nle, l6_ltN, l6_Nlt, l6_eqN, l6_Neq, x_H_within, h1, h2, h3, and_self]
        · simp only [e_M_hall, r_M_hall_0, r_M_hall_1, r_M_hall_2, r_M_hall_3, r_M_hall_6, r_M_hall_9, r_M_hall_12, r_M_hall_13, r_M_hall_14, r_M_hall_17, r_M_hall_20, r_M_hall_23, r_M_hall_26, r_M_hall_27, r_M_hall_28, r_M_hall_31, r_M_hall_34, r_M_hall_37, r_M_hall_40, r_M_hall_42, r_M_hall_43, r_M_hall_44, r_M_hall_47, r_M_hall_49, r_M_hall_52, r_M_hall_54, r_M_hall_55, r_M_hall_56, r_M_hall_59, r_M_hall_60, r_M_hall_63, r_M_hall_64, r_M_hall_65, r_M_hall_66, r_M_hall_69, r_M_hall_70, r_M_hall_73, r_M_hall_74, r_M_hall_75, r_M_hall_76, r_M_hall_79, r_M_hall_80, r_M_hall_83, r_M_hall_84, r_M_hall_85, r_M_hall_86, r_M_hall_89, r_M_hall_90, r_M_hall_93, r_M_hall_94, r_M_hall_95, r_M_hall_96, r_M_hall_97, r_M_hall_100, r_M_hall_101, r_M_hall_102, r_M_hall_105, r_M_hall_106, r_M_hall_109, r_M_hall_110, r_M_hall_111, ly_g31_17, ly_g31_14, ly_n37, ly_r37, ly_w37, ly_g31_15, ly_n38, ly_r38, ly_w38, ly_g31_16, ly_n39, ly_r39, ly_w39, ly_g31_18, ly_n40, ly_r40, ly_w40, ly_p31_17, i3n_0, i3n_1, i3n_2, i3n_4, i3n_6, l6n_0, l6n_1, l6n_2, l6n_20, l6n_99999, am_kf_s, am_km_s, am_kn_s, am_k_v, am_k_0, am_isr_r, am_isr_n, am_isr_v, am_sw_0, am_sw_i, am_sw_l, am_sw_r, am_sw_n, am_sw_v, am_ct_i, am_ct_r, am_ct_n, am_c1_o, am_c1_n, am_c1_i, am_c1_r, am_c1_v, am_mk_1, lc_lt, lc_gt, lc_eq, lc_le, lc_ge, i01_eq, i01_ok, ite_not, true_or, or_true, true_and, and_true, false_or, or_false, false_and, and_false, if_true, if_false, not_true_eq_false, not_false_eq_true, eq_self, Nat.reduceAdd, Nat.reduceLeDiff, Nat.reduceLT, Nat.reduceEqDiff, Nat.reduceMul, Nat.reduceSub, Nat.reduceDiv, Nat.reduceMod, reduceCtorEq, Nat.zero_le, i3_le, i3_lt, i3_eq, i3_eqN, i3_leN, i3_Nle, i3_ltN, i3_NleN, i3_NeqN, i3_Neq, i3_NltN, i3_Nlt, l6_le, l6_lt, l6_eq, l6_leN, l6_Nle, l6_ltN, l6_Nlt, l6_eqN, l6_Neq, x_M_in, w_leL, w_leR, h1, h2, h3, and_self]
    · refine ⟨.int (-Int32.ofNat 2), N, Z, C, L, R, D, Z, C, L, R, D, ?_, ?_, h, by omega, hz.2.1, fun _ _ => rfl⟩
      · simp only [e_H_hall, r_H_hall_0, r_H_hall_1, r_H_hall_2, r_H_hall_4, r_H_hall_7, r_H_hall_10, r_H_hall_11, r_H_hall_12, r_H_hall_14, r_H_hall_17, r_H_hall_20, r_H_hall_21, r_H_hall_22, r_H_hall_24, r_H_hall_27, r_H_hall_30, r_H_hall_32, r_H_hall_33, r_H_hall_34, r_H_hall_37, r_H_hall_38, r_H_hall_41, r_H_hall_42, r_H_hall_45, r_H_hall_47, r_H_hall_48, r_H_hall_49, r_H_hall_52, r_H_hall_53, r_H_hall_56, r_H_hall_59, r_H_hall_60, r_H_hall_61, r_H_hall_62, r_H_hall_63, r_H_hall_66, r_H_hall_67, r_H_hall_68, r_H_hall_69, r_H_hall_72, r_H_hall_73, r_H_hall_74, r_H_hall_75, r_H_hall_78, ly_g0_6, ly_g0_1, ly_n2, ly_r2, ly_w2, ly_p0_6, i3n_0, i3n_1, i3n_2, i3n_4, i3n_20, i3n_99999, l6n_0, l6n_1, am_kf_s, am_km_s, am_kn_s, am_k_v, am_k_0, am_isr_r, am_isr_n, am_isr_v, am_sw_0, am_sw_i, am_sw_l, am_sw_r, am_sw_n, am_sw_v, am_ct_i, am_ct_r, am_ct_n, am_c1_o, am_c1_n, am_c1_i, am_c1_r, am_c1_v, am_mk_1, lc_lt, lc_gt, lc_eq, lc_le, lc_ge, i01_eq, i01_ok, ite_not, true_or, or_true, true_and, and_true, false_or, or_false, false_and, and_false, if_true, if_false, not_true_eq_false, not_false_eq_true, eq_self, Nat.reduceAdd, Nat.reduceLeDiff, Nat.reduceLT, Nat.reduceEqDiff, Nat.reduceMul, Nat.reduceSub, Nat.reduceDiv, Nat.reduceMod, reduceCtorEq, Nat.zero_le, i3_le, i3_lt, i3_eq, i3_eqN, i3_leN, i3_Nle, i3_ltN, i3_NleN, i3_NeqN, i3_Neq, i3_NltN, i3_Nlt, l6_le, l6_lt, l6_eq, l6_leN, l6_Nle, l6_ltN, l6_Nlt, l6_eqN, l6_Neq, x_H_within, h1, h2, and_self]
      · simp only [e_M_hall, r_M_hall_0, r_M_hall_1, r_M_hall_2, r_M_hall_3, r_M_hall_6, r_M_hall_9, r_M_hall_12, r_M_hall_13, r_M_hall_14, r_M_hall_17, r_M_hall_20, r_M_hall_23, r_M_hall_26, r_M_hall_27, r_M_hall_28, r_M_hall_31, r_M_hall_34, r_M_hall_37, r_M_hall_40, r_M_hall_42, r_M_hall_43, r_M_hall_44, r_M_hall_47, r_M_hall_49, r_M_hall_52, r_M_hall_54, r_M_hall_55, r_M_hall_56, r_M_hall_59, r_M_hall_60, r_M_hall_63, r_M_hall_64, r_M_hall_65, r_M_hall_66, r_M_hall_69, r_M_hall_70, r_M_hall_73, r_M_hall_74, r_M_hall_75, r_M_hall_76, r_M_hall_79, r_M_hall_80, r_M_hall_83, r_M_hall_84, r_M_hall_85, r_M_hall_86, r_M_hall_89, r_M_hall_90, r_M_hall_93, r_M_hall_94, r_M_hall_95, r_M_hall_96, r_M_hall_97, r_M_hall_100, r_M_hall_101, r_M_hall_102, r_M_hall_105, r_M_hall_106, r_M_hall_109, r_M_hall_110, r_M_hall_111, ly_g31_17, ly_g31_14, ly_n37, ly_r37, ly_w37, ly_g31_15, ly_n38, ly_r38, ly_w38, ly_g31_16, ly_n39, ly_r39, ly_w39, ly_g31_18, ly_n40, ly_r40, ly_w40, ly_p31_17, i3n_0, i3n_1, i3n_2, i3n_4, i3n_6, l6n_0, l6n_1, l6n_2, l6n_20, l6n_99999, am_kf_s, am_km_s, am_kn_s, am_k_v, am_k_0, am_isr_r, am_isr_n, am_isr_v, am_sw_0, am_sw_i, am_sw_l, am_sw_r, am_sw_n, am_sw_v, am_ct_i, am_ct_r, am_ct_n, am_c1_o, am_c1_n, am_c1_i, am_c1_r, am_c1_v, am_mk_1, lc_lt, lc_gt, lc_eq, lc_le, lc_ge, i01_eq, i01_ok, ite_not, true_or, or_true, true_and, and_true, false_or, or_false, false_and, and_false, if_true, if_false, not_true_eq_false, not_false_eq_true, eq_self, Nat.reduceAdd, Nat.reduceLeDiff, Nat.reduceLT, Nat.reduceEqDiff, Nat.reduceMul, Nat.reduceSub, Nat.reduceDiv, Nat.reduceMod, reduceCtorEq, Nat.zero_le, i3_le, i3_lt, i3_eq, i3_eqN, i3_leN, i3_Nle, i3_ltN, i3_NleN, i3_NeqN, i3_Neq, i3_NltN, i3_Nlt, l6_le, l6_lt, l6_eq, l6_leN, l6_Nle, l6_ltN, l6_Nlt, l6_eqN, l6_Neq, x_M_in, w_leL, w_leR, h1, h2, and_self]
  · refine ⟨.int (-Int32.ofNat 2), N, Z, C, L, R, D, Z, C, L, R, D, ?_, ?_, h, by omega, hz.2.1, fun _ _ => rfl⟩
    · simp only [e_H_hall, r_H_hall_0, r_H_hall_1, r_H_hall_2, r_H_hall_4, r_H_hall_7, r_H_hall_10, r_H_hall_11, r_H_hall_12, r_H_hall_14, r_H_hall_17, r_H_hall_20, r_H_hall_21, r_H_hall_22, r_H_hall_24, r_H_hall_27, r_H_hall_30, r_H_hall_32, r_H_hall_33, r_H_hall_34, r_H_hall_37, r_H_hall_38, r_H_hall_41, r_H_hall_42, r_H_hall_45, r_H_hall_47, r_H_hall_48, r_H_hall_49, r_H_hall_52, r_H_hall_53, r_H_hall_56, r_H_hall_59, r_H_hall_60, r_H_hall_61, r_H_hall_62, r_H_hall_63, r_H_hall_66, r_H_hall_67, r_H_hall_68, r_H_hall_69, r_H_hall_72, r_H_hall_73, r_H_hall_74, r_H_hall_75, r_H_hall_78, ly_g0_6, ly_g0_1, ly_n2, ly_r2, ly_w2, ly_p0_6, i3n_0, i3n_1, i3n_2, i3n_4, i3n_20, i3n_99999, l6n_0, l6n_1, am_kf_s, am_km_s, am_kn_s, am_k_v, am_k_0, am_isr_r, am_isr_n, am_isr_v, am_sw_0, am_sw_i, am_sw_l, am_sw_r, am_sw_n, am_sw_v, am_ct_i, am_ct_r, am_ct_n, am_c1_o, am_c1_n, am_c1_i, am_c1_r, am_c1_v, am_mk_1, lc_lt, lc_gt, lc_eq, lc_le, lc_ge, i01_eq, i01_ok, ite_not, true_or, or_true, true_and, and_true, false_or, or_false, false_and, and_false, if_true, if_false, not_true_eq_false, not_false_eq_true, eq_self, Nat.reduceAdd, Nat.reduceLeDiff, Nat.reduceLT, Nat.reduceEqDiff, Nat.reduceMul, Nat.reduceSub, Nat.reduceDiv, Nat.reduceMod, reduceCtorEq, Nat.zero_le, i3_le, i3_lt, i3_eq, i3_eqN, i3_leN, i3_Nle, i3_ltN, i3_NleN, i3_NeqN, i3_Neq, i3_NltN, i3_Nlt, l6_le, l6_lt, l6_eq, l6_leN, l6_Nle, l6_ltN, l6_Nlt, l6_eqN, l6_Neq, x_H_within, h1]
    · simp only [e_M_hall, r_M_hall_0, r_M_hall_1, r_M_hall_2, r_M_hall_3, r_M_hall_6, r_M_hall_9, r_M_hall_12, r_M_hall_13, r_M_hall_14, r_M_hall_17, r_M_hall_20, r_M_hall_23, r_M_hall_26, r_M_hall_27, r_M_hall_28, r_M_hall_31, r_M_hall_34, r_M_hall_37, r_M_hall_40, r_M_hall_42, r_M_hall_43, r_M_hall_44, r_M_hall_47, r_M_hall_49, r_M_hall_52, r_M_hall_54, r_M_hall_55, r_M_hall_56, r_M_hall_59, r_M_hall_60, r_M_hall_63, r_M_hall_64, r_M_hall_65, r_M_hall_66, r_M_hall_69, r_M_hall_70, r_M_hall_73, r_M_hall_74, r_M_hall_75, r_M_hall_76, r_M_hall_79, r_M_hall_80, r_M_hall_83, r_M_hall_84, r_M_hall_85, r_M_hall_86, r_M_hall_89, r_M_hall_90, r_M_hall_93, r_M_hall_94, r_M_hall_95, r_M_hall_96, r_M_hall_97, r_M_hall_100, r_M_hall_101, r_M_hall_102, r_M_hall_105, r_M_hall_106, r_M_hall_109, r_M_hall_110, r_M_hall_111, ly_g31_17, ly_g31_14, ly_n37, ly_r37, ly_w37, ly_g31_15, ly_n38, ly_r38, ly_w38, ly_g31_16, ly_n39, ly_r39, ly_w39, ly_g31_18, ly_n40, ly_r40, ly_w40, ly_p31_17, i3n_0, i3n_1, i3n_2, i3n_4, i3n_6, l6n_0, l6n_1, l6n_2, l6n_20, l6n_99999, am_kf_s, am_km_s, am_kn_s, am_k_v, am_k_0, am_isr_r, am_isr_n, am_isr_v, am_sw_0, am_sw_i, am_sw_l, am_sw_r, am_sw_n, am_sw_v, am_ct_i, am_ct_r, am_ct_n, am_c1_o, am_c1_n, am_c1_i, am_c1_r, am_c1_v, am_mk_1, lc_lt, lc_gt, lc_eq, lc_le, lc_ge, i01_eq, i01_ok, ite_not, true_or, or_true, true_and, and_true, false_or, or_false, false_and, and_false, if_true, if_false, not_true_eq_false, not_false_eq_true, eq_self, Nat.reduceAdd, Nat.reduceLeDiff, Nat.reduceLT, Nat.reduceEqDiff, Nat.reduceMul, Nat.reduceSub, Nat.reduceDiv, Nat.reduceMod, reduceCtorEq, Nat.zero_le, i3_le, i3_lt, i3_eq, i3_eqN, i3_leN, i3_Nle, i3_ltN, i3_NleN, i3_NeqN, i3_Neq, i3_NltN, i3_Nlt, l6_le, l6_lt, l6_eq, l6_leN, l6_Nle, l6_ltN, l6_Nlt, l6_eqN, l6_Neq, x_M_in, w_leL, w_leR, h1]
end
