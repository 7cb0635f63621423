/-! text -/
/-- the NAMES of the NIGHT i, by the reference's rows -/
def mr_ev (C : Nat → Nat → Int32) (i : Nat) (k : Int32) : Int32 := if k = Int32.ofNat 0 then C 43 i else if k = Int32.ofNat 1 then C 44 i else if k = Int32.ofNat 2 then C 45 i else if k = Int32.ofNat 3 then C 46 i else if k = Int32.ofNat 4 then C 47 i else C 48 i
theorem mr_ev_E {C : Nat → Nat → Int32} {i : Nat} : mr_E (mr_ev C i) i C := ⟨rfl, rfl, rfl, rfl, rfl, rfl⟩
section
variable {G : Nat → Value} {x : Nat}
theorem l_M_text {d t n : Nat} {Z : ly_Z} {L : Nat → Nat → Int64} {R : Nat → Nat → Option Nat} {D : am_M} (ht : t < 6) (hn : n ≤ 160) : ∀ (k i : Nat) (C : Nat → Nat → Int32), n - i = k → i ≤ n → C 31 6 = Int32.ofNat n → C 31 3 = Int32.ofNat t → (∀ j, j < i → C 32 (160 * t + j) = C 34 j) → ∃ C', am_run G d K_M_text (14, [some (.ref (x + 31)), some (.int (Int32.ofNat i))], [], am_mk x true Z C L R D) = am_run G d K_M_text (49, [some (.ref (x + 31)), some (.int (Int32.ofNat n))], [], am_mk x true Z C' L R D) ∧ (∀ j, j < n → C' 32 (160 * t + j) = C 34 j) ∧ ∀ a j, ¬ (a = 32 ∧ 160 * t ≤ j) → C' a j = C a j := by
  intro k
  induction k with
  | zero =>
    intro i C hk hi h6 h3 hj
    have : i = n := by omega
    subst this
    have b1 : i < 2147483648 := by omega
    refine ⟨C, ?_, hj, fun _ _ _ => rfl⟩
    rw [r_M_text_14]
    simp only [r_M_text_15, r_M_text_16, r_M_text_19, r_M_text_22, r_M_text_23, r_M_text_26, r_M_text_29, r_M_text_30, r_M_text_33, r_M_text_34, r_M_text_35, r_M_text_36, r_M_text_37, r_M_text_40, r_M_text_41, r_M_text_42, r_M_text_43, r_M_text_43_k, r_M_text_46, ly_g31_3, ly_g31_6, ly_g31_1, ly_n32, ly_r32, ly_w32, ly_g31_5, ly_n34, ly_r34, ly_w34, ly_g31_2, ly_n33, ly_r33, ly_w33, ly_p31_6, ly_k31, ly_g31_35, ly_g31_36, ly_p31_3, i3n_0, i3n_1, i3n_4, i3n_6, i3n_100, i3n_160, l6n_0, l6n_1, am_kf_s, am_km_s, am_kn_s, am_k_v, am_k_0, am_isr_r, am_isr_n, am_isr_v, am_sw_0, am_sw_i, am_sw_l, am_sw_r, am_sw_n, am_sw_v, am_ct_i, am_ct_r, am_ct_n, am_c1_o, am_c1_n, am_c1_i, am_c1_r, am_c1_v, am_mk_1, lc_lt, lc_gt, lc_eq, lc_le, lc_ge, i01_eq, i01_ok, ite_not, true_or, or_true, true_and, and_true, false_or, or_false, false_and, and_false, if_true, if_false, not_true_eq_false, not_false_eq_true, eq_self, Nat.reduceAdd, Nat.reduceLeDiff, Nat.reduceLT, Nat.reduceEqDiff, Nat.reduceMul, Nat.reduceSub, Nat.reduceDiv, Nat.reduceMod, reduceCtorEq, Nat.zero_le, i3_le, i3_lt, i3_eq, i3_eqN, i3_leN, i3_Nle, i3_ltN, i3_NleN, i3_NeqN, i3_Neq, i3_NltN, i3_Nlt, l6_le, l6_lt, l6_eq, l6_leN, l6_Nle, l6_ltN, l6_Nlt, l6_eqN, l6_Neq, h6, b1, Nat.le_refl]
  | succ k ih =>
    intro i C hk hi h6 h3 hj
    have b1 : i < 2147483648 := by omega
    have b2 : n < 2147483648 := by omega
    have b3 : ¬ n ≤ i := by omega
    have b4 : 160 * t + i < 960 := by omega
    have b5 : i < 160 := by omega
    obtain ⟨C', e1, e2, e3⟩ := ih (i + 1) (ux C 32 (160 * t + i) (C 34 i)) (by omega) (by omega) (by rw [ux_ne (by omega)]; exact h6) (by rw [ux_ne (by omega)]; exact h3) (fun j hj2 => by
      by_cases hji : j = i
      · subst hji; rw [ux_at, ux_ne (by omega)]
      · rw [ux_ne (by omega), ux_ne (by omega)]; exact hj j (by omega))
    refine ⟨C', ?_, fun j hjn => by rw [e2 j hjn, ux_ne (by omega)], fun a j q => by rw [e3 a j q, ux_ne (by omega)]⟩
    rw [r_M_text_14, ← e1]
    simp only [r_M_text_15, r_M_text_16, r_M_text_19, r_M_text_22, r_M_text_23, r_M_text_26, r_M_text_29, r_M_text_30, r_M_text_33, r_M_text_34, r_M_text_35, r_M_text_36, r_M_text_37, r_M_text_40, r_M_text_41, r_M_text_42, r_M_text_43, r_M_text_43_k, r_M_text_46, ly_g31_3, ly_g31_6, ly_g31_1, ly_n32, ly_r32, ly_w32, ly_g31_5, ly_n34, ly_r34, ly_w34, ly_g31_2, ly_n33, ly_r33, ly_w33, ly_p31_6, ly_k31, ly_g31_35, ly_g31_36, ly_p31_3, i3n_0, i3n_1, i3n_4, i3n_6, i3n_100, i3n_160, l6n_0, l6n_1, am_kf_s, am_km_s, am_kn_s, am_k_v, am_k_0, am_isr_r, am_isr_n, am_isr_v, am_sw_0, am_sw_i, am_sw_l, am_sw_r, am_sw_n, am_sw_v, am_ct_i, am_ct_r, am_ct_n, am_c1_o, am_c1_n, am_c1_i, am_c1_r, am_c1_v, am_mk_1, lc_lt, lc_gt, lc_eq, lc_le, lc_ge, i01_eq, i01_ok, ite_not, true_or, or_true, true_and, and_true, false_or, or_false, false_and, and_false, if_true, if_false, not_true_eq_false, not_false_eq_true, eq_self, Nat.reduceAdd, Nat.reduceLeDiff, Nat.reduceLT, Nat.reduceEqDiff, Nat.reduceMul, Nat.reduceSub, Nat.reduceDiv, Nat.reduceMod, reduceCtorEq, Nat.zero_le, i3_le, i3_lt, i3_eq, i3_eqN, i3_leN, i3_Nle, i3_ltN, i3_NleN, i3_NeqN, i3_Neq, i3_NltN, i3_Nlt, l6_le, l6_lt, l6_eq, l6_leN, l6_Nle, l6_ltN, l6_Nlt, l6_eqN, l6_Neq, h6, h3, b1, b2, b3, b4, b5, i3_mul, i3_add]
/-- what reading a TEXT leaves, but for the new TEXT -/
theorem rl_text0 {N N' : Nat → Nat → Nat} {Z Z1 : ly_Z} {C C2 : Nat → Nat → Int32} {L L1 : Nat → Nat → Int64} {R R1 : Nat → Nat → Option Nat} {D D1 : am_M} {C1 : Nat → Nat → Int32} {n : Nat} (hn : N 31 3 = n) (h : rl G N x Z C R D) (hF : ly_fr (tx_T n) x Z C L R D Z1 C1 L1 R1 D1) (hZ1 : tp_Z x Z1 D1) (c2 : ∀ a j, ¬ (a = 7 ∨ a = 9 ∨ a = n + 7000 ∨ a = n + 8000 ∨ a = n + 9000 ∨ a = n + 10000 ∨ a = 32 ∧ 160 * n ≤ j ∨ a = 33 ∧ j = n ∨ a = 31 ∧ (j = 6 ∨ 28 ≤ j ∧ j ≤ 37)) → C2 a j = C a j) (c71 : C2 7 1 = Int32.ofNat 0) (m6 : C2 31 6 = Int32.ofNat 0) (nn : ∀ a j, ¬ (a = 32 ∧ 160 * n ≤ j ∨ a = 33 ∧ j = n ∨ a = 31 ∧ j = 6) → N' a j = N a j) (n6 : N' 31 6 = 0) : rl G N' x Z1 C2 R1 D1 := by
  have hn6 := h.1.2.2.2.1.2.2
  have rr : ∀ a j, ¬ (a = 7 ∨ a = 9 ∨ a = n + 7000 ∨ a = n + 8000 ∨ a = n + 9000 ∨ a = n + 10000) → R1 a j = R a j := fun a j q => by rw [(hF.1 a q).2.2.1]
  have hz := h.2.2.2.2.2.2.2.2.1
  have zt : ∀ lo hi : Nat, 10 ≤ lo ∧ hi ≤ 7000 → rl_zt x Z Z1 lo hi := fun lo hi hh => rl_zt_fr hz hF (fun t q1 q2 => by unfold tx_T; omega)
  obtain ⟨hs, hst, hha, hni, hte, htp, him, hsh, hZ, hS, h58, hu⟩ := h
  refine ⟨by
          obtain ⟨q1, q2, q3, q4, q5, q6, q7, q8, q9, q10⟩ := hs
          exact ⟨by rw [c2 0 5 (by omega), c2 31 13 (by omega), nn 31 13 (by omega)]; exact q1, by rw [c2 0 6 (by omega), c2 31 17 (by omega), nn 31 17 (by omega)]; exact q2, by rw [c2 0 7 (by omega), c2 31 27 (by omega), nn 31 27 (by omega)]; exact q3, by rw [c2 0 8 (by omega), c2 31 3 (by omega), nn 31 3 (by omega)]; exact q4, by rw [c2 0 10 (by omega), c2 31 4 (by omega), nn 31 4 (by omega), nn 31 3 (by omega)]; exact q5, ⟨by rw [n6]; exact c71, by rw [n6]; exact m6, by rw [n6]; omega⟩, by rw [c2 6 0 (by omega), c2 31 7 (by omega), nn 31 7 (by omega)]; exact q7, by rw [c2 6 1 (by omega), c2 31 8 (by omega), nn 31 8 (by omega)]; exact q8, by rw [c2 6 2 (by omega), c2 31 9 (by omega), nn 31 9 (by omega)]; exact q9, by rw [c2 6 3 (by omega), c2 31 10 (by omega), nn 31 10 (by omega)]; exact q10⟩, rl_st_fr hst hs.1.2.2 (nn _ _ (by omega)) (fun j => ⟨nn _ _ (by omega), nn _ _ (by omega)⟩) (fun j => ⟨c2 _ _ (by omega), c2 _ _ (by omega)⟩) (fun k j q1 q2 => c2 _ _ (by omega)) (fun j => rr _ _ (by omega)) (zt _ _ (by omega)), rl_ha_fr hha hs.2.1.2.2 (nn _ _ (by omega)) (Nat.le_of_eq (nn 31 13 (by omega)).symm) (fun k j q1 q2 => nn _ _ (by omega)) (fun k j q1 q2 => c2 _ _ (by omega)) (fun k j q1 q2 q3 => c2 _ _ (by omega)) (fun j => rr _ _ (by omega)) (fun k j q1 q2 => rr _ _ (by omega)) (zt _ _ (by omega)), rl_ni_fr hni hs.2.2.1.2.2 hs.2.1.2.2 (nn _ _ (by omega)) (Nat.le_of_eq (nn 31 17 (by omega)).symm) (fun k j q1 q2 => nn _ _ (by omega)) (fun k j q1 q2 => c2 _ _ (by omega)) (fun k j q1 q2 => c2 _ _ (by omega)) (fun j => rr _ _ (by omega)) (fun k j q1 q2 => rr _ _ (by omega)) (zt _ _ (by omega)) (fun t ht => (zt 2000 6000 (by omega) _ (by omega) (by have := hs.2.1.2.2; omega)).1), ?_, ?_, rl_im_fr him hs.2.1.2.2 (fun j q1 q2 => nn _ _ (by omega)) (fun j => nn _ _ (by omega)) (fun i q => (Nat.le_of_eq (nn 40 i (by omega)).symm)) (fun i k q1 q2 => nn _ _ (by omega)) (Nat.le_of_eq (nn 31 27 (by omega)).symm) (Nat.le_of_eq (nn 31 17 (by omega)).symm) (Nat.le_of_eq (nn 31 3 (by omega)).symm) (Nat.le_of_eq (nn 31 13 (by omega)).symm) (fun j q1 q2 => c2 _ _ (by omega)) (fun j q1 q2 => c2 _ _ (by omega)) (fun j => ⟨c2 _ _ (by omega), c2 _ _ (by omega)⟩) (fun i q => by have := hs.2.1.2.2; exact c2 _ _ (by omega)) (fun i j q => by have := hs.2.1.2.2; exact c2 _ _ (by omega)), rl_sh_fr hsh (fun k j q1 q2 => c2 _ _ (by omega)) (fun k j q1 q2 => c2 _ _ (by omega)) (fun j => rr _ _ (by omega)), hZ1, tp_S_fr hS hF hZ1, by have := hF.2.2.1; omega, rl_u_fr hu hF.2.2.2⟩
  · intro t ht
    rw [nn 31 3 (by omega)] at ht
    refine rl_te1_fr (by omega) (hte t ht) (fun j hj => nn _ _ (by omega)) (nn _ _ (by omega)) (fun j hj => c2 _ _ (by omega)) (c2 _ _ (by omega)) (fun j => ⟨c2 _ _ (by omega), c2 _ _ (by omega)⟩) (rr _ _ (by omega)) (fun u j hu => rr _ _ (by omega)) (fun u hu => ⟨(hF.1 u (by unfold tx_T; omega)).2.2.2, fun q k q2 => ly_is_fr q2 hz hF (by unfold tx_T; omega)⟩)
  · intro j hj
    rw [n6] at hj
    omega
theorem J_text : rl_pair G x K_H_text K_M_text [] := by
  intro N Z C L R D h
  have hz := h.2.2.2.2.2.2.2.2.1
  obtain ⟨s1, s2, s3⟩ := h.1.2.2.2.1
  by_cases h6 : N 31 3 = 6
  · rw [h6] at s1 s2
    refine ⟨.int (-Int32.ofNat 4), N, Z, C, L, R, D, Z, C, L, R, D, ?_, ?_, h, by omega, hz.2.1, fun _ _ => rfl⟩
    · simp only [e_H_text, r_H_text_0, r_H_text_1, r_H_text_4, r_H_text_5, r_H_text_8, r_H_text_9, r_H_text_12, r_H_text_14, r_H_text_15, r_H_text_16, r_H_text_19, r_H_text_22, r_H_text_22_k, r_H_text_23, r_H_text_24, r_H_text_27, r_H_text_29, r_H_text_30, r_H_text_33, r_H_text_36, r_H_text_37, r_H_text_38, r_H_text_39, r_H_text_42, r_H_text_43, r_H_text_46, r_H_text_47, r_H_text_48, r_H_text_49, r_H_text_50, r_H_text_53, r_H_text_54, r_H_text_55, r_H_text_56, r_H_text_59, ly_g0_8, ly_g0_3, ly_n4, ly_r4, ly_w4, ly_g0_11, ly_k7, ly_g7_6, ly_p0_8, i3n_0, i3n_1, i3n_4, i3n_100, l6n_0, l6n_1, am_kf_s, am_km_s, am_kn_s, am_k_v, am_k_0, am_isr_r, am_isr_n, am_isr_v, am_sw_0, am_sw_i, am_sw_l, am_sw_r, am_sw_n, am_sw_v, am_ct_i, am_ct_r, am_ct_n, am_c1_o, am_c1_n, am_c1_i, am_c1_r, am_c1_v, am_mk_1, lc_lt, lc_gt, lc_eq, lc_le, lc_ge, i01_eq, i01_ok, ite_not, true_or, or_true, true_and, and_true, false_or, or_false, false_and, and_false, if_true, if_false, not_true_eq_false, not_false_eq_true, eq_self, Nat.reduceAdd, Nat.reduceLeDiff, Nat.reduceLT, Nat.reduceEqDiff, Nat.reduceMul, Nat.reduceSub, Nat.reduceDiv, Nat.reduceMod, reduceCtorEq, Nat.zero_le, i3_le, i3_lt, i3_eq, i3_eqN, i3_leN, i3_Nle, i3_ltN, i3_NleN, i3_NeqN, i3_Neq, i3_NltN, i3_Nlt, l6_le, l6_lt, l6_eq, l6_leN, l6_Nle, l6_ltN, l6_Nlt, l6_eqN, l6_Neq, s1, Nat.lt_irrefl]
    · simp only [e_M_text, r_M_text_0, r_M_text_1, r_M_text_4, r_M_text_6, r_M_text_9, r_M_text_11, r_M_text_12, r_M_text_13, r_M_text_13_k, r_M_text_15, r_M_text_16, r_M_text_19, r_M_text_22, r_M_text_23, r_M_text_26, r_M_text_29, r_M_text_30, r_M_text_33, r_M_text_34, r_M_text_35, r_M_text_36, r_M_text_37, r_M_text_40, r_M_text_41, r_M_text_42, r_M_text_43, r_M_text_43_k, r_M_text_46, r_M_text_49, r_M_text_50, r_M_text_53, r_M_text_54, r_M_text_57, r_M_text_58, r_M_text_61, r_M_text_62, r_M_text_63, r_M_text_64, r_M_text_67, r_M_text_68, r_M_text_69, r_M_text_72, r_M_text_73, r_M_text_74, r_M_text_77, r_M_text_77_k, r_M_text_78, r_M_text_79, r_M_text_82, r_M_text_85, r_M_text_87, r_M_text_88, r_M_text_91, r_M_text_92, r_M_text_93, r_M_text_94, r_M_text_95, r_M_text_98, r_M_text_99, r_M_text_100, r_M_text_103, r_M_text_104, r_M_text_107, r_M_text_108, r_M_text_109, ly_g31_3, ly_g31_6, ly_g31_1, ly_n32, ly_r32, ly_w32, ly_g31_5, ly_n34, ly_r34, ly_w34, ly_g31_2, ly_n33, ly_r33, ly_w33, ly_p31_6, ly_k31, ly_g31_35, ly_g31_36, ly_p31_3, i3n_0, i3n_1, i3n_4, i3n_6, i3n_100, i3n_160, l6n_0, l6n_1, am_kf_s, am_km_s, am_kn_s, am_k_v, am_k_0, am_isr_r, am_isr_n, am_isr_v, am_sw_0, am_sw_i, am_sw_l, am_sw_r, am_sw_n, am_sw_v, am_ct_i, am_ct_r, am_ct_n, am_c1_o, am_c1_n, am_c1_i, am_c1_r, am_c1_v, am_mk_1, lc_lt, lc_gt, lc_eq, lc_le, lc_ge, i01_eq, i01_ok, ite_not, true_or, or_true, true_and, and_true, false_or, or_false, false_and, and_false, if_true, if_false, not_true_eq_false, not_false_eq_true, eq_self, Nat.reduceAdd, Nat.reduceLeDiff, Nat.reduceLT, Nat.reduceEqDiff, Nat.reduceMul, Nat.reduceSub, Nat.reduceDiv, Nat.reduceMod, reduceCtorEq, Nat.zero_le, i3_le, i3_lt, i3_eq, i3_eqN, i3_leN, i3_Nle, i3_ltN, i3_NleN, i3_NeqN, i3_Neq, i3_NltN, i3_Nlt, l6_le, l6_lt, l6_eq, l6_leN, l6_Nle, l6_ltN, l6_Nlt, l6_eqN, l6_Neq, s2]
  · generalize hn : N 31 3 = n at *
    obtain ⟨t1, t2, t3⟩ := h.1.2.2.2.2.2.1
    have htp := h.2.2.2.2.2.1
    have hS := h.2.2.2.2.2.2.2.2.2.1
    have h58 := h.2.2.2.2.2.2.2.2.2.2.1
    have hB : tp_B (N 34) (N 31 6) C := ⟨t1, t3, fun j hj => (htp j hj).2.2, fun j hj => (htp j hj).1⟩
    obtain ⟨Z1, C1, L1, R1, D1, v, e1, hF, hZ1, hD1, c71, hres⟩ := x_Ta_read (G := G) (d := 53) (L := L) (R := R) (t := n) (by omega) hS hz (tp_D_58 h58) hB
    have cc : ∀ a j, ¬ (a = 7 ∨ a = 9 ∨ a = n + 7000 ∨ a = n + 8000 ∨ a = n + 9000 ∨ a = n + 10000) → C1 a j = C a j := fun a j q => by rw [(hF.1 a q).1]
    have b1 : n < 2147483648 := by omega
    have b2 : n < 6 := by omega
    have b3 : ¬ n = 6 := h6
    have m6 := (cc 31 6 (by omega)).trans t2
    have m3 := (cc 31 3 (by omega)).trans s2
    -- the reference's side, over any C3 that agrees with C1 there
    have ref : ∀ (C3 : Nat → Nat → Int32) (R3 : Nat → Nat → Option Nat), (∀ a j, 31 ≤ a → a < 58 → C3 a j = C1 a j) → ∃ C4 L4, ((match pa_text (N 34) (N 31 6) with
        | .inl _ => am_ex G 100 K_M_text [.ref (x + 31)] (am_mk x true Z1 C3 L1 R3 D1) = some (some (.int (Int32.ofNat n)), am_mk x true Z1 (ux C4 31 3 (Int32.ofNat (n + 1))) L4 R3 D1)
        | .inr e => am_ex G 100 K_M_text [.ref (x + 31)] (am_mk x true Z1 C3 L1 R3 D1) = some (some (.int (-Int32.ofNat 100 - Int32.ofNat e)), am_mk x true Z1 C4 L4 R3 D1)) ∧ (∀ j, j < N 31 6 → C4 32 (160 * n + j) = Int32.ofNat (N 34 j)) ∧ C4 33 n = Int32.ofNat (N 31 6) ∧ C4 31 6 = Int32.ofNat 0 ∧ ∀ a j, ¬ (a = 32 ∧ 160 * n ≤ j ∨ a = 33 ∧ j = n ∨ a = 31 ∧ (j = 6 ∨ 28 ≤ j ∧ j ≤ 37)) → C4 a j = C3 a j) := by
      intro C3 R3 h3
      have k6 := (h3 31 6 (by omega) (by omega)).trans m6
      have k3 := (h3 31 3 (by omega) (by omega)).trans m3
      obtain ⟨Ca, r1, r2, r3⟩ := l_M_text (G := G) (x := x) (d := 99) (Z := Z1) (L := L1) (R := R3) (D := D1) b2 t3 (N 31 6) 0 C3 rfl (Nat.zero_le _) k6 k3 (fun j hj => by omega)
      have r34 : ∀ j, j < N 31 6 → Ca 32 (160 * n + j) = Int32.ofNat (N 34 j) := fun j hj => by rw [r2 j hj, h3 34 j (by omega) (by omega), cc 34 j (by omega)]; exact (htp j hj).2.1
      generalize hCb : ux (ux Ca 33 n (Int32.ofNat (N 31 6))) 31 6 (Int32.ofNat 0) = Cb
      have cb : ∀ a j, ¬ (a = 33 ∧ j = n ∨ a = 31 ∧ j = 6) → Cb a j = Ca a j := fun a j q => by rw [← hCb, ux_ne (by omega), ux_ne (by omega)]
      have hT : mr_T (N 34) (N 31 6) n Cb := ⟨b2, by rw [← hCb, ux_ne (by omega), ux_at], t3, fun j hj => (htp j hj).2.2, fun j hj => by rw [cb 32 _ (by omega)]; exact r34 j hj⟩
      have hE : mr_E (mr_ev Cb 0) 0 Cb := mr_ev_E
      have hR := x_M_read (G := G) (d := 57) (x := x) (Z := Z1) (L := L1) (R := R3) (D := D1) (w := Int32.ofNat 0) hT (by decide) hE
      have q6 := (r3 31 6 (by omega)).trans k6
      have q3 := (r3 31 3 (by omega)).trans k3
      have q3b := (cb 31 3 (by omega)).trans q3
      have fin : ∀ C4 : Nat → Nat → Int32, mr_f3 Cb C4 → (∀ j, j < N 31 6 → C4 32 (160 * n + j) = Int32.ofNat (N 34 j)) ∧ C4 33 n = Int32.ofNat (N 31 6) ∧ C4 31 6 = Int32.ofNat 0 ∧ ∀ a j, ¬ (a = 32 ∧ 160 * n ≤ j ∨ a = 33 ∧ j = n ∨ a = 31 ∧ (j = 6 ∨ 28 ≤ j ∧ j ≤ 37)) → C4 a j = C3 a j := by
        intro C4 hf
        refine ⟨fun j hj => by rw [hf 32 _ (by omega), cb 32 _ (by omega)]; exact r34 j hj, by rw [hf 33 n (by omega)]; exact hT.2.1, by rw [hf 31 6 (by omega), ← hCb, ux_at], fun a j q => by rw [hf a j (by omega), cb a j (by omega), r3 a j (by omega)]⟩
      cases hp : pa_text (N 34) (N 31 6) with
      | inl q =>
        rw [hp] at hR
        obtain ⟨C4, L4, v1, v2, -, -, e4, b4, f4, -⟩ := hR
        have q3c := (f4 31 3 (by omega)).trans q3b
        refine ⟨C4, L4, ?_, fin C4 f4⟩
        simp only [e_M_text, r_M_text_0, r_M_text_1, r_M_text_4, r_M_text_6, r_M_text_9, r_M_text_11, r_M_text_12, r_M_text_13, r_M_text_13_k, r_M_text_15, r_M_text_16, r_M_text_19, r_M_text_22, r_M_text_23, r_M_text_26, r_M_text_29, r_M_text_30, r_M_text_33, r_M_text_34, r_M_text_35, r_M_text_36, r_M_text_37, r_M_text_40, r_M_text_41, r_M_text_42, r_M_text_43, r_M_text_43_k, r_M_text_46, r_M_text_49, r_M_text_50, r_M_text_53, r_M_text_54, r_M_text_57, r_M_text_58, r_M_text_61, r_M_text_62, r_M_text_63, r_M_text_64, r_M_text_67, r_M_text_68, r_M_text_69, r_M_text_72, r_M_text_73, r_M_text_74, r_M_text_77, r_M_text_77_k, r_M_text_78, r_M_text_79, r_M_text_82, r_M_text_85, r_M_text_87, r_M_text_88, r_M_text_91, r_M_text_92, r_M_text_93, r_M_text_94, r_M_text_95, r_M_text_98, r_M_text_99, r_M_text_100, r_M_text_103, r_M_text_104, r_M_text_107, r_M_text_108, r_M_text_109, ly_g31_3, ly_g31_6, ly_g31_1, ly_n32, ly_r32, ly_w32, ly_g31_5, ly_n34, ly_r34, ly_w34, ly_g31_2, ly_n33, ly_r33, ly_w33, ly_p31_6, ly_k31, ly_g31_35, ly_g31_36, ly_p31_3, i3n_0, i3n_1, i3n_4, i3n_6, i3n_100, i3n_160, l6n_0, l6n_1, am_kf_s, am_km_s, am_kn_s, am_k_v, am_k_0, am_isr_r, am_isr_n, am_isr_v, am_sw_0, am_sw_i, am_sw_l, am_sw_r, am_sw_n, am_sw_v, am_ct_i, am_ct_r, am_ct_n, am_c1_o, am_c1_n, am_c1_i, am_c1_r, am_c1_v, am_mk_1, lc_lt, lc_gt, lc_eq, lc_le, lc_ge, i01_eq, i01_ok, ite_not, true_or, or_true, true_and, and_true, false_or, or_false, false_and, and_false, if_true, if_false, not_true_eq_false, not_false_eq_true, eq_self, Nat.reduceAdd, Nat.reduceLeDiff, Nat.reduceLT, Nat.reduceEqDiff, Nat.reduceMul, Nat.reduceSub, Nat.reduceDiv, Nat.reduceMod, reduceCtorEq, Nat.zero_le, i3_le, i3_lt, i3_eq, i3_eqN, i3_leN, i3_Nle, i3_ltN, i3_NleN, i3_NeqN, i3_Neq, i3_NltN, i3_Nlt, l6_le, l6_lt, l6_eq, l6_leN, l6_Nle, l6_ltN, l6_Nlt, l6_eqN, l6_Neq, k3, b1, b2, b3, r1, q6, q3, ux_eq, hCb, q3b, e4, b4, q3c, i3_add, i3_pred]
      | inr e =>
        rw [hp] at hR
        obtain ⟨C4, L4, v1, e4, b4, t4, f4, -⟩ := hR
        refine ⟨C4, L4, ?_, fin C4 f4⟩
        simp only [e_M_text, r_M_text_0, r_M_text_1, r_M_text_4, r_M_text_6, r_M_text_9, r_M_text_11, r_M_text_12, r_M_text_13, r_M_text_13_k, r_M_text_15, r_M_text_16, r_M_text_19, r_M_text_22, r_M_text_23, r_M_text_26, r_M_text_29, r_M_text_30, r_M_text_33, r_M_text_34, r_M_text_35, r_M_text_36, r_M_text_37, r_M_text_40, r_M_text_41, r_M_text_42, r_M_text_43, r_M_text_43_k, r_M_text_46, r_M_text_49, r_M_text_50, r_M_text_53, r_M_text_54, r_M_text_57, r_M_text_58, r_M_text_61, r_M_text_62, r_M_text_63, r_M_text_64, r_M_text_67, r_M_text_68, r_M_text_69, r_M_text_72, r_M_text_73, r_M_text_74, r_M_text_77, r_M_text_77_k, r_M_text_78, r_M_text_79, r_M_text_82, r_M_text_85, r_M_text_87, r_M_text_88, r_M_text_91, r_M_text_92, r_M_text_93, r_M_text_94, r_M_text_95, r_M_text_98, r_M_text_99, r_M_text_100, r_M_text_103, r_M_text_104, r_M_text_107, r_M_text_108, r_M_text_109, ly_g31_3, ly_g31_6, ly_g31_1, ly_n32, ly_r32, ly_w32, ly_g31_5, ly_n34, ly_r34, ly_w34, ly_g31_2, ly_n33, ly_r33, ly_w33, ly_p31_6, ly_k31, ly_g31_35, ly_g31_36, ly_p31_3, i3n_0, i3n_1, i3n_4, i3n_6, i3n_100, i3n_160, l6n_0, l6n_1, am_kf_s, am_km_s, am_kn_s, am_k_v, am_k_0, am_isr_r, am_isr_n, am_isr_v, am_sw_0, am_sw_i, am_sw_l, am_sw_r, am_sw_n, am_sw_v, am_ct_i, am_ct_r, am_ct_n, am_c1_o, am_c1_n, am_c1_i, am_c1_r, am_c1_v, am_mk_1, lc_lt, lc_gt, lc_eq, lc_le, lc_ge, i01_eq, i01_ok, ite_not, true_or, or_true, true_and, and_true, false_or, or_false, false_and, and_false, if_true, if_false, not_true_eq_false, not_false_eq_true, eq_self, Nat.reduceAdd, Nat.reduceLeDiff, Nat.reduceLT, Nat.reduceEqDiff, Nat.reduceMul, Nat.reduceSub, Nat.reduceDiv, Nat.reduceMod, reduceCtorEq, Nat.zero_le, i3_le, i3_lt, i3_eq, i3_eqN, i3_leN, i3_Nle, i3_ltN, i3_NleN, i3_NeqN, i3_Neq, i3_NltN, i3_Nlt, l6_le, l6_lt, l6_eq, l6_leN, l6_Nle, l6_ltN, l6_Nlt, l6_eqN, l6_Neq, k3, b1, b2, b3, r1, q6, q3, ux_eq, hCb, q3b, e4, b4, t4]
    cases hp : pa_text (N 34) (N 31 6) with
    | inr e =>
      rw [hp] at hres ref
      obtain ⟨rfl, c76⟩ := hres
      obtain ⟨C4, L4, e4, f1, f2, f3, f4⟩ := ref C1 R1 (fun _ _ _ _ => rfl)
      refine ⟨.int (-Int32.ofNat 100 - Int32.ofNat e), ux N 31 6 0, Z1, C1, L1, R1, D1, Z1, C4, L4, R1, D1, ?_, e4, ?_, by omega, hZ1.2.1, hF.2.2.2⟩
      · simp only [e_H_text, r_H_text_0, r_H_text_1, r_H_text_4, r_H_text_5, r_H_text_8, r_H_text_9, r_H_text_12, r_H_text_14, r_H_text_15, r_H_text_16, r_H_text_19, r_H_text_22, r_H_text_22_k, r_H_text_23, r_H_text_24, r_H_text_27, r_H_text_29, r_H_text_30, r_H_text_33, r_H_text_36, r_H_text_37, r_H_text_38, r_H_text_39, r_H_text_42, r_H_text_43, r_H_text_46, r_H_text_47, r_H_text_48, r_H_text_49, r_H_text_50, r_H_text_53, r_H_text_54, r_H_text_55, r_H_text_56, r_H_text_59, ly_g0_8, ly_g0_3, ly_n4, ly_r4, ly_w4, ly_g0_11, ly_k7, ly_g7_6, ly_p0_8, i3n_0, i3n_1, i3n_4, i3n_100, l6n_0, l6n_1, am_kf_s, am_km_s, am_kn_s, am_k_v, am_k_0, am_isr_r, am_isr_n, am_isr_v, am_sw_0, am_sw_i, am_sw_l, am_sw_r, am_sw_n, am_sw_v, am_ct_i, am_ct_r, am_ct_n, am_c1_o, am_c1_n, am_c1_i, am_c1_r, am_c1_v, am_mk_1, lc_lt, lc_gt, lc_eq, lc_le, lc_ge, i01_eq, i01_ok, ite_not, true_or, or_true, true_and, and_true, false_or, or_false, false_and, and_false, if_true, if_false, not_true_eq_false, not_false_eq_true, eq_self, Nat.reduceAdd, Nat.reduceLeDiff, Nat.reduceLT, Nat.reduceEqDiff, Nat.reduceMul, Nat.reduceSub, Nat.reduceDiv, Nat.reduceMod, reduceCtorEq, Nat.zero_le, i3_le, i3_lt, i3_eq, i3_eqN, i3_leN, i3_Nle, i3_ltN, i3_NleN, i3_NeqN, i3_Neq, i3_NltN, i3_Nlt, l6_le, l6_lt, l6_eq, l6_leN, l6_Nle, l6_ltN, l6_Nlt, l6_eqN, l6_Neq, s1, b1, b2, e1, c76]
      · refine rl_text0 hn h hF hZ1 (fun a j q => by rw [f4 a j (by omega), cc a j (by omega)]) (by rw [f4 7 1 (by omega)]; exact c71) f3 (fun a j q => ux_ne (by omega)) ux_at
    | inl q =>
      obtain ⟨cl, ce⟩ := q
      rw [hp] at hres ref
      obtain ⟨q, rfl, htx⟩ := hres
      have hq7 : ly_is x true Z1 q (n + 7000) 7 := by
        obtain ⟨a1, a2, a3, h1, -⟩ := htx
        exact h1
      have k7 := ly_dk7 (C := C1) (L := L1) (R := R1) (D := D1) hq7
      have p4 := ly_w4 (x := x) (b := true) (Z := Z1) (C := C1) (L := L1) (R := R1) (D := D1) (v := q) b2 k7
      have c08 := (cc 0 8 (by omega)).trans s1
      have r1 : am_ex G 100 K_H_text [.ref x] (am_mk x true Z C L R D) = some (some (.int (Int32.ofNat n)), am_mk x true Z1 (ux C1 0 8 (Int32.ofNat (n + 1))) L1 (ux R1 4 n (some q)) D1) := by
        simp only [e_H_text, r_H_text_0, r_H_text_1, r_H_text_4, r_H_text_5, r_H_text_8, r_H_text_9, r_H_text_12, r_H_text_14, r_H_text_15, r_H_text_16, r_H_text_19, r_H_text_22, r_H_text_22_k, r_H_text_23, r_H_text_24, r_H_text_27, r_H_text_29, r_H_text_30, r_H_text_33, r_H_text_36, r_H_text_37, r_H_text_38, r_H_text_39, r_H_text_42, r_H_text_43, r_H_text_46, r_H_text_47, r_H_text_48, r_H_text_49, r_H_text_50, r_H_text_53, r_H_text_54, r_H_text_55, r_H_text_56, r_H_text_59, ly_g0_8, ly_g0_3, ly_n4, ly_r4, ly_w4, ly_g0_11, ly_k7, ly_g7_6, ly_p0_8, i3n_0, i3n_1, i3n_4, i3n_100, l6n_0, l6n_1, am_kf_s, am_km_s, am_kn_s, am_k_v, am_k_0, am_isr_r, am_isr_n, am_isr_v, am_sw_0, am_sw_i, am_sw_l, am_sw_r, am_sw_n, am_sw_v, am_ct_i, am_ct_r, am_ct_n, am_c1_o, am_c1_n, am_c1_i, am_c1_r, am_c1_v, am_mk_1, lc_lt, lc_gt, lc_eq, lc_le, lc_ge, i01_eq, i01_ok, ite_not, true_or, or_true, true_and, and_true, false_or, or_false, false_and, and_false, if_true, if_false, not_true_eq_false, not_false_eq_true, eq_self, Nat.reduceAdd, Nat.reduceLeDiff, Nat.reduceLT, Nat.reduceEqDiff, Nat.reduceMul, Nat.reduceSub, Nat.reduceDiv, Nat.reduceMod, reduceCtorEq, Nat.zero_le, i3_le, i3_lt, i3_eq, i3_eqN, i3_leN, i3_Nle, i3_ltN, i3_NleN, i3_NeqN, i3_Neq, i3_NltN, i3_Nlt, l6_le, l6_lt, l6_eq, l6_leN, l6_Nle, l6_ltN, l6_Nlt, l6_eqN, l6_Neq, s1, b1, b2, e1, p4, c08, i3_add]
      obtain ⟨C4, L4, e4, f1, f2, f3, f4⟩ := ref (ux C1 0 8 (Int32.ofNat (n + 1))) (ux R1 4 n (some q)) (fun a j _ _ => ux_ne (by omega))
      generalize hN : (fun a j => if a = 32 ∧ 160 * n ≤ j then N 34 (j - 160 * n) else if a = 33 ∧ j = n then N 31 6 else if a = 31 ∧ j = 6 then 0 else N a j : Nat → Nat → Nat) = Na
      have na : ∀ a j, ¬ (a = 32 ∧ 160 * n ≤ j ∨ a = 33 ∧ j = n ∨ a = 31 ∧ j = 6) → Na a j = N a j := fun a j q => by rw [← hN]; simp only; rw [if_neg (by omega), if_neg (by omega), if_neg (by omega)]
      have na32 : ∀ j, Na 32 (160 * n + j) = N 34 j := fun j => by rw [← hN]; simp only; rw [if_pos ⟨trivial, by omega⟩, Nat.add_sub_cancel_left]
      have na33 : Na 33 n = N 31 6 := by rw [← hN]; simp only; rw [if_neg (by omega), if_pos ⟨trivial, trivial⟩]
      have na6 : Na 31 6 = 0 := by rw [← hN]; simp only; rw [if_neg (by omega), if_neg (by omega), if_pos ⟨trivial, trivial⟩]
      have na3 : Na 31 3 = n := (na 31 3 (by omega)).trans hn
      -- first as if nothing was kept
      generalize hC5 : (fun a j => if a = 0 ∧ j = 8 then Int32.ofNat n else C4 a j : Nat → Nat → Int32) = C5
      have c5 : ∀ a j, ¬ (a = 0 ∧ j = 8) → C5 a j = C4 a j := fun a j q => by rw [← hC5]; simp only; rw [if_neg q]
      have c58 : C5 0 8 = Int32.ofNat n := by rw [← hC5]; simp only; rw [if_pos ⟨trivial, trivial⟩]
      have base := rl_text0 (N' := Na) (C2 := C5) hn h hF hZ1 (fun a j q => by
        by_cases h08 : a = 0 ∧ j = 8
        · rw [h08.1, h08.2, c58, s1]
        · rw [c5 a j h08, f4 a j (by omega), ux_ne h08, cc a j (by omega)]) (by rw [c5 7 1 (by omega), f4 7 1 (by omega), ux_ne (by omega)]; exact c71) (by rw [c5 31 6 (by omega)]; exact f3) na na6
      refine ⟨.int (Int32.ofNat n), ux Na 31 3 (n + 1), Z1, _, L1, _, D1, Z1, ux C4 31 3 (Int32.ofNat (n + 1)), L4, ux R1 4 n (some q), D1, r1, e4, ?_, by omega, hZ1.2.1, hF.2.2.2⟩
      have c2 : ∀ a j, ¬ (a = 0 ∧ j = 8 ∨ a = 31 ∧ j = 3) → ux C4 31 3 (Int32.ofNat (n + 1)) a j = C5 a j := fun a j q => by rw [ux_ne (by omega), c5 a j (by omega)]
      have w08 : ux C4 31 3 (Int32.ofNat (n + 1)) 0 8 = Int32.ofNat (n + 1) := by rw [ux_ne (by omega), f4 0 8 (by omega), ux_at]
      have w33 : ux C4 31 3 (Int32.ofNat (n + 1)) 31 3 = Int32.ofNat (n + 1) := ux_at
      have nn : ∀ a j, ¬ (a = 31 ∧ j = 3) → ux Na 31 3 (n + 1) a j = Na a j := fun a j q => ux_ne q
      have n3 : ux Na 31 3 (n + 1) 31 3 = n + 1 := ux_at
      have rr : ∀ a j, ¬ (a = 4 ∧ j = n) → ux R1 4 n (some q) a j = R1 a j := fun a j q => ux_ne q
      have hq2 : Z1.2 (n + 7000) = q := hq7.2.1
      have mT : mr_T (rl_b Na n) (Na 33 n) n (ux C4 31 3 (Int32.ofNat (n + 1))) := by
        rw [na33]
        refine ⟨b2, by rw [ux_ne (by omega)]; exact f2, t3, fun j hj => by show Na 32 (160 * n + j) < 256; rw [na32]; exact (htp j hj).2.2, fun j hj => ?_⟩
        show _ = Int32.ofNat (Na 32 (160 * n + j))
        rw [na32, ux_ne (by omega)]; exact f1 j hj
      have mP : pa_text (rl_b Na n) (Na 33 n) = .inl (cl, ce) := by
        rw [na33, ← hp]
        exact pa_text_eq (fun j hj => na32 j)
      generalize ux C4 31 3 (Int32.ofNat (n + 1)) = C6 at *
      have tx6 : tx_ok x true Z1 C6 (ux R1 4 n (some q)) q n cl ce := tx_ok_keep htx (fun _ _ _ _ q => q) (fun j => ⟨by rw [c2 _ _ (by omega), c5 _ _ (by omega), f4 _ _ (by omega), ux_ne (by omega)], by rw [c2 _ _ (by omega), c5 _ _ (by omega), f4 _ _ (by omega), ux_ne (by omega)]⟩) (fun u j hu => ux_ne (by omega))
      clear h htp hB e4 ref r1 htx
      obtain ⟨hs, hst, hha, hni, hte, htp, him, hsh, hZ, hS, h58, hu⟩ := base
      have hr5 := hs.2.2.2.2.1.2.2
      refine ⟨by
          obtain ⟨q1, q2, q3, q4, q5, q6, q7, q8, q9, q10⟩ := hs
          exact ⟨by rw [c2 0 5 (by omega), c2 31 13 (by omega), nn 31 13 (by omega)]; exact q1, by rw [c2 0 6 (by omega), c2 31 17 (by omega), nn 31 17 (by omega)]; exact q2, by rw [c2 0 7 (by omega), c2 31 27 (by omega), nn 31 27 (by omega)]; exact q3, ⟨by rw [n3]; exact w08, by rw [n3]; exact w33, by rw [n3]; omega⟩, by rw [c2 0 10 (by omega), c2 31 4 (by omega), nn 31 4 (by omega), n3]; exact ⟨q5.1, q5.2.1, by omega⟩, by rw [c2 7 1 (by omega), c2 31 6 (by omega), nn 31 6 (by omega)]; exact q6, by rw [c2 6 0 (by omega), c2 31 7 (by omega), nn 31 7 (by omega)]; exact q7, by rw [c2 6 1 (by omega), c2 31 8 (by omega), nn 31 8 (by omega)]; exact q8, by rw [c2 6 2 (by omega), c2 31 9 (by omega), nn 31 9 (by omega)]; exact q9, by rw [c2 6 3 (by omega), c2 31 10 (by omega), nn 31 10 (by omega)]; exact q10⟩, rl_st_fr hst hs.1.2.2 (nn _ _ (by omega)) (fun j => ⟨nn _ _ (by omega), nn _ _ (by omega)⟩) (fun j => ⟨c2 _ _ (by omega), c2 _ _ (by omega)⟩) (fun k j q1 q2 => c2 _ _ (by omega)) (fun j => rr _ _ (by omega)) rl_zt_rf, rl_ha_fr hha hs.2.1.2.2 (nn _ _ (by omega)) (Nat.le_of_eq (nn 31 13 (by omega)).symm) (fun k j q1 q2 => nn _ _ (by omega)) (fun k j q1 q2 => c2 _ _ (by omega)) (fun k j q1 q2 q3 => c2 _ _ (by omega)) (fun j => rr _ _ (by omega)) (fun k j q1 q2 => rr _ _ (by omega)) rl_zt_rf, rl_ni_fr hni hs.2.2.1.2.2 hs.2.1.2.2 (nn _ _ (by omega)) (Nat.le_of_eq (nn 31 17 (by omega)).symm) (fun k j q1 q2 => nn _ _ (by omega)) (fun k j q1 q2 => c2 _ _ (by omega)) (fun k j q1 q2 => c2 _ _ (by omega)) (fun j => rr _ _ (by omega)) (fun k j q1 q2 => rr _ _ (by omega)) rl_zt_rf (fun _ _ => rfl), ?_, rl_tp_fr htp (nn _ _ (by omega)) (fun j => nn _ _ (by omega)) (fun j => ⟨c2 _ _ (by omega), c2 _ _ (by omega)⟩), rl_im_fr him hs.2.1.2.2 (fun j q1 q2 => nn _ _ (by omega)) (fun j => nn _ _ (by omega)) (fun i q => (Nat.le_of_eq (nn 40 i (by omega)).symm)) (fun i k q1 q2 => nn _ _ (by omega)) (Nat.le_of_eq (nn 31 27 (by omega)).symm) (Nat.le_of_eq (nn 31 17 (by omega)).symm) (by omega) (Nat.le_of_eq (nn 31 13 (by omega)).symm) (fun j q1 q2 => c2 _ _ (by omega)) (fun j q1 q2 => c2 _ _ (by omega)) (fun j => ⟨c2 _ _ (by omega), c2 _ _ (by omega)⟩) (fun i q => by have := hs.2.1.2.2; exact c2 _ _ (by omega)) (fun i j q => by have := hs.2.1.2.2; exact c2 _ _ (by omega)), rl_sh_fr hsh (fun k j q1 q2 => c2 _ _ (by omega)) (fun k j q1 q2 => c2 _ _ (by omega)) (fun j => rr _ _ (by omega)), hZ, hS, h58, hu⟩
      intro t ht
      rw [n3] at ht
      by_cases htn : t = n
      · subst htn
        rw [hq2]
        have e1 : rl_b (ux Na 31 3 (t + 1)) t = rl_b Na t := funext (fun j => ux_ne (by omega))
        have e2 : ux Na 31 3 (t + 1) 33 t = Na 33 t := ux_ne (by omega)
        rw [e1, e2]
        exact ⟨ux_at, mT, cl, ce, mP, tx6⟩
      · refine rl_te1_fr (by omega) (hte t (by rw [na3]; omega)) (fun j hj => nn _ _ (by omega)) (nn _ _ (by omega)) (fun j hj => c2 _ _ (by omega)) (c2 _ _ (by omega)) (fun j => ⟨c2 _ _ (by omega), c2 _ _ (by omega)⟩) (rr _ _ (by omega)) (fun u j hu => rr _ _ (by omega)) (fun u hu => ⟨rfl, fun q k q2 => q2⟩)
end
