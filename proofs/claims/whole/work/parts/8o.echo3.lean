/-! echo, hears: the seat met most -/
/-- the first of the seats met most, from seat s on -/
def bs (f : Nat → Int32) : Nat → Nat → Nat → Nat
  | 0, _, b => b
  | r + 1, s, b => bs f r (s + 1) (if f s ≤ f b then b else s)
theorem bs_eq {f g : Nat → Int32} {m : Nat} (h : ∀ k, k < m → f k = g k) : ∀ (r s b : Nat), s + r ≤ m → b < m → bs f r s b = bs g r s b := by
  intro r
  induction r with
  | zero => intro s b _ _; rfl
  | succ r ih =>
    intro s b h1 h2
    rw [bs, bs, h s (by omega), h b h2]
    exact ih _ _ (by omega) (by split <;> omega)
section
variable {G : Nat → Value} {x : Nat}
theorem x_Ha_seats {N : Nat → Nat → Nat} {Z : ly_Z} {C : Nat → Nat → Int32} {L : Nat → Nat → Int64} {R : Nat → Nat → Option Nat} {D : am_M} (h : rl G N x Z C R D) {d i : Nat} (hi : i < N 31 17) : am_ex G (d + 1) K_Ha_seats [.ref (Z.2 (i + 2000))] (am_mk x true Z C L R D) = some (some (.int (Int32.ofNat (N 38 i * N 39 i))), am_mk x true Z C L R D) := by
  obtain ⟨-, h2, -, -, -, -, -, -, -, hW, hD, -, -⟩ := h.2.2.1 i hi
  have g1 := ly_dg2_1 (C := C) (L := L) (R := R) (D := D) h2
  have g2 := ly_dg2_2 (C := C) (L := L) (R := R) (D := D) h2
  rw [hW.1] at g1
  rw [hD.1] at g2
  simp only [e_Ha_seats, r_Ha_seats_0, r_Ha_seats_1, r_Ha_seats_4, r_Ha_seats_5, r_Ha_seats_8, r_Ha_seats_9, i3n_0, i3n_1, l6n_0, l6n_1, am_kf_s, am_km_s, am_kn_s, am_k_v, am_k_0, am_isr_r, am_isr_n, am_isr_v, am_sw_0, am_sw_i, am_sw_l, am_sw_r, am_sw_n, am_sw_v, am_ct_i, am_ct_r, am_ct_n, am_c1_o, am_c1_n, am_c1_i, am_c1_r, am_c1_v, am_mk_1, lc_lt, lc_gt, lc_eq, lc_le, lc_ge, i01_eq, i01_ok, ite_not, true_or, or_true, true_and, and_true, false_or, or_false, false_and, and_false, if_true, if_false, not_true_eq_false, not_false_eq_true, eq_self, Nat.reduceAdd, Nat.reduceLeDiff, Nat.reduceLT, Nat.reduceEqDiff, Nat.reduceMul, Nat.reduceSub, Nat.reduceDiv, Nat.reduceMod, reduceCtorEq, Nat.zero_le, i3_le, i3_lt, i3_eq, i3_eqN, i3_leN, i3_Nle, i3_ltN, i3_NleN, i3_NeqN, i3_Neq, i3_NltN, i3_Nlt, l6_le, l6_lt, l6_eq, l6_leN, l6_Nle, l6_ltN, l6_Nlt, l6_eqN, l6_Neq, g1, g2, i3_mul, ↓reduceIte]
theorem l_H_echo {N : Nat → Nat → Nat} {Z : ly_Z} {C : Nat → Nat → Int32} {L : Nat → Nat → Int64} {R : Nat → Nat → Option Nat} {D : am_M} (h : rl G N x Z C R D) {d i : Nat} {l1 l2 l3 l4 : Option Value} (hi : i < N 31 17) (c1 : am_c1 l1 = true) (c2 : am_c1 l2 = true) (c3 : am_c1 l3 = true) (c4 : am_c1 l4 = true) : ∀ (r s b : Nat), N 38 i * N 39 i - s = r → s ≤ N 38 i * N 39 i → b < N 38 i * N 39 i → am_run G (d + 1) K_H_echo (70, [some (.ref x), l1, l2, l3, l4, some (.ref (Z.2 (i + 2000))), some (.int (Int32.ofNat b)), some (.int (Int32.ofNat s))], [], am_mk x true Z C L R D) = some (some (.int (Int32.ofNat (bs (C 17) r s b))), am_mk x true Z C L R D) := by
  obtain ⟨-, h2, -, -, -, -, -, -, -, hW, hD, -, -⟩ := h.2.2.1 i hi
  have k2 := ly_dk2 (C := C) (L := L) (R := R) (D := D) h2
  have es := x_Ha_seats (L := L) (d := d) h hi
  have s400 : N 38 i * N 39 i ≤ 400 := Nat.mul_le_mul hW.2.2.2 hD.2.2.2
  generalize N 38 i * N 39 i = m at *
  intro r
  induction r with
  | zero =>
    intro s b hk hs hb
    have : s = m := by omega
    subst this
    have b1 : s < 2147483648 := by omega
    rw [bs, r_H_echo_70]
    simp only [r_H_echo_72, r_H_echo_74, r_H_echo_77, r_H_echo_80, r_H_echo_82, r_H_echo_83, r_H_echo_86, r_H_echo_87, r_H_echo_90, r_H_echo_91, r_H_echo_94, r_H_echo_96, r_H_echo_97, r_H_echo_98, r_H_echo_101, r_H_echo_103, r_H_echo_104, r_H_echo_107, r_H_echo_109, r_H_echo_109_k, r_H_echo_111, r_H_echo_111_k, r_H_echo_114, r_H_echo_117, r_H_echo_119, ly_k0, ly_g0_13, ly_n17, ly_r17, ly_w17, i3n_0, i3n_1, i3n_2, i3n_3, i3n_400, l6n_0, l6n_1, am_kf_s, am_km_s, am_kn_s, am_k_v, am_k_0, am_isr_r, am_isr_n, am_isr_v, am_sw_0, am_sw_i, am_sw_l, am_sw_r, am_sw_n, am_sw_v, am_ct_i, am_ct_r, am_ct_n, am_c1_o, am_c1_n, am_c1_i, am_c1_r, am_c1_v, am_mk_1, lc_lt, lc_gt, lc_eq, lc_le, lc_ge, i01_eq, i01_ok, ite_not, true_or, or_true, true_and, and_true, false_or, or_false, false_and, and_false, if_true, if_false, not_true_eq_false, not_false_eq_true, eq_self, Nat.reduceAdd, Nat.reduceLeDiff, Nat.reduceLT, Nat.reduceEqDiff, Nat.reduceMul, Nat.reduceSub, Nat.reduceDiv, Nat.reduceMod, reduceCtorEq, Nat.zero_le, i3_le, i3_lt, i3_eq, i3_eqN, i3_leN, i3_Nle, i3_ltN, i3_NleN, i3_NeqN, i3_Neq, i3_NltN, i3_Nlt, l6_le, l6_lt, l6_eq, l6_leN, l6_Nle, l6_ltN, l6_Nlt, l6_eqN, l6_Neq, k2, es, b1, c1, c2, c3, c4, Nat.le_refl, ↓reduceIte]
  | succ r ih =>
    intro s b hk hs hb
    have b1 : s < 2147483648 := by omega
    have b2 : m < 2147483648 := by omega
    have b3 : ¬ m ≤ s := by omega
    have b4 : ¬ 400 ≤ s := by omega
    have b5 : s < 400 := by omega
    have b6 : b < 400 := by omega
    rw [bs]
    by_cases hc : C 17 s ≤ C 17 b
    · have e := ih (s + 1) b (by omega) (by omega) hb
      rw [if_pos hc, ← e, r_H_echo_70]
      simp only [r_H_echo_72, r_H_echo_74, r_H_echo_77, r_H_echo_80, r_H_echo_82, r_H_echo_83, r_H_echo_86, r_H_echo_87, r_H_echo_90, r_H_echo_91, r_H_echo_94, r_H_echo_96, r_H_echo_97, r_H_echo_98, r_H_echo_101, r_H_echo_103, r_H_echo_104, r_H_echo_107, r_H_echo_109, r_H_echo_109_k, r_H_echo_111, r_H_echo_111_k, r_H_echo_114, r_H_echo_117, r_H_echo_119, ly_k0, ly_g0_13, ly_n17, ly_r17, ly_w17, i3n_0, i3n_1, i3n_2, i3n_3, i3n_400, l6n_0, l6n_1, am_kf_s, am_km_s, am_kn_s, am_k_v, am_k_0, am_isr_r, am_isr_n, am_isr_v, am_sw_0, am_sw_i, am_sw_l, am_sw_r, am_sw_n, am_sw_v, am_ct_i, am_ct_r, am_ct_n, am_c1_o, am_c1_n, am_c1_i, am_c1_r, am_c1_v, am_mk_1, lc_lt, lc_gt, lc_eq, lc_le, lc_ge, i01_eq, i01_ok, ite_not, true_or, or_true, true_and, and_true, false_or, or_false, false_and, and_false, if_true, if_false, not_true_eq_false, not_false_eq_true, eq_self, Nat.reduceAdd, Nat.reduceLeDiff, Nat.reduceLT, Nat.reduceEqDiff, Nat.reduceMul, Nat.reduceSub, Nat.reduceDiv, Nat.reduceMod, reduceCtorEq, Nat.zero_le, i3_le, i3_lt, i3_eq, i3_eqN, i3_leN, i3_Nle, i3_ltN, i3_NleN, i3_NeqN, i3_Neq, i3_NltN, i3_Nlt, l6_le, l6_lt, l6_eq, l6_leN, l6_Nle, l6_ltN, l6_Nlt, l6_eqN, l6_Neq, k2, es, b1, b2, b3, b4, b5, b6, hc, c1, c2, c3, c4, i3_add, ↓reduceIte]
    · have e := ih (s + 1) s (by omega) (by omega) (by omega)
      rw [if_neg hc, ← e, r_H_echo_70]
      simp only [r_H_echo_72, r_H_echo_74, r_H_echo_77, r_H_echo_80, r_H_echo_82, r_H_echo_83, r_H_echo_86, r_H_echo_87, r_H_echo_90, r_H_echo_91, r_H_echo_94, r_H_echo_96, r_H_echo_97, r_H_echo_98, r_H_echo_101, r_H_echo_103, r_H_echo_104, r_H_echo_107, r_H_echo_109, r_H_echo_109_k, r_H_echo_111, r_H_echo_111_k, r_H_echo_114, r_H_echo_117, r_H_echo_119, ly_k0, ly_g0_13, ly_n17, ly_r17, ly_w17, i3n_0, i3n_1, i3n_2, i3n_3, i3n_400, l6n_0, l6n_1, am_kf_s, am_km_s, am_kn_s, am_k_v, am_k_0, am_isr_r, am_isr_n, am_isr_v, am_sw_0, am_sw_i, am_sw_l, am_sw_r, am_sw_n, am_sw_v, am_ct_i, am_ct_r, am_ct_n, am_c1_o, am_c1_n, am_c1_i, am_c1_r, am_c1_v, am_mk_1, lc_lt, lc_gt, lc_eq, lc_le, lc_ge, i01_eq, i01_ok, ite_not, true_or, or_true, true_and, and_true, false_or, or_false, false_and, and_false, if_true, if_false, not_true_eq_false, not_false_eq_true, eq_self, Nat.reduceAdd, Nat.reduceLeDiff, Nat.reduceLT, Nat.reduceEqDiff, Nat.reduceMul, Nat.reduceSub, Nat.reduceDiv, Nat.reduceMod, reduceCtorEq, Nat.zero_le, i3_le, i3_lt, i3_eq, i3_eqN, i3_leN, i3_Nle, i3_ltN, i3_NleN, i3_NeqN, i3_Neq, i3_NltN, i3_Nlt, l6_le, l6_lt, l6_eq, l6_leN, l6_Nle, l6_ltN, l6_Nlt, l6_eqN, l6_Neq, k2, es, b1, b2, b3, b4, b5, b6, hc, c1, c2, c3, c4, i3_add, ↓reduceIte]
theorem l_M_echo {w dp d i : Nat} {Z : ly_Z} {C : Nat → Nat → Int32} {L : Nat → Nat → Int64} {R : Nat → Nat → Option Nat} {D : am_M} {l2 l3 l4 : Option Value} (hi : i < 6) (m1 : C 38 i = Int32.ofNat w) (m2 : C 39 i = Int32.ofNat dp) (s400 : w * dp ≤ 400) (c2 : am_c1 l2 = true) (c3 : am_c1 l3 = true) (c4 : am_c1 l4 = true) : ∀ (r s b : Nat), w * dp - s = r → s ≤ w * dp → b < w * dp → am_run G (d + 1) K_M_echo (30, [some (.ref (x + 31)), some (.int (Int32.ofNat i)), l2, l3, l4, some (.int (Int32.ofNat b)), some (.int (Int32.ofNat s))], [], am_mk x true Z C L R D) = some (some (.int (Int32.ofNat (bs (C 52) r s b))), am_mk x true Z C L R D) := by
  intro r
  induction r with
  | zero =>
    intro s b hk hs hb
    have : s = w * dp := by omega
    subst this
    have b1 : w * dp < 2147483648 := by omega
    rw [bs, r_M_echo_30]
    simp only [r_M_echo_32, r_M_echo_33, r_M_echo_36, r_M_echo_37, r_M_echo_38, r_M_echo_39, r_M_echo_42, r_M_echo_43, r_M_echo_44, r_M_echo_45, r_M_echo_48, r_M_echo_49, r_M_echo_52, r_M_echo_54, r_M_echo_55, r_M_echo_56, r_M_echo_59, r_M_echo_61, r_M_echo_62, r_M_echo_65, r_M_echo_67, r_M_echo_70, r_M_echo_72, r_M_echo_72_k, r_M_echo_74, r_M_echo_74_k, r_M_echo_77, r_M_echo_80, r_M_echo_82, ly_k31, ly_g31_15, ly_n38, ly_r38, ly_w38, ly_g31_16, ly_n39, ly_r39, ly_w39, ly_g31_44, ly_n52, ly_r52, ly_w52, i3n_0, i3n_1, i3n_2, l6n_0, l6n_1, am_kf_s, am_km_s, am_kn_s, am_k_v, am_k_0, am_isr_r, am_isr_n, am_isr_v, am_sw_0, am_sw_i, am_sw_l, am_sw_r, am_sw_n, am_sw_v, am_ct_i, am_ct_r, am_ct_n, am_c1_o, am_c1_n, am_c1_i, am_c1_r, am_c1_v, am_mk_1, lc_lt, lc_gt, lc_eq, lc_le, lc_ge, i01_eq, i01_ok, ite_not, true_or, or_true, true_and, and_true, false_or, or_false, false_and, and_false, if_true, if_false, not_true_eq_false, not_false_eq_true, eq_self, Nat.reduceAdd, Nat.reduceLeDiff, Nat.reduceLT, Nat.reduceEqDiff, Nat.reduceMul, Nat.reduceSub, Nat.reduceDiv, Nat.reduceMod, reduceCtorEq, Nat.zero_le, i3_le, i3_lt, i3_eq, i3_eqN, i3_leN, i3_Nle, i3_ltN, i3_NleN, i3_NeqN, i3_Neq, i3_NltN, i3_Nlt, l6_le, l6_lt, l6_eq, l6_leN, l6_Nle, l6_ltN, l6_Nlt, l6_eqN, l6_Neq, hi, m1, m2, i3_mul, b1, c2, c3, c4, Nat.le_refl, ↓reduceIte]
  | succ r ih =>
    intro s b hk hs hb
    have b1 : s < 2147483648 := by omega
    have b2 : w * dp < 2147483648 := by omega
    have b3 : ¬ w * dp ≤ s := by omega
    have b5 : s < 400 := by omega
    have b6 : b < 400 := by omega
    rw [bs]
    by_cases hc : C 52 s ≤ C 52 b
    · have e := ih (s + 1) b (by omega) (by omega) hb
      rw [if_pos hc, ← e, r_M_echo_30]
      simp only [r_M_echo_32, r_M_echo_33, r_M_echo_36, r_M_echo_37, r_M_echo_38, r_M_echo_39, r_M_echo_42, r_M_echo_43, r_M_echo_44, r_M_echo_45, r_M_echo_48, r_M_echo_49, r_M_echo_52, r_M_echo_54, r_M_echo_55, r_M_echo_56, r_M_echo_59, r_M_echo_61, r_M_echo_62, r_M_echo_65, r_M_echo_67, r_M_echo_70, r_M_echo_72, r_M_echo_72_k, r_M_echo_74, r_M_echo_74_k, r_M_echo_77, r_M_echo_80, r_M_echo_82, ly_k31, ly_g31_15, ly_n38, ly_r38, ly_w38, ly_g31_16, ly_n39, ly_r39, ly_w39, ly_g31_44, ly_n52, ly_r52, ly_w52, i3n_0, i3n_1, i3n_2, l6n_0, l6n_1, am_kf_s, am_km_s, am_kn_s, am_k_v, am_k_0, am_isr_r, am_isr_n, am_isr_v, am_sw_0, am_sw_i, am_sw_l, am_sw_r, am_sw_n, am_sw_v, am_ct_i, am_ct_r, am_ct_n, am_c1_o, am_c1_n, am_c1_i, am_c1_r, am_c1_v, am_mk_1, lc_lt, lc_gt, lc_eq, lc_le, lc_ge, i01_eq, i01_ok, ite_not, true_or, or_true, true_and, and_true, false_or, or_false, false_and, and_false, if_true, if_false, not_true_eq_false, not_false_eq_true, eq_self, Nat.reduceAdd, Nat.reduceLeDiff, Nat.reduceLT, Nat.reduceEqDiff, Nat.reduceMul, Nat.reduceSub, Nat.reduceDiv, Nat.reduceMod, reduceCtorEq, Nat.zero_le, i3_le, i3_lt, i3_eq, i3_eqN, i3_leN, i3_Nle, i3_ltN, i3_NleN, i3_NeqN, i3_Neq, i3_NltN, i3_Nlt, l6_le, l6_lt, l6_eq, l6_leN, l6_Nle, l6_ltN, l6_Nlt, l6_eqN, l6_Neq, hi, m1, m2, i3_mul, b1, b2, b3, b5, b6, hc, c2, c3, c4, i3_add, ↓reduceIte]
    · have e := ih (s + 1) s (by omega) (by omega) (by omega)
      rw [if_neg hc, ← e, r_M_echo_30]
      simp only [r_M_echo_32, r_M_echo_33, r_M_echo_36, r_M_echo_37, r_M_echo_38, r_M_echo_39, r_M_echo_42, r_M_echo_43, r_M_echo_44, r_M_echo_45, r_M_echo_48, r_M_echo_49, r_M_echo_52, r_M_echo_54, r_M_echo_55, r_M_echo_56, r_M_echo_59, r_M_echo_61, r_M_echo_62, r_M_echo_65, r_M_echo_67, r_M_echo_70, r_M_echo_72, r_M_echo_72_k, r_M_echo_74, r_M_echo_74_k, r_M_echo_77, r_M_echo_80, r_M_echo_82, ly_k31, ly_g31_15, ly_n38, ly_r38, ly_w38, ly_g31_16, ly_n39, ly_r39, ly_w39, ly_g31_44, ly_n52, ly_r52, ly_w52, i3n_0, i3n_1, i3n_2, l6n_0, l6n_1, am_kf_s, am_km_s, am_kn_s, am_k_v, am_k_0, am_isr_r, am_isr_n, am_isr_v, am_sw_0, am_sw_i, am_sw_l, am_sw_r, am_sw_n, am_sw_v, am_ct_i, am_ct_r, am_ct_n, am_c1_o, am_c1_n, am_c1_i, am_c1_r, am_c1_v, am_mk_1, lc_lt, lc_gt, lc_eq, lc_le, lc_ge, i01_eq, i01_ok, ite_not, true_or, or_true, true_and, and_true, false_or, or_false, false_and, and_false, if_true, if_false, not_true_eq_false, not_false_eq_true, eq_self, Nat.reduceAdd, Nat.reduceLeDiff, Nat.reduceLT, Nat.reduceEqDiff, Nat.reduceMul, Nat.reduceSub, Nat.reduceDiv, Nat.reduceMod, reduceCtorEq, Nat.zero_le, i3_le, i3_lt, i3_eq, i3_eqN, i3_leN, i3_Nle, i3_ltN, i3_NleN, i3_NeqN, i3_Neq, i3_NltN, i3_Nlt, l6_le, l6_lt, l6_eq, l6_leN, l6_Nle, l6_ltN, l6_Nlt, l6_eqN, l6_Neq, hi, m1, m2, i3_mul, b1, b2, b3, b5, b6, hc, c2, c3, c4, i3_add, ↓reduceIte]
end
