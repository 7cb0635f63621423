/-! image, back -/
theorem cp_any {M : am_M} {a0 a n0 n1 sp dp m : Nat} {f g : Nat → Int32} (h0 : M.2 a0 = some (.inl (0, n0, .inl f))) (h1 : M.2 a = some (.inl (0, n1, .inl g))) (l0 : sp + m ≤ n0) (l1 : dp + m ≤ n1) (b0 : n0 < 1000) (b1 : n1 < 1000) : am_cp M a0 (Int32.ofNat sp) a (Int32.ofNat dp) (Int32.ofNat m) = some (am_set M a (.inl (0, n1, .inl (va_cpy f g sp dp m)))) := by
  unfold am_cp
  rw [h0, h1]
  simp only [i3_clamp (show sp < 2147483648 by omega), i3_clamp (show dp < 2147483648 by omega), i3_clamp (show m < 2147483648 by omega)]
  rw [if_pos ⟨trivial, trivial, ly_nn (by omega), ly_nn (by omega), ly_nn (by omega), l0, l1⟩]
theorem va_cpy_0 {f g : Nat → Int32} {m : Nat} : va_cpy f g 0 0 m = fun k => if k < m then f k else g k := by
  funext k
  simp only [va_cpy, Nat.zero_le, true_and, Nat.zero_add, Nat.sub_zero]
section
variable {G : Nat → Value} {x : Nat}
theorem k_H_hallAt {d i n q : Nat} {Z : ly_Z} {C : Nat → Nat → Int32} {L : Nat → Nat → Int64} {R : Nat → Nat → Option Nat} {D : am_M} (s1 : C 0 6 = Int32.ofNat n) (s2 : n ≤ 6) (hi : i < n) (hr : R 2 i = some q) : am_ex G (d + 1) K_H_hallAt [.ref x, .int (Int32.ofNat i)] (am_mk x true Z C L R D) = some (some (.ref q), am_mk x true Z C L R D) := by
  have b1 : i < 2147483648 := by omega
  have b2 : n < 2147483648 := by omega
  have b3 : ¬ i < 0 := by omega
  have b4 : ¬ n ≤ i := by omega
  have b5 : ¬ 6 ≤ i := by omega
  have b6 : i < 6 := by omega
  simp only [e_H_hallAt, r_H_hallAt_0, r_H_hallAt_1, r_H_hallAt_4, r_H_hallAt_5, r_H_hallAt_6, r_H_hallAt_9, r_H_hallAt_12, r_H_hallAt_13, r_H_hallAt_14, r_H_hallAt_17, r_H_hallAt_18, r_H_hallAt_21, r_H_hallAt_22, r_H_hallAt_25, r_H_hallAt_26, r_H_hallAt_27, r_H_hallAt_30, r_H_hallAt_31, ly_g0_6, ly_g0_1, ly_n2, ly_r2, ly_w2, i3n_0, i3n_1, l6n_0, l6n_1, am_kf_s, am_km_s, am_kn_s, am_k_v, am_k_0, am_isr_r, am_isr_n, am_isr_v, am_sw_0, am_sw_i, am_sw_l, am_sw_r, am_sw_n, am_sw_v, am_ct_i, am_ct_r, am_ct_n, am_c1_o, am_c1_n, am_c1_i, am_c1_r, am_c1_v, am_mk_1, lc_lt, lc_gt, lc_eq, lc_le, lc_ge, i01_eq, i01_ok, ite_not, true_or, or_true, true_and, and_true, false_or, or_false, false_and, and_false, if_true, if_false, not_true_eq_false, not_false_eq_true, eq_self, Nat.reduceAdd, Nat.reduceLeDiff, Nat.reduceLT, Nat.reduceEqDiff, Nat.reduceMul, Nat.reduceSub, Nat.reduceDiv, Nat.reduceMod, reduceCtorEq, Nat.zero_le, i3_le, i3_lt, i3_eq, i3_eqN, i3_leN, i3_Nle, i3_ltN, i3_NleN, i3_NeqN, i3_Neq, i3_NltN, i3_Nlt, l6_le, l6_lt, l6_eq, l6_leN, l6_Nle, l6_ltN, l6_Nlt, l6_eqN, l6_Neq, s1, b1, b2, b3, b4, b5, b6, hr, va_rf_s]
end
