/-! the JDK's own methods, over any memory -/
theorem i3_z8 : (0 : Int32).toInt8.toInt32 = 0 := by decide
theorem i3_shr {a : Int32} : a >>> (0 : Int32) = a := by simp
theorem i3_nl {n : Nat} (h : n < 2147483648) : ¬ Int32.ofNat n < 0 := by
  rw [Int32.not_lt]
  exact ly_nn h
section
variable {G : Nat → Value} {d : Nat} {M : am_M} {a v n : Nat} {f : Nat → Int32}
theorem x_Js_coder (hS : M.2 a = some (.inr (11, [.ref v, .int 0]))) : am_ex G (d + 1) K_Js_coder [.ref a] M = some (some (.int 0), M) := by
  have h1 : am_fld M a 11 1 = some (.int 0) := by rw [am_fld, hS]; rfl
  simp only [e_Js_coder, r_Js_coder_0, r_Js_coder_3, r_Js_coder_6, r_Js_coder_7, r_Js_coder_10, r_Js_coder_13, r_Js_coder_14, am_kf_s, am_km_s, am_kn_s, am_k_v, am_k_0, am_isr_r, am_isr_n, am_isr_v, am_sw_0, am_sw_i, am_sw_l, am_sw_r, am_sw_n, am_sw_v, am_mk_1, lc_lt, lc_gt, lc_eq, lc_le, lc_ge, i01_eq, i01_ok, ite_not, true_or, or_true, true_and, and_true, false_or, or_false, false_and, and_false, if_true, if_false, not_true_eq_false, not_false_eq_true, eq_self, h1, i3_z8]
  rfl
theorem x_Js_length (hS : M.2 a = some (.inr (11, [.ref v, .int 0]))) (hV : M.2 v = some (.inl (3, n, .inl f))) : am_ex G (d + 2) K_Js_length [.ref a] M = some (some (.int (Int32.ofNat n)), M) := by
  have h0 : am_fld M a 11 0 = some (.ref v) := by rw [am_fld, hS]; rfl
  have h1 : am_len M v = some n := by rw [am_len, hV]
  have h2 : am_cls M a = some 11 := by rw [am_cls, hS]
  simp only [e_Js_length, r_Js_length_0, r_Js_length_1, r_Js_length_4, r_Js_length_5, r_Js_length_6, r_Js_length_9, r_Js_length_10, am_kf_s, am_km_s, am_kn_s, am_k_v, am_k_0, am_isr_r, am_isr_n, am_isr_v, am_sw_0, am_sw_i, am_sw_l, am_sw_r, am_sw_n, am_sw_v, am_mk_1, lc_lt, lc_gt, lc_eq, lc_le, lc_ge, i01_eq, i01_ok, ite_not, true_or, or_true, true_and, and_true, false_or, or_false, false_and, and_false, if_true, if_false, not_true_eq_false, not_false_eq_true, eq_self, h0, h1, h2, x_Js_coder hS, i3_shr]
  rfl
theorem x_Js_isLatin1 (hS : M.2 a = some (.inr (11, [.ref v, .int 0]))) : am_ex G (d + 1) K_Js_isLatin1 [.ref a] M = some (some (.int 1), M) := by
  have h1 : am_fld M a 11 1 = some (.int 0) := by rw [am_fld, hS]; rfl
  simp only [e_Js_isLatin1, r_Js_isLatin1_0, r_Js_isLatin1_3, r_Js_isLatin1_6, r_Js_isLatin1_7, r_Js_isLatin1_10, r_Js_isLatin1_13, r_Js_isLatin1_14, r_Js_isLatin1_17, r_Js_isLatin1_18, am_kf_s, am_km_s, am_kn_s, am_k_v, am_k_0, am_isr_r, am_isr_n, am_isr_v, am_sw_0, am_sw_i, am_sw_l, am_sw_r, am_sw_n, am_sw_v, am_mk_1, lc_lt, lc_gt, lc_eq, lc_le, lc_ge, i01_eq, i01_ok, ite_not, true_or, or_true, true_and, and_true, false_or, or_false, false_and, and_false, if_true, if_false, not_true_eq_false, not_false_eq_true, eq_self, h1]
  rfl
end
