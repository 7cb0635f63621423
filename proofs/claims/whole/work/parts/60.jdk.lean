/-! the JDK's own methods, over any memory -/
theorem i3_z8 : (Int32.ofNat 0).toInt8.toInt32 = Int32.ofNat 0 := by decide
theorem i3_shr {a : Int32} : a >>> (Int32.ofNat 0 &&& 31) = a := by
  show a >>> (0 &&& 31) = a
  simp
theorem i3_asc {m : Nat} (h : m < 128) : ((Int32.ofNat m &&& Int32.ofNat 255).toUInt32 % 65536).toInt32 = Int32.ofNat m ∧ (Int32.ofNat m).toUInt32.toUInt16.toUInt32.toInt32 = Int32.ofNat m := by
  have key : ∀ m : Fin 128, ((Int32.ofNat m.val &&& Int32.ofNat 255).toUInt32 % 65536).toInt32 = Int32.ofNat m.val ∧ (Int32.ofNat m.val).toUInt32.toUInt16.toUInt32.toInt32 = Int32.ofNat m.val := by decide +kernel
  exact key ⟨m, h⟩
section
variable {G : Nat → Value} {d : Nat} {M : am_M} {a v n : Nat} {f : Nat → Int32}
theorem x_Js_coder (hS : M.2 a = some (.inr (11, [.ref v, .int 0]))) : am_ex G (d + 1) K_Js_coder [.ref a] M = some (some (.int 0), M) := by
  have h1 : am_fld M a 11 1 = some (.int 0) := by rw [am_fld, hS]; rfl
  simp only [e_Js_coder, r_Js_coder_0, r_Js_coder_3, r_Js_coder_6, r_Js_coder_7, r_Js_coder_10, r_Js_coder_13, r_Js_coder_14, i3n_0, i3n_1, am_kf_s, am_km_s, am_kn_s, am_k_v, am_k_0, am_isr_r, am_isr_n, am_isr_v, am_sw_0, am_sw_i, am_sw_l, am_sw_r, am_sw_n, am_sw_v, am_ct_i, am_ct_r, am_ct_n, am_mk_1, lc_lt, lc_gt, lc_eq, lc_le, lc_ge, i01_eq, i01_ok, ite_not, true_or, or_true, true_and, and_true, false_or, or_false, false_and, and_false, if_true, if_false, not_true_eq_false, not_false_eq_true, eq_self, Nat.reduceAdd, Nat.reduceLeDiff, Nat.reduceLT, Nat.reduceEqDiff, Nat.reduceMul, Nat.reduceSub, Nat.reduceDiv, Nat.reduceMod, reduceCtorEq, Nat.zero_le, i3_le, i3_lt, i3_eq, i3_eqN, i3_leN, i3_Nle, i3_ltN, i3_NleN, i3_NeqN, i3_Nlt, h1, i3_z8]
theorem x_Js_length (hS : M.2 a = some (.inr (11, [.ref v, .int 0]))) (hV : M.2 v = some (.inl (3, n, .inl f))) : am_ex G (d + 2) K_Js_length [.ref a] M = some (some (.int (Int32.ofNat n)), M) := by
  have h0 : am_fld M a 11 0 = some (.ref v) := by rw [am_fld, hS]; rfl
  have h1 : am_len M v = some n := by rw [am_len, hV]
  have h2 : am_cls M a = some 11 := by rw [am_cls, hS]
  simp only [e_Js_length, r_Js_length_0, r_Js_length_1, r_Js_length_4, r_Js_length_5, r_Js_length_6, r_Js_length_9, r_Js_length_10, i3n_0, i3n_1, am_kf_s, am_km_s, am_kn_s, am_k_v, am_k_0, am_isr_r, am_isr_n, am_isr_v, am_sw_0, am_sw_i, am_sw_l, am_sw_r, am_sw_n, am_sw_v, am_ct_i, am_ct_r, am_ct_n, am_mk_1, lc_lt, lc_gt, lc_eq, lc_le, lc_ge, i01_eq, i01_ok, ite_not, true_or, or_true, true_and, and_true, false_or, or_false, false_and, and_false, if_true, if_false, not_true_eq_false, not_false_eq_true, eq_self, Nat.reduceAdd, Nat.reduceLeDiff, Nat.reduceLT, Nat.reduceEqDiff, Nat.reduceMul, Nat.reduceSub, Nat.reduceDiv, Nat.reduceMod, reduceCtorEq, Nat.zero_le, i3_le, i3_lt, i3_eq, i3_eqN, i3_leN, i3_Nle, i3_ltN, i3_NleN, i3_NeqN, i3_Nlt, h0, h1, h2, x_Js_coder hS, i3_shr]
theorem x_Js_isLatin1 (hS : M.2 a = some (.inr (11, [.ref v, .int 0]))) : am_ex G (d + 1) K_Js_isLatin1 [.ref a] M = some (some (.int 1), M) := by
  have h1 : am_fld M a 11 1 = some (.int 0) := by rw [am_fld, hS]; rfl
  simp only [e_Js_isLatin1, r_Js_isLatin1_0, r_Js_isLatin1_3, r_Js_isLatin1_6, r_Js_isLatin1_7, r_Js_isLatin1_10, r_Js_isLatin1_13, r_Js_isLatin1_14, r_Js_isLatin1_17, r_Js_isLatin1_18, i3n_0, i3n_1, am_kf_s, am_km_s, am_kn_s, am_k_v, am_k_0, am_isr_r, am_isr_n, am_isr_v, am_sw_0, am_sw_i, am_sw_l, am_sw_r, am_sw_n, am_sw_v, am_ct_i, am_ct_r, am_ct_n, am_mk_1, lc_lt, lc_gt, lc_eq, lc_le, lc_ge, i01_eq, i01_ok, ite_not, true_or, or_true, true_and, and_true, false_or, or_false, false_and, and_false, if_true, if_false, not_true_eq_false, not_false_eq_true, eq_self, Nat.reduceAdd, Nat.reduceLeDiff, Nat.reduceLT, Nat.reduceEqDiff, Nat.reduceMul, Nat.reduceSub, Nat.reduceDiv, Nat.reduceMod, reduceCtorEq, Nat.zero_le, i3_le, i3_lt, i3_eq, i3_eqN, i3_leN, i3_Nle, i3_ltN, i3_NleN, i3_NeqN, i3_Nlt, h1]
theorem am_ag_b (hV : M.2 v = some (.inl (3, n, .inl f))) {k : Nat} (hk : k < n) (hn : n < 2147483648) : am_ag 2 M v (Int32.ofNat k) = some (.int (f k)) := by
  have e : (Int32.ofNat k).toNatClampNeg = k := i3_clamp (by omega)
  rw [am_ag, hV]
  simp only [e]
  rw [if_pos ⟨rfl, ly_nn (by omega), hk⟩]
  rfl
theorem x_Jp_checkIndex {w : Value} (hw : am_isr w = true) {k : Nat} (hk : k < n) (hn : n < 2147483648) : am_ex G (d + 1) K_Jp_checkIndex [.int (Int32.ofNat k), .int (Int32.ofNat n), w] M = some (some (.int (Int32.ofNat k)), M) := by
  have hk2 : k < 2147483648 := by omega
  have hk3 : ¬ k < 0 := by omega
  rcases am_isr_cases hw with ⟨q, rfl⟩ | rfl
  · simp only [e_Jp_checkIndex, r_Jp_checkIndex_0, r_Jp_checkIndex_1, r_Jp_checkIndex_4, r_Jp_checkIndex_5, r_Jp_checkIndex_6, r_Jp_checkIndex_9, r_Jp_checkIndex_10, r_Jp_checkIndex_11, r_Jp_checkIndex_16, r_Jp_checkIndex_17, i3n_0, i3n_1, am_kf_s, am_km_s, am_kn_s, am_k_v, am_k_0, am_isr_r, am_isr_n, am_isr_v, am_sw_0, am_sw_i, am_sw_l, am_sw_r, am_sw_n, am_sw_v, am_ct_i, am_ct_r, am_ct_n, am_mk_1, lc_lt, lc_gt, lc_eq, lc_le, lc_ge, i01_eq, i01_ok, ite_not, true_or, or_true, true_and, and_true, false_or, or_false, false_and, and_false, if_true, if_false, not_true_eq_false, not_false_eq_true, eq_self, Nat.reduceAdd, Nat.reduceLeDiff, Nat.reduceLT, Nat.reduceEqDiff, Nat.reduceMul, Nat.reduceSub, Nat.reduceDiv, Nat.reduceMod, reduceCtorEq, Nat.zero_le, i3_le, i3_lt, i3_eq, i3_eqN, i3_leN, i3_Nle, i3_ltN, i3_NleN, i3_NeqN, i3_Nlt, hk, hk2, hk3, hn]
  · have e : am_ex G (d + 1) K_Jp_checkIndex [.int (Int32.ofNat k), .int (Int32.ofNat n), .null] M = am_run G d K_Jp_checkIndex (0, [some (.int (Int32.ofNat k)), some (.int (Int32.ofNat n)), some .null], [], M) := by
      unfold am_ex
      rw [if_neg (Nat.succ_ne_zero d)]
      rfl
    rw [e]
    simp only [r_Jp_checkIndex_0, r_Jp_checkIndex_1, r_Jp_checkIndex_4, r_Jp_checkIndex_5, r_Jp_checkIndex_6, r_Jp_checkIndex_9, r_Jp_checkIndex_10, r_Jp_checkIndex_11, r_Jp_checkIndex_16, r_Jp_checkIndex_17, i3n_0, i3n_1, am_kf_s, am_km_s, am_kn_s, am_k_v, am_k_0, am_isr_r, am_isr_n, am_isr_v, am_sw_0, am_sw_i, am_sw_l, am_sw_r, am_sw_n, am_sw_v, am_ct_i, am_ct_r, am_ct_n, am_mk_1, lc_lt, lc_gt, lc_eq, lc_le, lc_ge, i01_eq, i01_ok, ite_not, true_or, or_true, true_and, and_true, false_or, or_false, false_and, and_false, if_true, if_false, not_true_eq_false, not_false_eq_true, eq_self, Nat.reduceAdd, Nat.reduceLeDiff, Nat.reduceLT, Nat.reduceEqDiff, Nat.reduceMul, Nat.reduceSub, Nat.reduceDiv, Nat.reduceMod, reduceCtorEq, Nat.zero_le, i3_le, i3_lt, i3_eq, i3_eqN, i3_leN, i3_Nle, i3_ltN, i3_NleN, i3_NeqN, i3_Nlt, hk, hk2, hk3, hn]
theorem x_Js_checkIndex (hw : am_isr (G 2) = true) {k : Nat} (hk : k < n) (hn : n < 2147483648) : am_ex G (d + 2) K_Js_checkIndex [.int (Int32.ofNat k), .int (Int32.ofNat n)] M = some (none, M) := by
  simp only [e_Js_checkIndex, r_Js_checkIndex_0, r_Js_checkIndex_1, r_Js_checkIndex_2, r_Js_checkIndex_5, r_Js_checkIndex_8, r_Js_checkIndex_9, i3n_0, i3n_1, am_kf_s, am_km_s, am_kn_s, am_k_v, am_k_0, am_isr_r, am_isr_n, am_isr_v, am_sw_0, am_sw_i, am_sw_l, am_sw_r, am_sw_n, am_sw_v, am_ct_i, am_ct_r, am_ct_n, am_mk_1, lc_lt, lc_gt, lc_eq, lc_le, lc_ge, i01_eq, i01_ok, ite_not, true_or, or_true, true_and, and_true, false_or, or_false, false_and, and_false, if_true, if_false, not_true_eq_false, not_false_eq_true, eq_self, Nat.reduceAdd, Nat.reduceLeDiff, Nat.reduceLT, Nat.reduceEqDiff, Nat.reduceMul, Nat.reduceSub, Nat.reduceDiv, Nat.reduceMod, reduceCtorEq, Nat.zero_le, i3_le, i3_lt, i3_eq, i3_eqN, i3_leN, i3_Nle, i3_ltN, i3_NleN, i3_NeqN, i3_Nlt, hw, x_Jp_checkIndex hw hk hn]
theorem x_Jl_charAt (hw : am_isr (G 2) = true) (hV : M.2 v = some (.inl (3, n, .inl f))) {k m : Nat} (hk : k < n) (hn : n < 2147483648) (hm : m < 128) (hf : f k = Int32.ofNat m) : am_ex G (d + 3) K_Jl_charAt [.ref v, .int (Int32.ofNat k)] M = some (some (.int (Int32.ofNat m)), M) := by
  have h1 : am_len M v = some n := by rw [am_len, hV]
  have h2 := am_ag_b hV hk hn
  rw [hf] at h2
  simp only [e_Jl_charAt, r_Jl_charAt_0, r_Jl_charAt_1, r_Jl_charAt_2, r_Jl_charAt_3, r_Jl_charAt_6, r_Jl_charAt_7, r_Jl_charAt_8, r_Jl_charAt_9, r_Jl_charAt_12, r_Jl_charAt_13, r_Jl_charAt_14, i3n_0, i3n_1, i3n_255, am_kf_s, am_km_s, am_kn_s, am_k_v, am_k_0, am_isr_r, am_isr_n, am_isr_v, am_sw_0, am_sw_i, am_sw_l, am_sw_r, am_sw_n, am_sw_v, am_ct_i, am_ct_r, am_ct_n, am_mk_1, lc_lt, lc_gt, lc_eq, lc_le, lc_ge, i01_eq, i01_ok, ite_not, true_or, or_true, true_and, and_true, false_or, or_false, false_and, and_false, if_true, if_false, not_true_eq_false, not_false_eq_true, eq_self, Nat.reduceAdd, Nat.reduceLeDiff, Nat.reduceLT, Nat.reduceEqDiff, Nat.reduceMul, Nat.reduceSub, Nat.reduceDiv, Nat.reduceMod, reduceCtorEq, Nat.zero_le, i3_le, i3_lt, i3_eq, i3_eqN, i3_leN, i3_Nle, i3_ltN, i3_NleN, i3_NeqN, i3_Nlt, h1, h2, x_Js_checkIndex hw hk hn, (i3_asc hm).1, (i3_asc hm).2]
theorem x_Js_charAt (hw : am_isr (G 2) = true) (hS : M.2 a = some (.inr (11, [.ref v, .int 0]))) (hV : M.2 v = some (.inl (3, n, .inl f))) {k m : Nat} (hk : k < n) (hn : n < 2147483648) (hm : m < 128) (hf : f k = Int32.ofNat m) : am_ex G (d + 4) K_Js_charAt [.ref a, .int (Int32.ofNat k)] M = some (some (.int (Int32.ofNat m)), M) := by
  have h0 : am_fld M a 11 0 = some (.ref v) := by rw [am_fld, hS]; rfl
  have h2 : am_cls M a = some 11 := by rw [am_cls, hS]
  simp only [e_Js_charAt, r_Js_charAt_0, r_Js_charAt_1, r_Js_charAt_4, r_Js_charAt_7, r_Js_charAt_8, r_Js_charAt_11, r_Js_charAt_12, r_Js_charAt_15, r_Js_charAt_16, r_Js_charAt_17, r_Js_charAt_20, r_Js_charAt_24, i3n_0, i3n_1, am_kf_s, am_km_s, am_kn_s, am_k_v, am_k_0, am_isr_r, am_isr_n, am_isr_v, am_sw_0, am_sw_i, am_sw_l, am_sw_r, am_sw_n, am_sw_v, am_ct_i, am_ct_r, am_ct_n, am_mk_1, lc_lt, lc_gt, lc_eq, lc_le, lc_ge, i01_eq, i01_ok, ite_not, true_or, or_true, true_and, and_true, false_or, or_false, false_and, and_false, if_true, if_false, not_true_eq_false, not_false_eq_true, eq_self, Nat.reduceAdd, Nat.reduceLeDiff, Nat.reduceLT, Nat.reduceEqDiff, Nat.reduceMul, Nat.reduceSub, Nat.reduceDiv, Nat.reduceMod, reduceCtorEq, Nat.zero_le, i3_le, i3_lt, i3_eq, i3_eqN, i3_leN, i3_Nle, i3_ltN, i3_NleN, i3_NeqN, i3_Nlt, h0, h2, x_Js_isLatin1 hS, x_Jl_charAt hw hV hk hn hm hf, (i3_asc hm).2]
theorem x_Jg_compare {p q : Int64} : am_ex G (d + 1) K_Jg_compare [.long p, .long q] M = some (some (.int (if p < q then -1 else if p = q then 0 else 1)), M) := by
  simp only [e_Jg_compare, r_Jg_compare_0, r_Jg_compare_1, r_Jg_compare_2, r_Jg_compare_3, r_Jg_compare_6, r_Jg_compare_7, r_Jg_compare_10, r_Jg_compare_11, r_Jg_compare_12, r_Jg_compare_13, r_Jg_compare_16, r_Jg_compare_17, r_Jg_compare_20, r_Jg_compare_21, i3n_0, i3n_1, am_kf_s, am_km_s, am_kn_s, am_k_v, am_k_0, am_isr_r, am_isr_n, am_isr_v, am_sw_0, am_sw_i, am_sw_l, am_sw_r, am_sw_n, am_sw_v, am_ct_i, am_ct_r, am_ct_n, am_mk_1, lc_lt, lc_gt, lc_eq, lc_le, lc_ge, i01_eq, i01_ok, ite_not, true_or, or_true, true_and, and_true, false_or, or_false, false_and, and_false, if_true, if_false, not_true_eq_false, not_false_eq_true, eq_self, Nat.reduceAdd, Nat.reduceLeDiff, Nat.reduceLT, Nat.reduceEqDiff, Nat.reduceMul, Nat.reduceSub, Nat.reduceDiv, Nat.reduceMod, reduceCtorEq, Nat.zero_le, i3_le, i3_lt, i3_eq, i3_eqN, i3_leN, i3_Nle, i3_ltN, i3_NleN, i3_NeqN, i3_Nlt]
  by_cases h1 : p < q
  · have h2 : ¬ q ≤ p := fun h => Int64.lt_irrefl (Int64.lt_of_le_of_lt h h1)
    simp only [h1, h2, if_true, if_false]
  · have h2 : q ≤ p := Int64.not_lt.mp h1
    by_cases h3 : p = q
    · subst h3; simp only [Int64.le_refl, Int64.lt_irrefl, if_true, if_false]
    · simp only [h1, h2, h3, if_true, if_false]
end
