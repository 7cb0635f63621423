/-! finding things: the class's and the reference's -/
theorem w_le {a b : Int32} : (a.toInt64 ≤ b.toInt64) = (a ≤ b) := propext Int32.toInt64_le
theorem w_leL {k : Nat} (hk : k < 2147483648) {a : Int32} : (Int64.ofNat k ≤ a.toInt64) = (Int32.ofNat k ≤ a) := by rw [← i3_long hk, w_le]
theorem w_leR {k : Nat} (hk : k < 2147483648) {a : Int32} : (a.toInt64 ≤ Int64.ofNat k) = (a ≤ Int32.ofNat k) := by rw [← i3_long hk, w_le]
theorem w_leN {k : Nat} (hk : k < 2147483648) {a : Int32} : (-Int64.ofNat k ≤ a.toInt64) = (-Int32.ofNat k ≤ a) := by rw [← i3_longN hk, w_le]
theorem nat_rem {a l : Nat} : a - a / l * l = a % l := by
  have := Nat.div_add_mod a l
  rw [Nat.mul_comm] at this
  omega
theorem i3_rem {a l : Nat} : Int32.ofNat a - Int32.ofNat (a / l * l) = Int32.ofNat (a % l) := by rw [i3_sub (Nat.div_mul_le_self a l), nat_rem]
theorem i3_rng {a : Int32} {m : Nat} (hm : m < 2147483648) (h : Int32.ofNat 0 ≤ a ∧ a ≤ Int32.ofNat m) : ∃ n, n ≤ m ∧ a = Int32.ofNat n := by
  rcases i3_cases a with ⟨n, hn, rfl⟩ | ⟨h1, h2⟩
  · refine ⟨n, ?_, rfl⟩
    have := h.2
    rw [i3_le hn hm] at this
    exact this
  · exact absurd h.1 (Int32.not_le.mpr h1)
theorem i3_split (a : Int32) (m : Nat) (hm : m < 2147483648) : (∃ n, n < m ∧ a = Int32.ofNat n) ∨ ((a < Int32.ofNat 0 ∨ Int32.ofNat m ≤ a) ∧ ¬ ∃ n, n < m ∧ a = Int32.ofNat n) := by
  rcases i3_cases a with ⟨n, hn, rfl⟩ | ⟨h1, h2⟩
  · by_cases h : n < m
    · exact Or.inl ⟨n, h, rfl⟩
    · refine Or.inr ⟨Or.inr (by rw [i3_le hm hn]; omega), ?_⟩
      rintro ⟨k, k1, k2⟩
      rw [i3_eq hn (by omega)] at k2
      omega
  · refine Or.inr ⟨Or.inl h1, ?_⟩
    rintro ⟨k, k1, rfl⟩
    rw [Int32.toInt_ofNat_of_lt (by omega)] at h2
    omega
theorem i3_out {a : Int32} {m : Nat} (hm : m < 2147483648) (h : a < Int32.ofNat 0 ∨ Int32.ofNat m ≤ a) : ¬ (Int32.ofNat 0 ≤ a ∧ a ≤ Int32.ofNat m - Int32.ofNat 1) := by
  rintro ⟨h1, h2⟩
  rcases h with h | h
  · exact Int32.lt_irrefl (Int32.lt_of_lt_of_le h h1)
  · have h3 := Int32.le_trans h h2
    cases m with
    | zero =>
      have : Int32.ofNat 0 ≤ Int32.ofNat 0 - Int32.ofNat 1 := h3
      exact absurd this (by decide)
    | succ m =>
      rw [i3_sub (by omega), i3_le hm (by omega)] at h3
      omega
theorem i3_in {n m : Nat} (hm : m < 2147483648) (h : n < m) : (Int32.ofNat 0 ≤ Int32.ofNat n ∧ Int32.ofNat n ≤ Int32.ofNat m - Int32.ofNat 1) := by
  rw [i3_sub (by omega), i3_le (by omega) (by omega), i3_le (by omega) (by omega)]
  omega
section
variable {G : Nat → Value} {d x : Nat} {N : Nat → Nat → Nat} {Z : ly_Z} {C : Nat → Nat → Int32} {L : Nat → Nat → Int64} {R : Nat → Nat → Option Nat} {D : am_M}
theorem x_H_stuffAt (h : rl G N x Z C R D) {i : Nat} (hi : i < N 31 13) : am_ex G (d + 1) K_H_stuffAt [.ref x, .int (Int32.ofNat i)] (am_mk x true Z C L R D) = some (some (.ref (Z.2 (i + 1000))), am_mk x true Z C L R D) := by
  obtain ⟨s1, -, s3⟩ := h.1.1
  have hr := (h.2.1 i hi).1
  have b1 : i < 2147483648 := by omega
  have b2 : N 31 13 < 2147483648 := by omega
  have b3 : ¬ i < 0 := by omega
  have b4 : ¬ N 31 13 ≤ i := by omega
  have b5 : ¬ 8 ≤ i := by omega
  have b6 : i < 8 := by omega
  simp only [e_H_stuffAt, r_H_stuffAt_0, r_H_stuffAt_1, r_H_stuffAt_4, r_H_stuffAt_5, r_H_stuffAt_6, r_H_stuffAt_9, r_H_stuffAt_12, r_H_stuffAt_13, r_H_stuffAt_14, r_H_stuffAt_17, r_H_stuffAt_18, r_H_stuffAt_21, r_H_stuffAt_22, r_H_stuffAt_25, r_H_stuffAt_26, r_H_stuffAt_27, r_H_stuffAt_30, r_H_stuffAt_31, ly_g0_5, ly_g0_0, ly_n1, ly_r1, ly_w1, i3n_0, i3n_1, l6n_0, l6n_1, am_kf_s, am_km_s, am_kn_s, am_k_v, am_k_0, am_isr_r, am_isr_n, am_isr_v, am_sw_0, am_sw_i, am_sw_l, am_sw_r, am_sw_n, am_sw_v, am_ct_i, am_ct_r, am_ct_n, am_c1_o, am_c1_n, am_c1_i, am_c1_r, am_c1_v, am_mk_1, lc_lt, lc_gt, lc_eq, lc_le, lc_ge, i01_eq, i01_ok, ite_not, true_or, or_true, true_and, and_true, false_or, or_false, false_and, and_false, if_true, if_false, not_true_eq_false, not_false_eq_true, eq_self, Nat.reduceAdd, Nat.reduceLeDiff, Nat.reduceLT, Nat.reduceEqDiff, Nat.reduceMul, Nat.reduceSub, Nat.reduceDiv, Nat.reduceMod, reduceCtorEq, Nat.zero_le, i3_le, i3_lt, i3_eq, i3_eqN, i3_leN, i3_Nle, i3_ltN, i3_NleN, i3_NeqN, i3_Neq, i3_NltN, i3_Nlt, l6_le, l6_lt, l6_eq, l6_leN, l6_Nle, l6_ltN, l6_Nlt, l6_eqN, l6_Neq, s1, b1, b2, b3, b4, b5, b6, hr, va_rf_s]
theorem x_H_stuffAt_n (h : rl G N x Z C R D) {a : Int32} (ha : a < Int32.ofNat 0 ∨ Int32.ofNat (N 31 13) ≤ a) : am_ex G (d + 1) K_H_stuffAt [.ref x, .int a] (am_mk x true Z C L R D) = some (some .null, am_mk x true Z C L R D) := by
  obtain ⟨s1, -, s3⟩ := h.1.1
  by_cases h0 : a < Int32.ofNat 0
  · simp only [e_H_stuffAt, r_H_stuffAt_0, r_H_stuffAt_1, r_H_stuffAt_4, r_H_stuffAt_5, r_H_stuffAt_6, r_H_stuffAt_9, r_H_stuffAt_12, r_H_stuffAt_13, r_H_stuffAt_14, r_H_stuffAt_17, r_H_stuffAt_18, r_H_stuffAt_21, r_H_stuffAt_22, r_H_stuffAt_25, r_H_stuffAt_26, r_H_stuffAt_27, r_H_stuffAt_30, r_H_stuffAt_31, ly_g0_5, ly_g0_0, ly_n1, ly_r1, ly_w1, i3n_0, i3n_1, l6n_0, l6n_1, am_kf_s, am_km_s, am_kn_s, am_k_v, am_k_0, am_isr_r, am_isr_n, am_isr_v, am_sw_0, am_sw_i, am_sw_l, am_sw_r, am_sw_n, am_sw_v, am_ct_i, am_ct_r, am_ct_n, am_c1_o, am_c1_n, am_c1_i, am_c1_r, am_c1_v, am_mk_1, lc_lt, lc_gt, lc_eq, lc_le, lc_ge, i01_eq, i01_ok, ite_not, true_or, or_true, true_and, and_true, false_or, or_false, false_and, and_false, if_true, if_false, not_true_eq_false, not_false_eq_true, eq_self, Nat.reduceAdd, Nat.reduceLeDiff, Nat.reduceLT, Nat.reduceEqDiff, Nat.reduceMul, Nat.reduceSub, Nat.reduceDiv, Nat.reduceMod, reduceCtorEq, Nat.zero_le, i3_le, i3_lt, i3_eq, i3_eqN, i3_leN, i3_Nle, i3_ltN, i3_NleN, i3_NeqN, i3_Neq, i3_NltN, i3_Nlt, l6_le, l6_lt, l6_eq, l6_leN, l6_Nle, l6_ltN, l6_Nlt, l6_eqN, l6_Neq, h0]
  · have h1 := ha.resolve_left h0
    simp only [e_H_stuffAt, r_H_stuffAt_0, r_H_stuffAt_1, r_H_stuffAt_4, r_H_stuffAt_5, r_H_stuffAt_6, r_H_stuffAt_9, r_H_stuffAt_12, r_H_stuffAt_13, r_H_stuffAt_14, r_H_stuffAt_17, r_H_stuffAt_18, r_H_stuffAt_21, r_H_stuffAt_22, r_H_stuffAt_25, r_H_stuffAt_26, r_H_stuffAt_27, r_H_stuffAt_30, r_H_stuffAt_31, ly_g0_5, ly_g0_0, ly_n1, ly_r1, ly_w1, i3n_0, i3n_1, l6n_0, l6n_1, am_kf_s, am_km_s, am_kn_s, am_k_v, am_k_0, am_isr_r, am_isr_n, am_isr_v, am_sw_0, am_sw_i, am_sw_l, am_sw_r, am_sw_n, am_sw_v, am_ct_i, am_ct_r, am_ct_n, am_c1_o, am_c1_n, am_c1_i, am_c1_r, am_c1_v, am_mk_1, lc_lt, lc_gt, lc_eq, lc_le, lc_ge, i01_eq, i01_ok, ite_not, true_or, or_true, true_and, and_true, false_or, or_false, false_and, and_false, if_true, if_false, not_true_eq_false, not_false_eq_true, eq_self, Nat.reduceAdd, Nat.reduceLeDiff, Nat.reduceLT, Nat.reduceEqDiff, Nat.reduceMul, Nat.reduceSub, Nat.reduceDiv, Nat.reduceMod, reduceCtorEq, Nat.zero_le, i3_le, i3_lt, i3_eq, i3_eqN, i3_leN, i3_Nle, i3_ltN, i3_NleN, i3_NeqN, i3_Neq, i3_NltN, i3_Nlt, l6_le, l6_lt, l6_eq, l6_leN, l6_Nle, l6_ltN, l6_Nlt, l6_eqN, l6_Neq, h0, s1, h1]
theorem x_H_hallAt (h : rl G N x Z C R D) {i : Nat} (hi : i < N 31 17) : am_ex G (d + 1) K_H_hallAt [.ref x, .int (Int32.ofNat i)] (am_mk x true Z C L R D) = some (some (.ref (Z.2 (i + 2000))), am_mk x true Z C L R D) := by
  obtain ⟨s1, -, s3⟩ := h.1.2.1
  have hr := (h.2.2.1 i hi).1
  have b1 : i < 2147483648 := by omega
  have b2 : N 31 17 < 2147483648 := by omega
  have b3 : ¬ i < 0 := by omega
  have b4 : ¬ N 31 17 ≤ i := by omega
  have b5 : ¬ 6 ≤ i := by omega
  have b6 : i < 6 := by omega
  simp only [e_H_hallAt, r_H_hallAt_0, r_H_hallAt_1, r_H_hallAt_4, r_H_hallAt_5, r_H_hallAt_6, r_H_hallAt_9, r_H_hallAt_12, r_H_hallAt_13, r_H_hallAt_14, r_H_hallAt_17, r_H_hallAt_18, r_H_hallAt_21, r_H_hallAt_22, r_H_hallAt_25, r_H_hallAt_26, r_H_hallAt_27, r_H_hallAt_30, r_H_hallAt_31, ly_g0_6, ly_g0_1, ly_n2, ly_r2, ly_w2, i3n_0, i3n_1, l6n_0, l6n_1, am_kf_s, am_km_s, am_kn_s, am_k_v, am_k_0, am_isr_r, am_isr_n, am_isr_v, am_sw_0, am_sw_i, am_sw_l, am_sw_r, am_sw_n, am_sw_v, am_ct_i, am_ct_r, am_ct_n, am_c1_o, am_c1_n, am_c1_i, am_c1_r, am_c1_v, am_mk_1, lc_lt, lc_gt, lc_eq, lc_le, lc_ge, i01_eq, i01_ok, ite_not, true_or, or_true, true_and, and_true, false_or, or_false, false_and, and_false, if_true, if_false, not_true_eq_false, not_false_eq_true, eq_self, Nat.reduceAdd, Nat.reduceLeDiff, Nat.reduceLT, Nat.reduceEqDiff, Nat.reduceMul, Nat.reduceSub, Nat.reduceDiv, Nat.reduceMod, reduceCtorEq, Nat.zero_le, i3_le, i3_lt, i3_eq, i3_eqN, i3_leN, i3_Nle, i3_ltN, i3_NleN, i3_NeqN, i3_Neq, i3_NltN, i3_Nlt, l6_le, l6_lt, l6_eq, l6_leN, l6_Nle, l6_ltN, l6_Nlt, l6_eqN, l6_Neq, s1, b1, b2, b3, b4, b5, b6, hr, va_rf_s]
theorem x_H_hallAt_n (h : rl G N x Z C R D) {a : Int32} (ha : a < Int32.ofNat 0 ∨ Int32.ofNat (N 31 17) ≤ a) : am_ex G (d + 1) K_H_hallAt [.ref x, .int a] (am_mk x true Z C L R D) = some (some .null, am_mk x true Z C L R D) := by
  obtain ⟨s1, -, s3⟩ := h.1.2.1
  by_cases h0 : a < Int32.ofNat 0
  · simp only [e_H_hallAt, r_H_hallAt_0, r_H_hallAt_1, r_H_hallAt_4, r_H_hallAt_5, r_H_hallAt_6, r_H_hallAt_9, r_H_hallAt_12, r_H_hallAt_13, r_H_hallAt_14, r_H_hallAt_17, r_H_hallAt_18, r_H_hallAt_21, r_H_hallAt_22, r_H_hallAt_25, r_H_hallAt_26, r_H_hallAt_27, r_H_hallAt_30, r_H_hallAt_31, ly_g0_6, ly_g0_1, ly_n2, ly_r2, ly_w2, i3n_0, i3n_1, l6n_0, l6n_1, am_kf_s, am_km_s, am_kn_s, am_k_v, am_k_0, am_isr_r, am_isr_n, am_isr_v, am_sw_0, am_sw_i, am_sw_l, am_sw_r, am_sw_n, am_sw_v, am_ct_i, am_ct_r, am_ct_n, am_c1_o, am_c1_n, am_c1_i, am_c1_r, am_c1_v, am_mk_1, lc_lt, lc_gt, lc_eq, lc_le, lc_ge, i01_eq, i01_ok, ite_not, true_or, or_true, true_and, and_true, false_or, or_false, false_and, and_false, if_true, if_false, not_true_eq_false, not_false_eq_true, eq_self, Nat.reduceAdd, Nat.reduceLeDiff, Nat.reduceLT, Nat.reduceEqDiff, Nat.reduceMul, Nat.reduceSub, Nat.reduceDiv, Nat.reduceMod, reduceCtorEq, Nat.zero_le, i3_le, i3_lt, i3_eq, i3_eqN, i3_leN, i3_Nle, i3_ltN, i3_NleN, i3_NeqN, i3_Neq, i3_NltN, i3_Nlt, l6_le, l6_lt, l6_eq, l6_leN, l6_Nle, l6_ltN, l6_Nlt, l6_eqN, l6_Neq, h0]
  · have h1 := ha.resolve_left h0
    simp only [e_H_hallAt, r_H_hallAt_0, r_H_hallAt_1, r_H_hallAt_4, r_H_hallAt_5, r_H_hallAt_6, r_H_hallAt_9, r_H_hallAt_12, r_H_hallAt_13, r_H_hallAt_14, r_H_hallAt_17, r_H_hallAt_18, r_H_hallAt_21, r_H_hallAt_22, r_H_hallAt_25, r_H_hallAt_26, r_H_hallAt_27, r_H_hallAt_30, r_H_hallAt_31, ly_g0_6, ly_g0_1, ly_n2, ly_r2, ly_w2, i3n_0, i3n_1, l6n_0, l6n_1, am_kf_s, am_km_s, am_kn_s, am_k_v, am_k_0, am_isr_r, am_isr_n, am_isr_v, am_sw_0, am_sw_i, am_sw_l, am_sw_r, am_sw_n, am_sw_v, am_ct_i, am_ct_r, am_ct_n, am_c1_o, am_c1_n, am_c1_i, am_c1_r, am_c1_v, am_mk_1, lc_lt, lc_gt, lc_eq, lc_le, lc_ge, i01_eq, i01_ok, ite_not, true_or, or_true, true_and, and_true, false_or, or_false, false_and, and_false, if_true, if_false, not_true_eq_false, not_false_eq_true, eq_self, Nat.reduceAdd, Nat.reduceLeDiff, Nat.reduceLT, Nat.reduceEqDiff, Nat.reduceMul, Nat.reduceSub, Nat.reduceDiv, Nat.reduceMod, reduceCtorEq, Nat.zero_le, i3_le, i3_lt, i3_eq, i3_eqN, i3_leN, i3_Nle, i3_ltN, i3_NleN, i3_NeqN, i3_Neq, i3_NltN, i3_Nlt, l6_le, l6_lt, l6_eq, l6_leN, l6_Nle, l6_ltN, l6_Nlt, l6_eqN, l6_Neq, h0, s1, h1]
theorem x_H_nightAt (h : rl G N x Z C R D) {i : Nat} (hi : i < N 31 27) : am_ex G (d + 1) K_H_nightAt [.ref x, .int (Int32.ofNat i)] (am_mk x true Z C L R D) = some (some (.ref (Z.2 (i + 6000))), am_mk x true Z C L R D) := by
  obtain ⟨s1, -, s3⟩ := h.1.2.2.1
  have hr := (h.2.2.2.1 i hi).1
  have b1 : i < 2147483648 := by omega
  have b2 : N 31 27 < 2147483648 := by omega
  have b3 : ¬ i < 0 := by omega
  have b4 : ¬ N 31 27 ≤ i := by omega
  have b5 : ¬ 40 ≤ i := by omega
  have b6 : i < 40 := by omega
  simp only [e_H_nightAt, r_H_nightAt_0, r_H_nightAt_1, r_H_nightAt_4, r_H_nightAt_5, r_H_nightAt_6, r_H_nightAt_9, r_H_nightAt_12, r_H_nightAt_13, r_H_nightAt_14, r_H_nightAt_17, r_H_nightAt_18, r_H_nightAt_21, r_H_nightAt_22, r_H_nightAt_25, r_H_nightAt_26, r_H_nightAt_27, r_H_nightAt_30, r_H_nightAt_31, ly_g0_7, ly_g0_2, ly_n3, ly_r3, ly_w3, i3n_0, i3n_1, l6n_0, l6n_1, am_kf_s, am_km_s, am_kn_s, am_k_v, am_k_0, am_isr_r, am_isr_n, am_isr_v, am_sw_0, am_sw_i, am_sw_l, am_sw_r, am_sw_n, am_sw_v, am_ct_i, am_ct_r, am_ct_n, am_c1_o, am_c1_n, am_c1_i, am_c1_r, am_c1_v, am_mk_1, lc_lt, lc_gt, lc_eq, lc_le, lc_ge, i01_eq, i01_ok, ite_not, true_or, or_true, true_and, and_true, false_or, or_false, false_and, and_false, if_true, if_false, not_true_eq_false, not_false_eq_true, eq_self, Nat.reduceAdd, Nat.reduceLeDiff, Nat.reduceLT, Nat.reduceEqDiff, Nat.reduceMul, Nat.reduceSub, Nat.reduceDiv, Nat.reduceMod, reduceCtorEq, Nat.zero_le, i3_le, i3_lt, i3_eq, i3_eqN, i3_leN, i3_Nle, i3_ltN, i3_NleN, i3_NeqN, i3_Neq, i3_NltN, i3_Nlt, l6_le, l6_lt, l6_eq, l6_leN, l6_Nle, l6_ltN, l6_Nlt, l6_eqN, l6_Neq, s1, b1, b2, b3, b4, b5, b6, hr, va_rf_s]
theorem x_H_nightAt_n (h : rl G N x Z C R D) {a : Int32} (ha : a < Int32.ofNat 0 ∨ Int32.ofNat (N 31 27) ≤ a) : am_ex G (d + 1) K_H_nightAt [.ref x, .int a] (am_mk x true Z C L R D) = some (some .null, am_mk x true Z C L R D) := by
  obtain ⟨s1, -, s3⟩ := h.1.2.2.1
  by_cases h0 : a < Int32.ofNat 0
  · simp only [e_H_nightAt, r_H_nightAt_0, r_H_nightAt_1, r_H_nightAt_4, r_H_nightAt_5, r_H_nightAt_6, r_H_nightAt_9, r_H_nightAt_12, r_H_nightAt_13, r_H_nightAt_14, r_H_nightAt_17, r_H_nightAt_18, r_H_nightAt_21, r_H_nightAt_22, r_H_nightAt_25, r_H_nightAt_26, r_H_nightAt_27, r_H_nightAt_30, r_H_nightAt_31, ly_g0_7, ly_g0_2, ly_n3, ly_r3, ly_w3, i3n_0, i3n_1, l6n_0, l6n_1, am_kf_s, am_km_s, am_kn_s, am_k_v, am_k_0, am_isr_r, am_isr_n, am_isr_v, am_sw_0, am_sw_i, am_sw_l, am_sw_r, am_sw_n, am_sw_v, am_ct_i, am_ct_r, am_ct_n, am_c1_o, am_c1_n, am_c1_i, am_c1_r, am_c1_v, am_mk_1, lc_lt, lc_gt, lc_eq, lc_le, lc_ge, i01_eq, i01_ok, ite_not, true_or, or_true, true_and, and_true, false_or, or_false, false_and, and_false, if_true, if_false, not_true_eq_false, not_false_eq_true, eq_self, Nat.reduceAdd, Nat.reduceLeDiff, Nat.reduceLT, Nat.reduceEqDiff, Nat.reduceMul, Nat.reduceSub, Nat.reduceDiv, Nat.reduceMod, reduceCtorEq, Nat.zero_le, i3_le, i3_lt, i3_eq, i3_eqN, i3_leN, i3_Nle, i3_ltN, i3_NleN, i3_NeqN, i3_Neq, i3_NltN, i3_Nlt, l6_le, l6_lt, l6_eq, l6_leN, l6_Nle, l6_ltN, l6_Nlt, l6_eqN, l6_Neq, h0]
  · have h1 := ha.resolve_left h0
    simp only [e_H_nightAt, r_H_nightAt_0, r_H_nightAt_1, r_H_nightAt_4, r_H_nightAt_5, r_H_nightAt_6, r_H_nightAt_9, r_H_nightAt_12, r_H_nightAt_13, r_H_nightAt_14, r_H_nightAt_17, r_H_nightAt_18, r_H_nightAt_21, r_H_nightAt_22, r_H_nightAt_25, r_H_nightAt_26, r_H_nightAt_27, r_H_nightAt_30, r_H_nightAt_31, ly_g0_7, ly_g0_2, ly_n3, ly_r3, ly_w3, i3n_0, i3n_1, l6n_0, l6n_1, am_kf_s, am_km_s, am_kn_s, am_k_v, am_k_0, am_isr_r, am_isr_n, am_isr_v, am_sw_0, am_sw_i, am_sw_l, am_sw_r, am_sw_n, am_sw_v, am_ct_i, am_ct_r, am_ct_n, am_c1_o, am_c1_n, am_c1_i, am_c1_r, am_c1_v, am_mk_1, lc_lt, lc_gt, lc_eq, lc_le, lc_ge, i01_eq, i01_ok, ite_not, true_or, or_true, true_and, and_true, false_or, or_false, false_and, and_false, if_true, if_false, not_true_eq_false, not_false_eq_true, eq_self, Nat.reduceAdd, Nat.reduceLeDiff, Nat.reduceLT, Nat.reduceEqDiff, Nat.reduceMul, Nat.reduceSub, Nat.reduceDiv, Nat.reduceMod, reduceCtorEq, Nat.zero_le, i3_le, i3_lt, i3_eq, i3_eqN, i3_leN, i3_Nle, i3_ltN, i3_NleN, i3_NeqN, i3_Neq, i3_NltN, i3_Nlt, l6_le, l6_lt, l6_eq, l6_leN, l6_Nle, l6_ltN, l6_Nlt, l6_eqN, l6_Neq, h0, s1, h1]
theorem x_M_isStuff (h : rl G N x Z C R D) {i : Nat} (hi : i < N 31 13) : am_ex G (d + 2) K_M_isStuff [.ref (x + 31), .int (Int32.ofNat i)] (am_mk x true Z C L R D) = some (some (.int (Int32.ofNat 1)), am_mk x true Z C L R D) := by
  obtain ⟨-, s1, s3⟩ := h.1.1
  obtain ⟨q1, q2⟩ := i3_in (show N 31 13 < 2147483648 by omega) hi
  simp only [e_M_isStuff, r_M_isStuff_0, r_M_isStuff_1, r_M_isStuff_2, r_M_isStuff_3, r_M_isStuff_4, r_M_isStuff_7, r_M_isStuff_8, r_M_isStuff_9, r_M_isStuff_10, r_M_isStuff_13, ly_g31_13, i3n_0, i3n_1, l6n_0, l6n_1, am_kf_s, am_km_s, am_kn_s, am_k_v, am_k_0, am_isr_r, am_isr_n, am_isr_v, am_sw_0, am_sw_i, am_sw_l, am_sw_r, am_sw_n, am_sw_v, am_ct_i, am_ct_r, am_ct_n, am_c1_o, am_c1_n, am_c1_i, am_c1_r, am_c1_v, am_mk_1, lc_lt, lc_gt, lc_eq, lc_le, lc_ge, i01_eq, i01_ok, ite_not, true_or, or_true, true_and, and_true, false_or, or_false, false_and, and_false, if_true, if_false, not_true_eq_false, not_false_eq_true, eq_self, Nat.reduceAdd, Nat.reduceLeDiff, Nat.reduceLT, Nat.reduceEqDiff, Nat.reduceMul, Nat.reduceSub, Nat.reduceDiv, Nat.reduceMod, reduceCtorEq, Nat.zero_le, i3_le, i3_lt, i3_eq, i3_eqN, i3_leN, i3_Nle, i3_ltN, i3_NleN, i3_NeqN, i3_Neq, i3_NltN, i3_Nlt, l6_le, l6_lt, l6_eq, l6_leN, l6_Nle, l6_ltN, l6_Nlt, l6_eqN, l6_Neq, s1, x_M_in, w_le, w_leL, q1, q2]
theorem x_M_isStuff_n (h : rl G N x Z C R D) {a : Int32} (ha : a < Int32.ofNat 0 ∨ Int32.ofNat (N 31 13) ≤ a) : am_ex G (d + 2) K_M_isStuff [.ref (x + 31), .int a] (am_mk x true Z C L R D) = some (some (.int (Int32.ofNat 0)), am_mk x true Z C L R D) := by
  obtain ⟨-, s1, s3⟩ := h.1.1
  have q := i3_out (show N 31 13 < 2147483648 by omega) ha
  simp only [e_M_isStuff, r_M_isStuff_0, r_M_isStuff_1, r_M_isStuff_2, r_M_isStuff_3, r_M_isStuff_4, r_M_isStuff_7, r_M_isStuff_8, r_M_isStuff_9, r_M_isStuff_10, r_M_isStuff_13, ly_g31_13, i3n_0, i3n_1, l6n_0, l6n_1, am_kf_s, am_km_s, am_kn_s, am_k_v, am_k_0, am_isr_r, am_isr_n, am_isr_v, am_sw_0, am_sw_i, am_sw_l, am_sw_r, am_sw_n, am_sw_v, am_ct_i, am_ct_r, am_ct_n, am_c1_o, am_c1_n, am_c1_i, am_c1_r, am_c1_v, am_mk_1, lc_lt, lc_gt, lc_eq, lc_le, lc_ge, i01_eq, i01_ok, ite_not, true_or, or_true, true_and, and_true, false_or, or_false, false_and, and_false, if_true, if_false, not_true_eq_false, not_false_eq_true, eq_self, Nat.reduceAdd, Nat.reduceLeDiff, Nat.reduceLT, Nat.reduceEqDiff, Nat.reduceMul, Nat.reduceSub, Nat.reduceDiv, Nat.reduceMod, reduceCtorEq, Nat.zero_le, i3_le, i3_lt, i3_eq, i3_eqN, i3_leN, i3_Nle, i3_ltN, i3_NleN, i3_NeqN, i3_Neq, i3_NltN, i3_Nlt, l6_le, l6_lt, l6_eq, l6_leN, l6_Nle, l6_ltN, l6_Nlt, l6_eqN, l6_Neq, s1, x_M_in, w_le, w_leL, q]
theorem x_M_isHall (h : rl G N x Z C R D) {i : Nat} (hi : i < N 31 17) : am_ex G (d + 2) K_M_isHall [.ref (x + 31), .int (Int32.ofNat i)] (am_mk x true Z C L R D) = some (some (.int (Int32.ofNat 1)), am_mk x true Z C L R D) := by
  obtain ⟨-, s1, s3⟩ := h.1.2.1
  obtain ⟨q1, q2⟩ := i3_in (show N 31 17 < 2147483648 by omega) hi
  simp only [e_M_isHall, r_M_isHall_0, r_M_isHall_1, r_M_isHall_2, r_M_isHall_3, r_M_isHall_4, r_M_isHall_7, r_M_isHall_8, r_M_isHall_9, r_M_isHall_10, r_M_isHall_13, ly_g31_17, i3n_0, i3n_1, l6n_0, l6n_1, am_kf_s, am_km_s, am_kn_s, am_k_v, am_k_0, am_isr_r, am_isr_n, am_isr_v, am_sw_0, am_sw_i, am_sw_l, am_sw_r, am_sw_n, am_sw_v, am_ct_i, am_ct_r, am_ct_n, am_c1_o, am_c1_n, am_c1_i, am_c1_r, am_c1_v, am_mk_1, lc_lt, lc_gt, lc_eq, lc_le, lc_ge, i01_eq, i01_ok, ite_not, true_or, or_true, true_and, and_true, false_or, or_false, false_and, and_false, if_true, if_false, not_true_eq_false, not_false_eq_true, eq_self, Nat.reduceAdd, Nat.reduceLeDiff, Nat.reduceLT, Nat.reduceEqDiff, Nat.reduceMul, Nat.reduceSub, Nat.reduceDiv, Nat.reduceMod, reduceCtorEq, Nat.zero_le, i3_le, i3_lt, i3_eq, i3_eqN, i3_leN, i3_Nle, i3_ltN, i3_NleN, i3_NeqN, i3_Neq, i3_NltN, i3_Nlt, l6_le, l6_lt, l6_eq, l6_leN, l6_Nle, l6_ltN, l6_Nlt, l6_eqN, l6_Neq, s1, x_M_in, w_le, w_leL, q1, q2]
theorem x_M_isHall_n (h : rl G N x Z C R D) {a : Int32} (ha : a < Int32.ofNat 0 ∨ Int32.ofNat (N 31 17) ≤ a) : am_ex G (d + 2) K_M_isHall [.ref (x + 31), .int a] (am_mk x true Z C L R D) = some (some (.int (Int32.ofNat 0)), am_mk x true Z C L R D) := by
  obtain ⟨-, s1, s3⟩ := h.1.2.1
  have q := i3_out (show N 31 17 < 2147483648 by omega) ha
  simp only [e_M_isHall, r_M_isHall_0, r_M_isHall_1, r_M_isHall_2, r_M_isHall_3, r_M_isHall_4, r_M_isHall_7, r_M_isHall_8, r_M_isHall_9, r_M_isHall_10, r_M_isHall_13, ly_g31_17, i3n_0, i3n_1, l6n_0, l6n_1, am_kf_s, am_km_s, am_kn_s, am_k_v, am_k_0, am_isr_r, am_isr_n, am_isr_v, am_sw_0, am_sw_i, am_sw_l, am_sw_r, am_sw_n, am_sw_v, am_ct_i, am_ct_r, am_ct_n, am_c1_o, am_c1_n, am_c1_i, am_c1_r, am_c1_v, am_mk_1, lc_lt, lc_gt, lc_eq, lc_le, lc_ge, i01_eq, i01_ok, ite_not, true_or, or_true, true_and, and_true, false_or, or_false, false_and, and_false, if_true, if_false, not_true_eq_false, not_false_eq_true, eq_self, Nat.reduceAdd, Nat.reduceLeDiff, Nat.reduceLT, Nat.reduceEqDiff, Nat.reduceMul, Nat.reduceSub, Nat.reduceDiv, Nat.reduceMod, reduceCtorEq, Nat.zero_le, i3_le, i3_lt, i3_eq, i3_eqN, i3_leN, i3_Nle, i3_ltN, i3_NleN, i3_NeqN, i3_Neq, i3_NltN, i3_Nlt, l6_le, l6_lt, l6_eq, l6_leN, l6_Nle, l6_ltN, l6_Nlt, l6_eqN, l6_Neq, s1, x_M_in, w_le, w_leL, q]
theorem x_M_isNight (h : rl G N x Z C R D) {i : Nat} (hi : i < N 31 27) : am_ex G (d + 2) K_M_isNight [.ref (x + 31), .int (Int32.ofNat i)] (am_mk x true Z C L R D) = some (some (.int (Int32.ofNat 1)), am_mk x true Z C L R D) := by
  obtain ⟨-, s1, s3⟩ := h.1.2.2.1
  obtain ⟨q1, q2⟩ := i3_in (show N 31 27 < 2147483648 by omega) hi
  simp only [e_M_isNight, r_M_isNight_0, r_M_isNight_1, r_M_isNight_2, r_M_isNight_3, r_M_isNight_4, r_M_isNight_7, r_M_isNight_8, r_M_isNight_9, r_M_isNight_10, r_M_isNight_13, ly_g31_27, i3n_0, i3n_1, l6n_0, l6n_1, am_kf_s, am_km_s, am_kn_s, am_k_v, am_k_0, am_isr_r, am_isr_n, am_isr_v, am_sw_0, am_sw_i, am_sw_l, am_sw_r, am_sw_n, am_sw_v, am_ct_i, am_ct_r, am_ct_n, am_c1_o, am_c1_n, am_c1_i, am_c1_r, am_c1_v, am_mk_1, lc_lt, lc_gt, lc_eq, lc_le, lc_ge, i01_eq, i01_ok, ite_not, true_or, or_true, true_and, and_true, false_or, or_false, false_and, and_false, if_true, if_false, not_true_eq_false, not_false_eq_true, eq_self, Nat.reduceAdd, Nat.reduceLeDiff, Nat.reduceLT, Nat.reduceEqDiff, Nat.reduceMul, Nat.reduceSub, Nat.reduceDiv, Nat.reduceMod, reduceCtorEq, Nat.zero_le, i3_le, i3_lt, i3_eq, i3_eqN, i3_leN, i3_Nle, i3_ltN, i3_NleN, i3_NeqN, i3_Neq, i3_NltN, i3_Nlt, l6_le, l6_lt, l6_eq, l6_leN, l6_Nle, l6_ltN, l6_Nlt, l6_eqN, l6_Neq, s1, x_M_in, w_le, w_leL, q1, q2]
theorem x_M_isNight_n (h : rl G N x Z C R D) {a : Int32} (ha : a < Int32.ofNat 0 ∨ Int32.ofNat (N 31 27) ≤ a) : am_ex G (d + 2) K_M_isNight [.ref (x + 31), .int a] (am_mk x true Z C L R D) = some (some (.int (Int32.ofNat 0)), am_mk x true Z C L R D) := by
  obtain ⟨-, s1, s3⟩ := h.1.2.2.1
  have q := i3_out (show N 31 27 < 2147483648 by omega) ha
  simp only [e_M_isNight, r_M_isNight_0, r_M_isNight_1, r_M_isNight_2, r_M_isNight_3, r_M_isNight_4, r_M_isNight_7, r_M_isNight_8, r_M_isNight_9, r_M_isNight_10, r_M_isNight_13, ly_g31_27, i3n_0, i3n_1, l6n_0, l6n_1, am_kf_s, am_km_s, am_kn_s, am_k_v, am_k_0, am_isr_r, am_isr_n, am_isr_v, am_sw_0, am_sw_i, am_sw_l, am_sw_r, am_sw_n, am_sw_v, am_ct_i, am_ct_r, am_ct_n, am_c1_o, am_c1_n, am_c1_i, am_c1_r, am_c1_v, am_mk_1, lc_lt, lc_gt, lc_eq, lc_le, lc_ge, i01_eq, i01_ok, ite_not, true_or, or_true, true_and, and_true, false_or, or_false, false_and, and_false, if_true, if_false, not_true_eq_false, not_false_eq_true, eq_self, Nat.reduceAdd, Nat.reduceLeDiff, Nat.reduceLT, Nat.reduceEqDiff, Nat.reduceMul, Nat.reduceSub, Nat.reduceDiv, Nat.reduceMod, reduceCtorEq, Nat.zero_le, i3_le, i3_lt, i3_eq, i3_eqN, i3_leN, i3_Nle, i3_ltN, i3_NleN, i3_NeqN, i3_Neq, i3_NltN, i3_Nlt, l6_le, l6_lt, l6_eq, l6_leN, l6_Nle, l6_ltN, l6_Nlt, l6_eqN, l6_Neq, s1, x_M_in, w_le, w_leL, q]
/-- a where that names a HALL and a PITCH -/
def rl_w (N : Nat → Nat → Nat) (w : Nat) : Prop := w < 2147483648 ∧ w % 10 ≤ 2 ∧ w / 10 < N 31 17
def rl_wn (N : Nat → Nat → Nat) (a : Int32) : Prop := a < Int32.ofNat 0 ∨ ∃ w, w < 2147483648 ∧ a = Int32.ofNat w ∧ (2 < w % 10 ∨ N 31 17 ≤ w / 10)
theorem rl_w_split (N : Nat → Nat → Nat) (a : Int32) : (∃ w, a = Int32.ofNat w ∧ rl_w N w) ∨ rl_wn N a := by
  rcases i3_cases a with ⟨w, hw, rfl⟩ | ⟨h1, h2⟩
  · by_cases h : w % 10 ≤ 2 ∧ w / 10 < N 31 17
    · exact Or.inl ⟨w, rfl, hw, h.1, h.2⟩
    · refine Or.inr (Or.inr ⟨w, hw, rfl, ?_⟩)
      by_cases h3 : 2 < w % 10
      · exact Or.inl h3
      · exact Or.inr (by omega)
  · exact Or.inr (Or.inl h1)
theorem x_H_hallOf (h : rl G N x Z C R D) {w : Nat} (hw : rl_w N w) : am_ex G (d + 2) K_H_hallOf [.ref x, .int (Int32.ofNat w)] (am_mk x true Z C L R D) = some (some (.ref (Z.2 (w / 10 + 2000))), am_mk x true Z C L R D) := by
  obtain ⟨h1, h2, h3⟩ := hw
  have b1 : ¬ w < 0 := by omega
  have b2 : w % 10 < 2147483648 := by omega
  have b3 : ¬ 2 < w % 10 := by omega
  simp only [e_H_hallOf, r_H_hallOf_0, r_H_hallOf_1, r_H_hallOf_4, r_H_hallOf_5, r_H_hallOf_7, r_H_hallOf_8, r_H_hallOf_9, r_H_hallOf_12, r_H_hallOf_13, r_H_hallOf_14, r_H_hallOf_16, r_H_hallOf_17, r_H_hallOf_20, r_H_hallOf_23, r_H_hallOf_24, ly_k0, i3n_0, i3n_1, i3n_2, i3n_10, l6n_0, l6n_1, am_kf_s, am_km_s, am_kn_s, am_k_v, am_k_0, am_isr_r, am_isr_n, am_isr_v, am_sw_0, am_sw_i, am_sw_l, am_sw_r, am_sw_n, am_sw_v, am_ct_i, am_ct_r, am_ct_n, am_c1_o, am_c1_n, am_c1_i, am_c1_r, am_c1_v, am_mk_1, lc_lt, lc_gt, lc_eq, lc_le, lc_ge, i01_eq, i01_ok, ite_not, true_or, or_true, true_and, and_true, false_or, or_false, false_and, and_false, if_true, if_false, not_true_eq_false, not_false_eq_true, eq_self, Nat.reduceAdd, Nat.reduceLeDiff, Nat.reduceLT, Nat.reduceEqDiff, Nat.reduceMul, Nat.reduceSub, Nat.reduceDiv, Nat.reduceMod, reduceCtorEq, Nat.zero_le, i3_le, i3_lt, i3_eq, i3_eqN, i3_leN, i3_Nle, i3_ltN, i3_NleN, i3_NeqN, i3_Neq, i3_NltN, i3_Nlt, l6_le, l6_lt, l6_eq, l6_leN, l6_Nle, l6_ltN, l6_Nlt, l6_eqN, l6_Neq, h1, b1, b2, b3, i3_div, i3_mul, i3_rem, x_H_hallAt h h3]
theorem x_H_hallOf_n (h : rl G N x Z C R D) {a : Int32} (hw : rl_wn N a) : am_ex G (d + 2) K_H_hallOf [.ref x, .int a] (am_mk x true Z C L R D) = some (some .null, am_mk x true Z C L R D) := by
  rcases hw with h0 | ⟨w, h1, rfl, h3⟩
  · simp only [e_H_hallOf, r_H_hallOf_0, r_H_hallOf_1, r_H_hallOf_4, r_H_hallOf_5, r_H_hallOf_7, r_H_hallOf_8, r_H_hallOf_9, r_H_hallOf_12, r_H_hallOf_13, r_H_hallOf_14, r_H_hallOf_16, r_H_hallOf_17, r_H_hallOf_20, r_H_hallOf_23, r_H_hallOf_24, ly_k0, i3n_0, i3n_1, i3n_2, i3n_10, l6n_0, l6n_1, am_kf_s, am_km_s, am_kn_s, am_k_v, am_k_0, am_isr_r, am_isr_n, am_isr_v, am_sw_0, am_sw_i, am_sw_l, am_sw_r, am_sw_n, am_sw_v, am_ct_i, am_ct_r, am_ct_n, am_c1_o, am_c1_n, am_c1_i, am_c1_r, am_c1_v, am_mk_1, lc_lt, lc_gt, lc_eq, lc_le, lc_ge, i01_eq, i01_ok, ite_not, true_or, or_true, true_and, and_true, false_or, or_false, false_and, and_false, if_true, if_false, not_true_eq_false, not_false_eq_true, eq_self, Nat.reduceAdd, Nat.reduceLeDiff, Nat.reduceLT, Nat.reduceEqDiff, Nat.reduceMul, Nat.reduceSub, Nat.reduceDiv, Nat.reduceMod, reduceCtorEq, Nat.zero_le, i3_le, i3_lt, i3_eq, i3_eqN, i3_leN, i3_Nle, i3_ltN, i3_NleN, i3_NeqN, i3_Neq, i3_NltN, i3_Nlt, l6_le, l6_lt, l6_eq, l6_leN, l6_Nle, l6_ltN, l6_Nlt, l6_eqN, l6_Neq, h0]
  · have b1 : ¬ w < 0 := by omega
    have b2 : w % 10 < 2147483648 := by omega
    by_cases b3 : 2 < w % 10
    · simp only [e_H_hallOf, r_H_hallOf_0, r_H_hallOf_1, r_H_hallOf_4, r_H_hallOf_5, r_H_hallOf_7, r_H_hallOf_8, r_H_hallOf_9, r_H_hallOf_12, r_H_hallOf_13, r_H_hallOf_14, r_H_hallOf_16, r_H_hallOf_17, r_H_hallOf_20, r_H_hallOf_23, r_H_hallOf_24, ly_k0, i3n_0, i3n_1, i3n_2, i3n_10, l6n_0, l6n_1, am_kf_s, am_km_s, am_kn_s, am_k_v, am_k_0, am_isr_r, am_isr_n, am_isr_v, am_sw_0, am_sw_i, am_sw_l, am_sw_r, am_sw_n, am_sw_v, am_ct_i, am_ct_r, am_ct_n, am_c1_o, am_c1_n, am_c1_i, am_c1_r, am_c1_v, am_mk_1, lc_lt, lc_gt, lc_eq, lc_le, lc_ge, i01_eq, i01_ok, ite_not, true_or, or_true, true_and, and_true, false_or, or_false, false_and, and_false, if_true, if_false, not_true_eq_false, not_false_eq_true, eq_self, Nat.reduceAdd, Nat.reduceLeDiff, Nat.reduceLT, Nat.reduceEqDiff, Nat.reduceMul, Nat.reduceSub, Nat.reduceDiv, Nat.reduceMod, reduceCtorEq, Nat.zero_le, i3_le, i3_lt, i3_eq, i3_eqN, i3_leN, i3_Nle, i3_ltN, i3_NleN, i3_NeqN, i3_Neq, i3_NltN, i3_Nlt, l6_le, l6_lt, l6_eq, l6_leN, l6_Nle, l6_ltN, l6_Nlt, l6_eqN, l6_Neq, h1, b1, b2, b3, i3_div, i3_mul, i3_rem]
    · have h4 := h3.resolve_left b3
      have h6 := h.1.2.1.2.2
      have hh := x_H_hallAt_n (G := G) (d := d) (L := L) h (a := Int32.ofNat (w / 10)) (Or.inr (by rw [i3_le (by omega) (by omega)]; exact h4))
      simp only [e_H_hallOf, r_H_hallOf_0, r_H_hallOf_1, r_H_hallOf_4, r_H_hallOf_5, r_H_hallOf_7, r_H_hallOf_8, r_H_hallOf_9, r_H_hallOf_12, r_H_hallOf_13, r_H_hallOf_14, r_H_hallOf_16, r_H_hallOf_17, r_H_hallOf_20, r_H_hallOf_23, r_H_hallOf_24, ly_k0, i3n_0, i3n_1, i3n_2, i3n_10, l6n_0, l6n_1, am_kf_s, am_km_s, am_kn_s, am_k_v, am_k_0, am_isr_r, am_isr_n, am_isr_v, am_sw_0, am_sw_i, am_sw_l, am_sw_r, am_sw_n, am_sw_v, am_ct_i, am_ct_r, am_ct_n, am_c1_o, am_c1_n, am_c1_i, am_c1_r, am_c1_v, am_mk_1, lc_lt, lc_gt, lc_eq, lc_le, lc_ge, i01_eq, i01_ok, ite_not, true_or, or_true, true_and, and_true, false_or, or_false, false_and, and_false, if_true, if_false, not_true_eq_false, not_false_eq_true, eq_self, Nat.reduceAdd, Nat.reduceLeDiff, Nat.reduceLT, Nat.reduceEqDiff, Nat.reduceMul, Nat.reduceSub, Nat.reduceDiv, Nat.reduceMod, reduceCtorEq, Nat.zero_le, i3_le, i3_lt, i3_eq, i3_eqN, i3_leN, i3_Nle, i3_ltN, i3_NleN, i3_NeqN, i3_Neq, i3_NltN, i3_Nlt, l6_le, l6_lt, l6_eq, l6_leN, l6_Nle, l6_ltN, l6_Nlt, l6_eqN, l6_Neq, h1, b1, b2, b3, i3_div, i3_mul, i3_rem, hh]
theorem x_M_isWhere (h : rl G N x Z C R D) {w : Nat} (hw : rl_w N w) : am_ex G (d + 3) K_M_isWhere [.ref (x + 31), .int (Int32.ofNat w)] (am_mk x true Z C L R D) = some (some (.int (Int32.ofNat 1)), am_mk x true Z C L R D) := by
  obtain ⟨h1, h2, h3⟩ := hw
  have b1 : ¬ w < 0 := by omega
  have b2 : w % 10 < 2147483648 := by omega
  have b3 : ¬ 3 ≤ w % 10 := by omega
  simp only [e_M_isWhere, r_M_isWhere_0, r_M_isWhere_1, r_M_isWhere_4, r_M_isWhere_5, r_M_isWhere_6, r_M_isWhere_8, r_M_isWhere_9, r_M_isWhere_12, r_M_isWhere_15, r_M_isWhere_16, r_M_isWhere_18, r_M_isWhere_19, r_M_isWhere_20, r_M_isWhere_23, r_M_isWhere_24, r_M_isWhere_27, r_M_isWhere_28, ly_k31, i3n_0, i3n_1, i3n_3, i3n_10, l6n_0, l6n_1, am_kf_s, am_km_s, am_kn_s, am_k_v, am_k_0, am_isr_r, am_isr_n, am_isr_v, am_sw_0, am_sw_i, am_sw_l, am_sw_r, am_sw_n, am_sw_v, am_ct_i, am_ct_r, am_ct_n, am_c1_o, am_c1_n, am_c1_i, am_c1_r, am_c1_v, am_mk_1, lc_lt, lc_gt, lc_eq, lc_le, lc_ge, i01_eq, i01_ok, ite_not, true_or, or_true, true_and, and_true, false_or, or_false, false_and, and_false, if_true, if_false, not_true_eq_false, not_false_eq_true, eq_self, Nat.reduceAdd, Nat.reduceLeDiff, Nat.reduceLT, Nat.reduceEqDiff, Nat.reduceMul, Nat.reduceSub, Nat.reduceDiv, Nat.reduceMod, reduceCtorEq, Nat.zero_le, i3_le, i3_lt, i3_eq, i3_eqN, i3_leN, i3_Nle, i3_ltN, i3_NleN, i3_NeqN, i3_Neq, i3_NltN, i3_Nlt, l6_le, l6_lt, l6_eq, l6_leN, l6_Nle, l6_ltN, l6_Nlt, l6_eqN, l6_Neq, h1, b1, b2, b3, i3_div, i3_mul, i3_rem, x_M_isHall h h3]
theorem x_M_isWhere_n (h : rl G N x Z C R D) {a : Int32} (hw : rl_wn N a) : am_ex G (d + 3) K_M_isWhere [.ref (x + 31), .int a] (am_mk x true Z C L R D) = some (some (.int (Int32.ofNat 0)), am_mk x true Z C L R D) := by
  rcases hw with h0 | ⟨w, h1, rfl, h3⟩
  · simp only [e_M_isWhere, r_M_isWhere_0, r_M_isWhere_1, r_M_isWhere_4, r_M_isWhere_5, r_M_isWhere_6, r_M_isWhere_8, r_M_isWhere_9, r_M_isWhere_12, r_M_isWhere_15, r_M_isWhere_16, r_M_isWhere_18, r_M_isWhere_19, r_M_isWhere_20, r_M_isWhere_23, r_M_isWhere_24, r_M_isWhere_27, r_M_isWhere_28, ly_k31, i3n_0, i3n_1, i3n_3, i3n_10, l6n_0, l6n_1, am_kf_s, am_km_s, am_kn_s, am_k_v, am_k_0, am_isr_r, am_isr_n, am_isr_v, am_sw_0, am_sw_i, am_sw_l, am_sw_r, am_sw_n, am_sw_v, am_ct_i, am_ct_r, am_ct_n, am_c1_o, am_c1_n, am_c1_i, am_c1_r, am_c1_v, am_mk_1, lc_lt, lc_gt, lc_eq, lc_le, lc_ge, i01_eq, i01_ok, ite_not, true_or, or_true, true_and, and_true, false_or, or_false, false_and, and_false, if_true, if_false, not_true_eq_false, not_false_eq_true, eq_self, Nat.reduceAdd, Nat.reduceLeDiff, Nat.reduceLT, Nat.reduceEqDiff, Nat.reduceMul, Nat.reduceSub, Nat.reduceDiv, Nat.reduceMod, reduceCtorEq, Nat.zero_le, i3_le, i3_lt, i3_eq, i3_eqN, i3_leN, i3_Nle, i3_ltN, i3_NleN, i3_NeqN, i3_Neq, i3_NltN, i3_Nlt, l6_le, l6_lt, l6_eq, l6_leN, l6_Nle, l6_ltN, l6_Nlt, l6_eqN, l6_Neq, h0]
  · have b1 : ¬ w < 0 := by omega
    have b2 : w % 10 < 2147483648 := by omega
    by_cases h4 : w / 10 < N 31 17
    · have b3 : 3 ≤ w % 10 := by omega
      simp only [e_M_isWhere, r_M_isWhere_0, r_M_isWhere_1, r_M_isWhere_4, r_M_isWhere_5, r_M_isWhere_6, r_M_isWhere_8, r_M_isWhere_9, r_M_isWhere_12, r_M_isWhere_15, r_M_isWhere_16, r_M_isWhere_18, r_M_isWhere_19, r_M_isWhere_20, r_M_isWhere_23, r_M_isWhere_24, r_M_isWhere_27, r_M_isWhere_28, ly_k31, i3n_0, i3n_1, i3n_3, i3n_10, l6n_0, l6n_1, am_kf_s, am_km_s, am_kn_s, am_k_v, am_k_0, am_isr_r, am_isr_n, am_isr_v, am_sw_0, am_sw_i, am_sw_l, am_sw_r, am_sw_n, am_sw_v, am_ct_i, am_ct_r, am_ct_n, am_c1_o, am_c1_n, am_c1_i, am_c1_r, am_c1_v, am_mk_1, lc_lt, lc_gt, lc_eq, lc_le, lc_ge, i01_eq, i01_ok, ite_not, true_or, or_true, true_and, and_true, false_or, or_false, false_and, and_false, if_true, if_false, not_true_eq_false, not_false_eq_true, eq_self, Nat.reduceAdd, Nat.reduceLeDiff, Nat.reduceLT, Nat.reduceEqDiff, Nat.reduceMul, Nat.reduceSub, Nat.reduceDiv, Nat.reduceMod, reduceCtorEq, Nat.zero_le, i3_le, i3_lt, i3_eq, i3_eqN, i3_leN, i3_Nle, i3_ltN, i3_NleN, i3_NeqN, i3_Neq, i3_NltN, i3_Nlt, l6_le, l6_lt, l6_eq, l6_leN, l6_Nle, l6_ltN, l6_Nlt, l6_eqN, l6_Neq, h1, b1, b2, b3, i3_div, i3_mul, i3_rem, x_M_isHall h h4]
    · have h6 := h.1.2.1.2.2
      have hh := x_M_isHall_n (G := G) (d := d) (L := L) h (a := Int32.ofNat (w / 10)) (Or.inr (by rw [i3_le (by omega) (by omega)]; omega))
      simp only [e_M_isWhere, r_M_isWhere_0, r_M_isWhere_1, r_M_isWhere_4, r_M_isWhere_5, r_M_isWhere_6, r_M_isWhere_8, r_M_isWhere_9, r_M_isWhere_12, r_M_isWhere_15, r_M_isWhere_16, r_M_isWhere_18, r_M_isWhere_19, r_M_isWhere_20, r_M_isWhere_23, r_M_isWhere_24, r_M_isWhere_27, r_M_isWhere_28, ly_k31, i3n_0, i3n_1, i3n_3, i3n_10, l6n_0, l6n_1, am_kf_s, am_km_s, am_kn_s, am_k_v, am_k_0, am_isr_r, am_isr_n, am_isr_v, am_sw_0, am_sw_i, am_sw_l, am_sw_r, am_sw_n, am_sw_v, am_ct_i, am_ct_r, am_ct_n, am_c1_o, am_c1_n, am_c1_i, am_c1_r, am_c1_v, am_mk_1, lc_lt, lc_gt, lc_eq, lc_le, lc_ge, i01_eq, i01_ok, ite_not, true_or, or_true, true_and, and_true, false_or, or_false, false_and, and_false, if_true, if_false, not_true_eq_false, not_false_eq_true, eq_self, Nat.reduceAdd, Nat.reduceLeDiff, Nat.reduceLT, Nat.reduceEqDiff, Nat.reduceMul, Nat.reduceSub, Nat.reduceDiv, Nat.reduceMod, reduceCtorEq, Nat.zero_le, i3_le, i3_lt, i3_eq, i3_eqN, i3_leN, i3_Nle, i3_ltN, i3_NleN, i3_NeqN, i3_Neq, i3_NltN, i3_Nlt, l6_le, l6_lt, l6_eq, l6_leN, l6_Nle, l6_ltN, l6_Nlt, l6_eqN, l6_Neq, h1, b1, i3_div, hh]
/-- EATEN in the HALL i by the PITCH p, of its first k SURFACES -/
def mEt (N : Nat → Nat → Nat) (i p : Nat) : Nat → Nat
  | 0 => 100
  | k + 1 => mEt N i p k + N 42 (6 * i + k) * N 35 (3 * N 41 (6 * i + k) + p)
def mE (N : Nat → Nat → Nat) (i p : Nat) : Nat := mEt N i p (N 40 i)
theorem mEt_lt (h : rl G N x Z C R D) {i p : Nat} (hi : i < N 31 17) (hp : p < 3) : ∀ k, k ≤ N 40 i → 100 ≤ mEt N i p k ∧ mEt N i p k ≤ 100 + k * 989901 := by
  intro k
  induction k with
  | zero => intro _; exact ⟨Nat.le_refl _, Nat.le_refl _⟩
  | succ k ih =>
    intro hk
    obtain ⟨i1, i2⟩ := ih (by omega)
    obtain ⟨⟨-, -, a3⟩, -, -, b3⟩ := (h.2.2.1 i hi).2.2.2.2.2.2.2.2.2.2.2.2 k hk
    obtain ⟨-, c2⟩ := (h.2.1 _ a3).2.2.1 p hp
    have := Nat.mul_le_mul b3 c2
    rw [mEt]
    omega
theorem mE_lt (h : rl G N x Z C R D) {i p : Nat} (hi : i < N 31 17) (hp : p < 3) : 100 ≤ mE N i p ∧ mE N i p ≤ 6000000 := by
  obtain ⟨h1, h2⟩ := mEt_lt h hi hp (N 40 i) (Nat.le_refl _)
  have h3 := (h.2.2.1 i hi).2.2.2.2.2.2.2.2.2.2.2.1.2.2
  have := Nat.mul_le_mul_right 989901 h3
  exact ⟨h1, by unfold mE; omega⟩
theorem x_Su_eatsBy (h : rl G N x Z C R D) {s p : Nat} (hs : s < N 31 13) (hp : p < 3) : am_ex G (d + 1) K_Su_eatsBy [.ref (Z.2 (s + 1000)), .int (Int32.ofNat p)] (am_mk x true Z C L R D) = some (some (.int (Int32.ofNat (N 35 (3 * s + p)))), am_mk x true Z C L R D) := by
  obtain ⟨-, hi, hp3, -, -, -, h0⟩ := h.2.1 s hs
  have q0 := hp3 0 (by decide)
  have q1 := hp3 1 (by decide)
  have q2 := hp3 2 (by decide)
  rw [Nat.add_zero] at q0
  have g0 := ly_dg1_0 (C := C) (L := L) (R := R) (D := D) hi
  rw [h0] at g0
  generalize hE : 10000 * N 35 (3 * s) + 100 * N 35 (3 * s + 1) + N 35 (3 * s + 2) = E at g0
  have hE1 : E < 2147483648 := by omega
  have hE2 : E / 100 < 2147483648 := by omega
  have : p = 0 ∨ p = 1 ∨ p = 2 := by omega
  rcases this with rfl | rfl | rfl
  · have e : E / 10000 = N 35 (3 * s + 0) := by rw [Nat.add_zero]; omega
    simp only [e_Su_eatsBy, r_Su_eatsBy_0, r_Su_eatsBy_1, r_Su_eatsBy_4, r_Su_eatsBy_5, r_Su_eatsBy_8, r_Su_eatsBy_11, r_Su_eatsBy_12, r_Su_eatsBy_15, r_Su_eatsBy_16, r_Su_eatsBy_17, r_Su_eatsBy_20, r_Su_eatsBy_21, r_Su_eatsBy_24, r_Su_eatsBy_26, r_Su_eatsBy_27, r_Su_eatsBy_29, r_Su_eatsBy_30, r_Su_eatsBy_33, r_Su_eatsBy_34, r_Su_eatsBy_37, r_Su_eatsBy_39, r_Su_eatsBy_40, i3n_0, i3n_1, i3n_100, i3n_10000, l6n_0, l6n_1, am_kf_s, am_km_s, am_kn_s, am_k_v, am_k_0, am_isr_r, am_isr_n, am_isr_v, am_sw_0, am_sw_i, am_sw_l, am_sw_r, am_sw_n, am_sw_v, am_ct_i, am_ct_r, am_ct_n, am_c1_o, am_c1_n, am_c1_i, am_c1_r, am_c1_v, am_mk_1, lc_lt, lc_gt, lc_eq, lc_le, lc_ge, i01_eq, i01_ok, ite_not, true_or, or_true, true_and, and_true, false_or, or_false, false_and, and_false, if_true, if_false, not_true_eq_false, not_false_eq_true, eq_self, Nat.reduceAdd, Nat.reduceLeDiff, Nat.reduceLT, Nat.reduceEqDiff, Nat.reduceMul, Nat.reduceSub, Nat.reduceDiv, Nat.reduceMod, reduceCtorEq, Nat.zero_le, i3_le, i3_lt, i3_eq, i3_eqN, i3_leN, i3_Nle, i3_ltN, i3_NleN, i3_NeqN, i3_Neq, i3_NltN, i3_Nlt, l6_le, l6_lt, l6_eq, l6_leN, l6_Nle, l6_ltN, l6_Nlt, l6_eqN, l6_Neq, g0, hE1, i3_div, e]
  · have e : E / 100 % 100 = N 35 (3 * s + 1) := by omega
    simp only [e_Su_eatsBy, r_Su_eatsBy_0, r_Su_eatsBy_1, r_Su_eatsBy_4, r_Su_eatsBy_5, r_Su_eatsBy_8, r_Su_eatsBy_11, r_Su_eatsBy_12, r_Su_eatsBy_15, r_Su_eatsBy_16, r_Su_eatsBy_17, r_Su_eatsBy_20, r_Su_eatsBy_21, r_Su_eatsBy_24, r_Su_eatsBy_26, r_Su_eatsBy_27, r_Su_eatsBy_29, r_Su_eatsBy_30, r_Su_eatsBy_33, r_Su_eatsBy_34, r_Su_eatsBy_37, r_Su_eatsBy_39, r_Su_eatsBy_40, i3n_0, i3n_1, i3n_100, i3n_10000, l6n_0, l6n_1, am_kf_s, am_km_s, am_kn_s, am_k_v, am_k_0, am_isr_r, am_isr_n, am_isr_v, am_sw_0, am_sw_i, am_sw_l, am_sw_r, am_sw_n, am_sw_v, am_ct_i, am_ct_r, am_ct_n, am_c1_o, am_c1_n, am_c1_i, am_c1_r, am_c1_v, am_mk_1, lc_lt, lc_gt, lc_eq, lc_le, lc_ge, i01_eq, i01_ok, ite_not, true_or, or_true, true_and, and_true, false_or, or_false, false_and, and_false, if_true, if_false, not_true_eq_false, not_false_eq_true, eq_self, Nat.reduceAdd, Nat.reduceLeDiff, Nat.reduceLT, Nat.reduceEqDiff, Nat.reduceMul, Nat.reduceSub, Nat.reduceDiv, Nat.reduceMod, reduceCtorEq, Nat.zero_le, i3_le, i3_lt, i3_eq, i3_eqN, i3_leN, i3_Nle, i3_ltN, i3_NleN, i3_NeqN, i3_Neq, i3_NltN, i3_Nlt, l6_le, l6_lt, l6_eq, l6_leN, l6_Nle, l6_ltN, l6_Nlt, l6_eqN, l6_Neq, g0, hE1, hE2, i3_div, i3_mul, i3_rem, e]
  · have e : E % 100 = N 35 (3 * s + 2) := by omega
    simp only [e_Su_eatsBy, r_Su_eatsBy_0, r_Su_eatsBy_1, r_Su_eatsBy_4, r_Su_eatsBy_5, r_Su_eatsBy_8, r_Su_eatsBy_11, r_Su_eatsBy_12, r_Su_eatsBy_15, r_Su_eatsBy_16, r_Su_eatsBy_17, r_Su_eatsBy_20, r_Su_eatsBy_21, r_Su_eatsBy_24, r_Su_eatsBy_26, r_Su_eatsBy_27, r_Su_eatsBy_29, r_Su_eatsBy_30, r_Su_eatsBy_33, r_Su_eatsBy_34, r_Su_eatsBy_37, r_Su_eatsBy_39, r_Su_eatsBy_40, i3n_0, i3n_1, i3n_100, i3n_10000, l6n_0, l6n_1, am_kf_s, am_km_s, am_kn_s, am_k_v, am_k_0, am_isr_r, am_isr_n, am_isr_v, am_sw_0, am_sw_i, am_sw_l, am_sw_r, am_sw_n, am_sw_v, am_ct_i, am_ct_r, am_ct_n, am_c1_o, am_c1_n, am_c1_i, am_c1_r, am_c1_v, am_mk_1, lc_lt, lc_gt, lc_eq, lc_le, lc_ge, i01_eq, i01_ok, ite_not, true_or, or_true, true_and, and_true, false_or, or_false, false_and, and_false, if_true, if_false, not_true_eq_false, not_false_eq_true, eq_self, Nat.reduceAdd, Nat.reduceLeDiff, Nat.reduceLT, Nat.reduceEqDiff, Nat.reduceMul, Nat.reduceSub, Nat.reduceDiv, Nat.reduceMod, reduceCtorEq, Nat.zero_le, i3_le, i3_lt, i3_eq, i3_eqN, i3_leN, i3_Nle, i3_ltN, i3_NleN, i3_NeqN, i3_Neq, i3_NltN, i3_Nlt, l6_le, l6_lt, l6_eq, l6_leN, l6_Nle, l6_ltN, l6_Nlt, l6_eqN, l6_Neq, g0, hE1, i3_div, i3_mul, i3_rem, e]
theorem l_H_eatenIn (h : rl G N x Z C R D) {i p : Nat} (hi : i < N 31 17) (hp : p < 3) : ∀ (m k : Nat) (w : Option Value), N 40 i - k = m → k ≤ N 40 i → am_c1 w = true → am_run G (d + 1) K_H_eatenIn (7, [some (.ref x), some (.ref (Z.2 (i + 2000))), some (.int (Int32.ofNat p)), some (.long (Int64.ofNat (mEt N i p k))), none, some (.int (Int32.ofNat k)), w], [], am_mk x true Z C L R D) = some (some (.long (Int64.ofNat (mE N i p))), am_mk x true Z C L R D) := by
  obtain ⟨-, h2, h3, h4, h5, r3, r4, r6, -, -, -, hN, hk⟩ := h.2.2.1 i hi
  have g5 := ly_dg2_5 (C := C) (L := L) (R := R) (D := D) h2
  rw [hN.1] at g5
  have g3 := ly_dg2_3 (C := C) (L := L) (R := R) (D := D) h2
  rw [r3] at g3
  have g4 := ly_dg2_4 (C := C) (L := L) (R := R) (D := D) h2
  rw [r4] at g4
  have n6 := hN.2.2
  have b0 : N 40 i < 2147483648 := by omega
  intro m
  induction m with
  | zero =>
    intro k w hm hkn hw
    have : k = N 40 i := by omega
    subst this
    rw [r_H_eatenIn_7]
    simp only [r_H_eatenIn_9, r_H_eatenIn_10, r_H_eatenIn_13, r_H_eatenIn_16, r_H_eatenIn_18, r_H_eatenIn_20, r_H_eatenIn_23, r_H_eatenIn_24, r_H_eatenIn_25, r_H_eatenIn_28, r_H_eatenIn_30, r_H_eatenIn_31, r_H_eatenIn_34, r_H_eatenIn_34_k, r_H_eatenIn_36, r_H_eatenIn_38, r_H_eatenIn_41, r_H_eatenIn_42, r_H_eatenIn_43, r_H_eatenIn_46, r_H_eatenIn_48, r_H_eatenIn_49, r_H_eatenIn_50, r_H_eatenIn_52, r_H_eatenIn_53, r_H_eatenIn_56, r_H_eatenIn_57, r_H_eatenIn_58, r_H_eatenIn_59, r_H_eatenIn_59_k, r_H_eatenIn_60, r_H_eatenIn_60_k, r_H_eatenIn_63, r_H_eatenIn_66, r_H_eatenIn_67, ly_k0, i3n_0, i3n_1, i3n_6, l6n_0, l6n_1, l6n_100, am_kf_s, am_km_s, am_kn_s, am_k_v, am_k_0, am_isr_r, am_isr_n, am_isr_v, am_sw_0, am_sw_i, am_sw_l, am_sw_r, am_sw_n, am_sw_v, am_ct_i, am_ct_r, am_ct_n, am_c1_o, am_c1_n, am_c1_i, am_c1_r, am_c1_v, am_mk_1, lc_lt, lc_gt, lc_eq, lc_le, lc_ge, i01_eq, i01_ok, ite_not, true_or, or_true, true_and, and_true, false_or, or_false, false_and, and_false, if_true, if_false, not_true_eq_false, not_false_eq_true, eq_self, Nat.reduceAdd, Nat.reduceLeDiff, Nat.reduceLT, Nat.reduceEqDiff, Nat.reduceMul, Nat.reduceSub, Nat.reduceDiv, Nat.reduceMod, reduceCtorEq, Nat.zero_le, i3_le, i3_lt, i3_eq, i3_eqN, i3_leN, i3_Nle, i3_ltN, i3_NleN, i3_NeqN, i3_Neq, i3_NltN, i3_Nlt, l6_le, l6_lt, l6_eq, l6_leN, l6_Nle, l6_ltN, l6_Nlt, l6_eqN, l6_Neq, g5, b0, Nat.le_refl]
    rfl
  | succ m ih =>
    intro k w hm hkn hw
    have hlt : k < N 40 i := by omega
    obtain ⟨⟨c1, -, a3⟩, c2, -, b3⟩ := hk k hlt
    obtain ⟨-, e2⟩ := (h.2.1 _ a3).2.2.1 p hp
    have s8 := h.1.1.2.2
    have b1 : k < 2147483648 := by omega
    have b2 : ¬ N 40 i ≤ k := by omega
    have b4 : ¬ 6 ≤ k := by omega
    have v3 := ly_dr3 (C := C) (L := L) (R := R) (D := D) h3 (j := k) (by omega) b1
    rw [c1] at v3
    have v4 := ly_dr4 (C := C) (L := L) (R := R) (D := D) h4 (j := k) (by omega) b1
    rw [c2] at v4
    have k1 := ly_dk1 (C := C) (L := L) (R := R) (D := D) (h.2.1 _ a3).2.1
    have f1 : N 42 (6 * i + k) < 2147483648 := by omega
    have f2 : N 35 (3 * N 41 (6 * i + k) + p) < 2147483648 := by omega
    rw [r_H_eatenIn_7, ← ih (k + 1) (some (.ref (Z.2 (N 41 (6 * i + k) + 1000)))) (by omega) (by omega) am_c1_r]
    simp only [r_H_eatenIn_9, r_H_eatenIn_10, r_H_eatenIn_13, r_H_eatenIn_16, r_H_eatenIn_18, r_H_eatenIn_20, r_H_eatenIn_23, r_H_eatenIn_24, r_H_eatenIn_25, r_H_eatenIn_28, r_H_eatenIn_30, r_H_eatenIn_31, r_H_eatenIn_34, r_H_eatenIn_34_k, r_H_eatenIn_36, r_H_eatenIn_38, r_H_eatenIn_41, r_H_eatenIn_42, r_H_eatenIn_43, r_H_eatenIn_46, r_H_eatenIn_48, r_H_eatenIn_49, r_H_eatenIn_50, r_H_eatenIn_52, r_H_eatenIn_53, r_H_eatenIn_56, r_H_eatenIn_57, r_H_eatenIn_58, r_H_eatenIn_59, r_H_eatenIn_59_k, r_H_eatenIn_60, r_H_eatenIn_60_k, r_H_eatenIn_63, r_H_eatenIn_66, r_H_eatenIn_67, ly_k0, i3n_0, i3n_1, i3n_6, l6n_0, l6n_1, l6n_100, am_kf_s, am_km_s, am_kn_s, am_k_v, am_k_0, am_isr_r, am_isr_n, am_isr_v, am_sw_0, am_sw_i, am_sw_l, am_sw_r, am_sw_n, am_sw_v, am_ct_i, am_ct_r, am_ct_n, am_c1_o, am_c1_n, am_c1_i, am_c1_r, am_c1_v, am_mk_1, lc_lt, lc_gt, lc_eq, lc_le, lc_ge, i01_eq, i01_ok, ite_not, true_or, or_true, true_and, and_true, false_or, or_false, false_and, and_false, if_true, if_false, not_true_eq_false, not_false_eq_true, eq_self, Nat.reduceAdd, Nat.reduceLeDiff, Nat.reduceLT, Nat.reduceEqDiff, Nat.reduceMul, Nat.reduceSub, Nat.reduceDiv, Nat.reduceMod, reduceCtorEq, Nat.zero_le, i3_le, i3_lt, i3_eq, i3_eqN, i3_leN, i3_Nle, i3_ltN, i3_NleN, i3_NeqN, i3_Neq, i3_NltN, i3_Nlt, l6_le, l6_lt, l6_eq, l6_leN, l6_Nle, l6_ltN, l6_Nlt, l6_eqN, l6_Neq, hw, g5, g3, g4, va_rf_s, b0, b1, b2, b4, v3, v4, x_H_stuffAt h a3, k1, x_Su_eatsBy h a3 hp, i3_long, f1, f2, l6_mul, l6_add, i3_add]
    rfl
theorem x_H_eatenIn (h : rl G N x Z C R D) {i p : Nat} (hi : i < N 31 17) (hp : p < 3) : am_ex G (d + 2) K_H_eatenIn [.ref x, .ref (Z.2 (i + 2000)), .int (Int32.ofNat p)] (am_mk x true Z C L R D) = some (some (.long (Int64.ofNat (mE N i p))), am_mk x true Z C L R D) := by
  have hl := l_H_eatenIn (G := G) (d := d) (L := L) h hi hp (N 40 i - 0) 0 none rfl (Nat.zero_le _) am_c1_o
  rw [show mEt N i p 0 = 100 from rfl] at hl
  simp only [e_H_eatenIn, r_H_eatenIn_0, r_H_eatenIn_3, r_H_eatenIn_3_k, r_H_eatenIn_4, r_H_eatenIn_5, r_H_eatenIn_5_k, r_H_eatenIn_9, r_H_eatenIn_10, r_H_eatenIn_13, r_H_eatenIn_16, r_H_eatenIn_18, r_H_eatenIn_20, r_H_eatenIn_23, r_H_eatenIn_24, r_H_eatenIn_25, r_H_eatenIn_28, r_H_eatenIn_30, r_H_eatenIn_31, r_H_eatenIn_34, r_H_eatenIn_34_k, r_H_eatenIn_36, r_H_eatenIn_38, r_H_eatenIn_41, r_H_eatenIn_42, r_H_eatenIn_43, r_H_eatenIn_46, r_H_eatenIn_48, r_H_eatenIn_49, r_H_eatenIn_50, r_H_eatenIn_52, r_H_eatenIn_53, r_H_eatenIn_56, r_H_eatenIn_57, r_H_eatenIn_58, r_H_eatenIn_59, r_H_eatenIn_59_k, r_H_eatenIn_60, r_H_eatenIn_60_k, r_H_eatenIn_63, r_H_eatenIn_66, r_H_eatenIn_67, ly_k0, i3n_0, i3n_1, i3n_6, l6n_0, l6n_1, l6n_100, am_kf_s, am_km_s, am_kn_s, am_k_v, am_k_0, am_isr_r, am_isr_n, am_isr_v, am_sw_0, am_sw_i, am_sw_l, am_sw_r, am_sw_n, am_sw_v, am_ct_i, am_ct_r, am_ct_n, am_c1_o, am_c1_n, am_c1_i, am_c1_r, am_c1_v, am_mk_1, lc_lt, lc_gt, lc_eq, lc_le, lc_ge, i01_eq, i01_ok, ite_not, true_or, or_true, true_and, and_true, false_or, or_false, false_and, and_false, if_true, if_false, not_true_eq_false, not_false_eq_true, eq_self, Nat.reduceAdd, Nat.reduceLeDiff, Nat.reduceLT, Nat.reduceEqDiff, Nat.reduceMul, Nat.reduceSub, Nat.reduceDiv, Nat.reduceMod, reduceCtorEq, Nat.zero_le, i3_le, i3_lt, i3_eq, i3_eqN, i3_leN, i3_Nle, i3_ltN, i3_NleN, i3_NeqN, i3_Neq, i3_NltN, i3_Nlt, l6_le, l6_lt, l6_eq, l6_leN, l6_Nle, l6_ltN, l6_Nlt, l6_eqN, l6_Neq, hl]
theorem l_M_eatenIn (h : rl G N x Z C R D) {i p : Nat} (hi : i < N 31 17) (hp : p < 3) : ∀ (m k : Nat), N 40 i - k = m → k ≤ N 40 i → am_run G d K_M_eatenIn (7, [some (.ref (x + 31)), some (.int (Int32.ofNat i)), some (.int (Int32.ofNat p)), some (.long (Int64.ofNat (mEt N i p k))), none, some (.int (Int32.ofNat k))], [], am_mk x true Z C L R D) = some (some (.long (Int64.ofNat (mE N i p))), am_mk x true Z C L R D) := by
  obtain ⟨-, -, -, -, -, -, -, -, -, -, -, hN, hk⟩ := h.2.2.1 i hi
  have h6 := h.1.2.1.2.2
  have n1 := hN.2.1
  have n6 := hN.2.2
  have b0 : N 40 i < 2147483648 := by omega
  have i6 : i < 6 := by omega
  intro m
  induction m with
  | zero =>
    intro k hm hkn
    have : k = N 40 i := by omega
    subst this
    rw [r_M_eatenIn_7]
    simp only [r_M_eatenIn_9, r_M_eatenIn_10, r_M_eatenIn_13, r_M_eatenIn_14, r_M_eatenIn_15, r_M_eatenIn_18, r_M_eatenIn_19, r_M_eatenIn_20, r_M_eatenIn_23, r_M_eatenIn_25, r_M_eatenIn_26, r_M_eatenIn_27, r_M_eatenIn_29, r_M_eatenIn_30, r_M_eatenIn_31, r_M_eatenIn_32, r_M_eatenIn_33, r_M_eatenIn_36, r_M_eatenIn_37, r_M_eatenIn_38, r_M_eatenIn_41, r_M_eatenIn_43, r_M_eatenIn_44, r_M_eatenIn_45, r_M_eatenIn_47, r_M_eatenIn_48, r_M_eatenIn_49, r_M_eatenIn_50, r_M_eatenIn_51, r_M_eatenIn_52, r_M_eatenIn_53, r_M_eatenIn_54, r_M_eatenIn_55, r_M_eatenIn_56, r_M_eatenIn_56_k, r_M_eatenIn_57, r_M_eatenIn_57_k, r_M_eatenIn_60, r_M_eatenIn_63, r_M_eatenIn_64, ly_g31_18, ly_n40, ly_r40, ly_w40, ly_g31_20, ly_n42, ly_r42, ly_w42, ly_g31_11, ly_n35, ly_r35, ly_w35, ly_g31_19, ly_n41, ly_r41, ly_w41, i3n_0, i3n_1, i3n_3, i3n_6, l6n_0, l6n_1, l6n_100, am_kf_s, am_km_s, am_kn_s, am_k_v, am_k_0, am_isr_r, am_isr_n, am_isr_v, am_sw_0, am_sw_i, am_sw_l, am_sw_r, am_sw_n, am_sw_v, am_ct_i, am_ct_r, am_ct_n, am_c1_o, am_c1_n, am_c1_i, am_c1_r, am_c1_v, am_mk_1, lc_lt, lc_gt, lc_eq, lc_le, lc_ge, i01_eq, i01_ok, ite_not, true_or, or_true, true_and, and_true, false_or, or_false, false_and, and_false, if_true, if_false, not_true_eq_false, not_false_eq_true, eq_self, Nat.reduceAdd, Nat.reduceLeDiff, Nat.reduceLT, Nat.reduceEqDiff, Nat.reduceMul, Nat.reduceSub, Nat.reduceDiv, Nat.reduceMod, reduceCtorEq, Nat.zero_le, i3_le, i3_lt, i3_eq, i3_eqN, i3_leN, i3_Nle, i3_ltN, i3_NleN, i3_NeqN, i3_Neq, i3_NltN, i3_Nlt, l6_le, l6_lt, l6_eq, l6_leN, l6_Nle, l6_ltN, l6_Nlt, l6_eqN, l6_Neq, n1, b0, i6, Nat.le_refl]
    rfl
  | succ m ih =>
    intro k hm hkn
    have hlt : k < N 40 i := by omega
    obtain ⟨⟨-, c1, a3⟩, -, c2, b3⟩ := hk k hlt
    obtain ⟨e1, e2⟩ := (h.2.1 _ a3).2.2.1 p hp
    have s8 := h.1.1.2.2
    have b1 : k < 2147483648 := by omega
    have b2 : ¬ N 40 i ≤ k := by omega
    have b4 : 6 * i + k < 36 := by omega
    have b5 : 3 * N 41 (6 * i + k) + p < 24 := by omega
    have f1 : N 42 (6 * i + k) < 2147483648 := by omega
    have f2 : N 35 (3 * N 41 (6 * i + k) + p) < 2147483648 := by omega
    rw [r_M_eatenIn_7, ← ih (k + 1) (by omega) (by omega)]
    simp only [r_M_eatenIn_9, r_M_eatenIn_10, r_M_eatenIn_13, r_M_eatenIn_14, r_M_eatenIn_15, r_M_eatenIn_18, r_M_eatenIn_19, r_M_eatenIn_20, r_M_eatenIn_23, r_M_eatenIn_25, r_M_eatenIn_26, r_M_eatenIn_27, r_M_eatenIn_29, r_M_eatenIn_30, r_M_eatenIn_31, r_M_eatenIn_32, r_M_eatenIn_33, r_M_eatenIn_36, r_M_eatenIn_37, r_M_eatenIn_38, r_M_eatenIn_41, r_M_eatenIn_43, r_M_eatenIn_44, r_M_eatenIn_45, r_M_eatenIn_47, r_M_eatenIn_48, r_M_eatenIn_49, r_M_eatenIn_50, r_M_eatenIn_51, r_M_eatenIn_52, r_M_eatenIn_53, r_M_eatenIn_54, r_M_eatenIn_55, r_M_eatenIn_56, r_M_eatenIn_56_k, r_M_eatenIn_57, r_M_eatenIn_57_k, r_M_eatenIn_60, r_M_eatenIn_63, r_M_eatenIn_64, ly_g31_18, ly_n40, ly_r40, ly_w40, ly_g31_20, ly_n42, ly_r42, ly_w42, ly_g31_11, ly_n35, ly_r35, ly_w35, ly_g31_19, ly_n41, ly_r41, ly_w41, i3n_0, i3n_1, i3n_3, i3n_6, l6n_0, l6n_1, l6n_100, am_kf_s, am_km_s, am_kn_s, am_k_v, am_k_0, am_isr_r, am_isr_n, am_isr_v, am_sw_0, am_sw_i, am_sw_l, am_sw_r, am_sw_n, am_sw_v, am_ct_i, am_ct_r, am_ct_n, am_c1_o, am_c1_n, am_c1_i, am_c1_r, am_c1_v, am_mk_1, lc_lt, lc_gt, lc_eq, lc_le, lc_ge, i01_eq, i01_ok, ite_not, true_or, or_true, true_and, and_true, false_or, or_false, false_and, and_false, if_true, if_false, not_true_eq_false, not_false_eq_true, eq_self, Nat.reduceAdd, Nat.reduceLeDiff, Nat.reduceLT, Nat.reduceEqDiff, Nat.reduceMul, Nat.reduceSub, Nat.reduceDiv, Nat.reduceMod, reduceCtorEq, Nat.zero_le, i3_le, i3_lt, i3_eq, i3_eqN, i3_leN, i3_Nle, i3_ltN, i3_NleN, i3_NeqN, i3_Neq, i3_NltN, i3_Nlt, l6_le, l6_lt, l6_eq, l6_leN, l6_Nle, l6_ltN, l6_Nlt, l6_eqN, l6_Neq, n1, b0, b1, b2, b4, b5, i6, c1, c2, e1, i3_long, f1, f2, l6_mul, l6_add, i3_mul, i3_add]
    rfl
theorem x_M_eatenIn (h : rl G N x Z C R D) {i p : Nat} (hi : i < N 31 17) (hp : p < 3) : am_ex G (d + 1) K_M_eatenIn [.ref (x + 31), .int (Int32.ofNat i), .int (Int32.ofNat p)] (am_mk x true Z C L R D) = some (some (.long (Int64.ofNat (mE N i p))), am_mk x true Z C L R D) := by
  have hl := l_M_eatenIn (G := G) (d := d) (L := L) h hi hp (N 40 i - 0) 0 rfl (Nat.zero_le _)
  rw [show mEt N i p 0 = 100 from rfl] at hl
  simp only [e_M_eatenIn, r_M_eatenIn_0, r_M_eatenIn_3, r_M_eatenIn_3_k, r_M_eatenIn_4, r_M_eatenIn_5, r_M_eatenIn_5_k, r_M_eatenIn_9, r_M_eatenIn_10, r_M_eatenIn_13, r_M_eatenIn_14, r_M_eatenIn_15, r_M_eatenIn_18, r_M_eatenIn_19, r_M_eatenIn_20, r_M_eatenIn_23, r_M_eatenIn_25, r_M_eatenIn_26, r_M_eatenIn_27, r_M_eatenIn_29, r_M_eatenIn_30, r_M_eatenIn_31, r_M_eatenIn_32, r_M_eatenIn_33, r_M_eatenIn_36, r_M_eatenIn_37, r_M_eatenIn_38, r_M_eatenIn_41, r_M_eatenIn_43, r_M_eatenIn_44, r_M_eatenIn_45, r_M_eatenIn_47, r_M_eatenIn_48, r_M_eatenIn_49, r_M_eatenIn_50, r_M_eatenIn_51, r_M_eatenIn_52, r_M_eatenIn_53, r_M_eatenIn_54, r_M_eatenIn_55, r_M_eatenIn_56, r_M_eatenIn_56_k, r_M_eatenIn_57, r_M_eatenIn_57_k, r_M_eatenIn_60, r_M_eatenIn_63, r_M_eatenIn_64, ly_g31_18, ly_n40, ly_r40, ly_w40, ly_g31_20, ly_n42, ly_r42, ly_w42, ly_g31_11, ly_n35, ly_r35, ly_w35, ly_g31_19, ly_n41, ly_r41, ly_w41, i3n_0, i3n_1, i3n_3, i3n_6, l6n_0, l6n_1, l6n_100, am_kf_s, am_km_s, am_kn_s, am_k_v, am_k_0, am_isr_r, am_isr_n, am_isr_v, am_sw_0, am_sw_i, am_sw_l, am_sw_r, am_sw_n, am_sw_v, am_ct_i, am_ct_r, am_ct_n, am_c1_o, am_c1_n, am_c1_i, am_c1_r, am_c1_v, am_mk_1, lc_lt, lc_gt, lc_eq, lc_le, lc_ge, i01_eq, i01_ok, ite_not, true_or, or_true, true_and, and_true, false_or, or_false, false_and, and_false, if_true, if_false, not_true_eq_false, not_false_eq_true, eq_self, Nat.reduceAdd, Nat.reduceLeDiff, Nat.reduceLT, Nat.reduceEqDiff, Nat.reduceMul, Nat.reduceSub, Nat.reduceDiv, Nat.reduceMod, reduceCtorEq, Nat.zero_le, i3_le, i3_lt, i3_eq, i3_eqN, i3_leN, i3_Nle, i3_ltN, i3_NleN, i3_NeqN, i3_Neq, i3_NltN, i3_Nlt, l6_le, l6_lt, l6_eq, l6_leN, l6_Nle, l6_ltN, l6_Nlt, l6_eqN, l6_Neq, hl]
theorem x_H_quotient {a b : Int64} {M : am_M} (hb : ¬ b = Int64.ofNat 0) : am_ex G (d + 1) K_H_quotient [.long a, .long b] M = some (some (.long (a / b)), M) := by
  have hb0 : ¬ b = 0 := hb
  simp only [e_H_quotient, r_H_quotient_0, r_H_quotient_1, r_H_quotient_2, r_H_quotient_3, r_H_quotient_6, r_H_quotient_7, r_H_quotient_10, r_H_quotient_11, r_H_quotient_12, r_H_quotient_13, i3n_0, i3n_1, l6n_0, l6n_1, am_kf_s, am_km_s, am_kn_s, am_k_v, am_k_0, am_isr_r, am_isr_n, am_isr_v, am_sw_0, am_sw_i, am_sw_l, am_sw_r, am_sw_n, am_sw_v, am_ct_i, am_ct_r, am_ct_n, am_c1_o, am_c1_n, am_c1_i, am_c1_r, am_c1_v, am_mk_1, lc_lt, lc_gt, lc_eq, lc_le, lc_ge, i01_eq, i01_ok, ite_not, true_or, or_true, true_and, and_true, false_or, or_false, false_and, and_false, if_true, if_false, not_true_eq_false, not_false_eq_true, eq_self, Nat.reduceAdd, Nat.reduceLeDiff, Nat.reduceLT, Nat.reduceEqDiff, Nat.reduceMul, Nat.reduceSub, Nat.reduceDiv, Nat.reduceMod, reduceCtorEq, Nat.zero_le, i3_le, i3_lt, i3_eq, i3_eqN, i3_leN, i3_Nle, i3_ltN, i3_NleN, i3_NeqN, i3_Neq, i3_NltN, i3_Nlt, l6_le, l6_lt, l6_eq, l6_leN, l6_Nle, l6_ltN, l6_Nlt, l6_eqN, l6_Neq, hb]
/-- TIME of a size by a LAW and what is EATEN -/
def mT (size law eaten : Nat) : Nat := size * 100 * law / eaten
theorem x_Ha_room (h : rl G N x Z C R D) {i : Nat} (hi : i < N 31 17) : am_ex G (d + 1) K_Ha_room [.ref (Z.2 (i + 2000))] (am_mk x true Z C L R D) = some (some (.long (Int64.ofNat (N 37 i * 100))), am_mk x true Z C L R D) := by
  obtain ⟨-, h2, -, -, -, -, -, -, hs, -⟩ := h.2.2.1 i hi
  have g0 := ly_dg2_0 (C := C) (L := L) (R := R) (D := D) h2
  rw [hs.1] at g0
  have b1 : N 37 i < 2147483648 := by omega
  simp only [e_Ha_room, r_Ha_room_0, r_Ha_room_1, r_Ha_room_4, r_Ha_room_5, r_Ha_room_8, r_Ha_room_9, i3n_0, i3n_1, l6n_0, l6n_1, l6n_100, am_kf_s, am_km_s, am_kn_s, am_k_v, am_k_0, am_isr_r, am_isr_n, am_isr_v, am_sw_0, am_sw_i, am_sw_l, am_sw_r, am_sw_n, am_sw_v, am_ct_i, am_ct_r, am_ct_n, am_c1_o, am_c1_n, am_c1_i, am_c1_r, am_c1_v, am_mk_1, lc_lt, lc_gt, lc_eq, lc_le, lc_ge, i01_eq, i01_ok, ite_not, true_or, or_true, true_and, and_true, false_or, or_false, false_and, and_false, if_true, if_false, not_true_eq_false, not_false_eq_true, eq_self, Nat.reduceAdd, Nat.reduceLeDiff, Nat.reduceLT, Nat.reduceEqDiff, Nat.reduceMul, Nat.reduceSub, Nat.reduceDiv, Nat.reduceMod, reduceCtorEq, Nat.zero_le, i3_le, i3_lt, i3_eq, i3_eqN, i3_leN, i3_Nle, i3_ltN, i3_NleN, i3_NeqN, i3_Neq, i3_NltN, i3_Nlt, l6_le, l6_lt, l6_eq, l6_leN, l6_Nle, l6_ltN, l6_Nlt, l6_eqN, l6_Neq, g0, i3_long, b1, l6_mul]
theorem l6_ne0 {e : Nat} (h1 : 0 < e) (h2 : e < 9223372036854775808) : ¬ Int64.ofNat e = Int64.ofNat 0 := by
  rw [l6_eq h2 (by decide)]
  omega
theorem x_H_timeOf (h : rl G N x Z C R D) {i law e : Nat} (hi : i < N 31 17) (hl : law ≤ 999) (he : 0 < e) (he2 : e < 9223372036854775808) : am_ex G (d + 2) K_H_timeOf [.ref (Z.2 (i + 2000)), .int (Int32.ofNat law), .long (Int64.ofNat e)] (am_mk x true Z C L R D) = some (some (.long (Int64.ofNat (mT (N 37 i) law e))), am_mk x true Z C L R D) := by
  obtain ⟨-, h2, -, -, -, -, -, -, hs, -⟩ := h.2.2.1 i hi
  have k2 := ly_dk2 (C := C) (L := L) (R := R) (D := D) h2
  have b1 : law < 2147483648 := by omega
  have b3 : N 37 i * 100 * law ≤ 9999900 * 999 := Nat.mul_le_mul (by omega) hl
  have b2 : N 37 i * 100 * law < 9223372036854775808 := by omega
  simp only [e_H_timeOf, r_H_timeOf_0, r_H_timeOf_1, r_H_timeOf_4, r_H_timeOf_5, r_H_timeOf_6, r_H_timeOf_7, r_H_timeOf_8, r_H_timeOf_11, i3n_0, i3n_1, l6n_0, l6n_1, am_kf_s, am_km_s, am_kn_s, am_k_v, am_k_0, am_isr_r, am_isr_n, am_isr_v, am_sw_0, am_sw_i, am_sw_l, am_sw_r, am_sw_n, am_sw_v, am_ct_i, am_ct_r, am_ct_n, am_c1_o, am_c1_n, am_c1_i, am_c1_r, am_c1_v, am_mk_1, lc_lt, lc_gt, lc_eq, lc_le, lc_ge, i01_eq, i01_ok, ite_not, true_or, or_true, true_and, and_true, false_or, or_false, false_and, and_false, if_true, if_false, not_true_eq_false, not_false_eq_true, eq_self, Nat.reduceAdd, Nat.reduceLeDiff, Nat.reduceLT, Nat.reduceEqDiff, Nat.reduceMul, Nat.reduceSub, Nat.reduceDiv, Nat.reduceMod, reduceCtorEq, Nat.zero_le, i3_le, i3_lt, i3_eq, i3_eqN, i3_leN, i3_Nle, i3_ltN, i3_NleN, i3_NeqN, i3_Neq, i3_NltN, i3_Nlt, l6_le, l6_lt, l6_eq, l6_leN, l6_Nle, l6_ltN, l6_Nlt, l6_eqN, l6_Neq, k2, x_Ha_room h hi, i3_long, b1, l6_mul, x_H_quotient (l6_ne0 he he2), l6_div, b2, he2]
  rfl
theorem x_M_timeBy {size law e : Nat} {M : am_M} (hs : size ≤ 99999) (hl : law ≤ 999) (he : 0 < e) (he2 : e < 9223372036854775808) : am_ex G (d + 1) K_M_timeBy [.long (Int64.ofNat size), .long (Int64.ofNat law), .long (Int64.ofNat e)] M = some (some (.long (Int64.ofNat (mT size law e))), M) := by
  have b3 : size * 100 * law ≤ 9999900 * 999 := Nat.mul_le_mul (by omega) hl
  have b2 : size * 100 * law < 9223372036854775808 := by omega
  have b4 : ¬ Int64.ofNat e = 0 := l6_ne0 he he2
  have b5 : ¬ Int64.ofNat e = Int64.ofNat 0 := l6_ne0 he he2
  simp only [e_M_timeBy, r_M_timeBy_0, r_M_timeBy_1, r_M_timeBy_4, r_M_timeBy_5, r_M_timeBy_6, r_M_timeBy_7, r_M_timeBy_9, r_M_timeBy_10, i3n_0, i3n_1, l6n_0, l6n_1, l6n_100, am_kf_s, am_km_s, am_kn_s, am_k_v, am_k_0, am_isr_r, am_isr_n, am_isr_v, am_sw_0, am_sw_i, am_sw_l, am_sw_r, am_sw_n, am_sw_v, am_ct_i, am_ct_r, am_ct_n, am_c1_o, am_c1_n, am_c1_i, am_c1_r, am_c1_v, am_mk_1, lc_lt, lc_gt, lc_eq, lc_le, lc_ge, i01_eq, i01_ok, ite_not, true_or, or_true, true_and, and_true, false_or, or_false, false_and, and_false, if_true, if_false, not_true_eq_false, not_false_eq_true, eq_self, Nat.reduceAdd, Nat.reduceLeDiff, Nat.reduceLT, Nat.reduceEqDiff, Nat.reduceMul, Nat.reduceSub, Nat.reduceDiv, Nat.reduceMod, reduceCtorEq, Nat.zero_le, i3_le, i3_lt, i3_eq, i3_eqN, i3_leN, i3_Nle, i3_ltN, i3_NleN, i3_NeqN, i3_Neq, i3_NltN, i3_Nlt, l6_le, l6_lt, l6_eq, l6_leN, l6_Nle, l6_ltN, l6_Nlt, l6_eqN, l6_Neq, l6_mul, b5, l6_div, b2, he2]
  rfl
end
