/-! the class's TOKENS -/
def tp_B (b : Nat → Nat) (n : Nat) (C : Nat → Nat → Int32) : Prop := C 7 1 = Int32.ofNat n ∧ n ≤ 160 ∧ (∀ j, j < n → b j < 256) ∧ ∀ j, j < n → C 8 j = Int32.ofNat (b j)
theorem tp_ux {b : Nat → Nat} {n : Nat} {C : Nat → Nat → Int32} {k j : Nat} {v : Int32} (h : tp_B b n C) (hj : ¬ (k = 7 ∧ j = 1)) (hk : ¬ k = 8) : tp_B b n (ux C k j v) := by
  obtain ⟨h1, h2, h3, h4⟩ := h
  refine ⟨?_, h2, h3, fun i hi => ?_⟩
  · rw [ux_eq, if_neg (fun e => hj ⟨e.1.symm, e.2.symm⟩)]; exact h1
  · rw [ux_eq, if_neg (fun e => hk e.1.symm)]; exact h4 i hi
section
variable {G : Nat → Value} {d x : Nat} {bb : Bool} {Z : ly_Z} {C : Nat → Nat → Int32} {L : Nat → Nat → Int64} {R : Nat → Nat → Option Nat} {D : am_M} {b : Nat → Nat} {n : Nat}
theorem x_Ta_byteAt (h : tp_B b n C) {p : Nat} (hp : p < n) : am_ex G (d + 1) K_Ta_byteAt [.ref (x + 7), .int (Int32.ofNat p)] (am_mk x bb Z C L R D) = some (some (.int (Int32.ofNat (b p))), am_mk x bb Z C L R D) := by
  obtain ⟨h1, h2, h3, h4⟩ := h
  have a1 : p < 2147483648 := by omega
  have a2 : n < 2147483648 := by omega
  have a3 : p < 160 := by omega
  have a4 : ¬ n ≤ p := by omega
  have a5 : ¬ 160 ≤ p := by omega
  have a6 : ¬ p < 0 := by omega
  simp only [e_Ta_byteAt, r_Ta_byteAt_0, r_Ta_byteAt_1, r_Ta_byteAt_4, r_Ta_byteAt_5, r_Ta_byteAt_6, r_Ta_byteAt_9, r_Ta_byteAt_12, r_Ta_byteAt_13, r_Ta_byteAt_14, r_Ta_byteAt_17, r_Ta_byteAt_18, r_Ta_byteAt_21, r_Ta_byteAt_22, r_Ta_byteAt_25, r_Ta_byteAt_26, r_Ta_byteAt_27, r_Ta_byteAt_30, r_Ta_byteAt_31, ly_g7_1, ly_g7_0, ly_n8, ly_r8, ly_w8, i3n_0, i3n_1, l6n_0, l6n_1, am_kf_s, am_km_s, am_kn_s, am_k_v, am_k_0, am_isr_r, am_isr_n, am_isr_v, am_sw_0, am_sw_i, am_sw_l, am_sw_r, am_sw_n, am_sw_v, am_ct_i, am_ct_r, am_ct_n, am_c1_o, am_c1_n, am_c1_i, am_c1_r, am_c1_v, am_mk_1, lc_lt, lc_gt, lc_eq, lc_le, lc_ge, i01_eq, i01_ok, ite_not, true_or, or_true, true_and, and_true, false_or, or_false, false_and, and_false, if_true, if_false, not_true_eq_false, not_false_eq_true, eq_self, Nat.reduceAdd, Nat.reduceLeDiff, Nat.reduceLT, Nat.reduceEqDiff, Nat.reduceMul, Nat.reduceSub, Nat.reduceDiv, Nat.reduceMod, reduceCtorEq, Nat.zero_le, i3_le, i3_lt, i3_eq, i3_eqN, i3_leN, i3_Nle, i3_ltN, i3_NleN, i3_NeqN, i3_Neq, i3_NltN, i3_Nlt, l6_le, l6_lt, l6_eq, l6_leN, l6_Nle, l6_ltN, l6_Nlt, l6_eqN, l6_Neq, h1, h4 p hp, a1, a2, a3, a4, a5, a6]
theorem x_Ta_byteAt_o (h : tp_B b n C) {p : Nat} (hp : n ≤ p) (hp2 : p < 2147483648) : am_ex G (d + 1) K_Ta_byteAt [.ref (x + 7), .int (Int32.ofNat p)] (am_mk x bb Z C L R D) = some (some (.int (-Int32.ofNat 1)), am_mk x bb Z C L R D) := by
  obtain ⟨h1, h2, h3, h4⟩ := h
  have a2 : n < 2147483648 := by omega
  have a6 : ¬ p < 0 := by omega
  simp only [e_Ta_byteAt, r_Ta_byteAt_0, r_Ta_byteAt_1, r_Ta_byteAt_4, r_Ta_byteAt_5, r_Ta_byteAt_6, r_Ta_byteAt_9, r_Ta_byteAt_12, r_Ta_byteAt_13, r_Ta_byteAt_14, r_Ta_byteAt_17, r_Ta_byteAt_18, r_Ta_byteAt_21, r_Ta_byteAt_22, r_Ta_byteAt_25, r_Ta_byteAt_26, r_Ta_byteAt_27, r_Ta_byteAt_30, r_Ta_byteAt_31, ly_g7_1, ly_g7_0, ly_n8, ly_r8, ly_w8, i3n_0, i3n_1, l6n_0, l6n_1, am_kf_s, am_km_s, am_kn_s, am_k_v, am_k_0, am_isr_r, am_isr_n, am_isr_v, am_sw_0, am_sw_i, am_sw_l, am_sw_r, am_sw_n, am_sw_v, am_ct_i, am_ct_r, am_ct_n, am_c1_o, am_c1_n, am_c1_i, am_c1_r, am_c1_v, am_mk_1, lc_lt, lc_gt, lc_eq, lc_le, lc_ge, i01_eq, i01_ok, ite_not, true_or, or_true, true_and, and_true, false_or, or_false, false_and, and_false, if_true, if_false, not_true_eq_false, not_false_eq_true, eq_self, Nat.reduceAdd, Nat.reduceLeDiff, Nat.reduceLT, Nat.reduceEqDiff, Nat.reduceMul, Nat.reduceSub, Nat.reduceDiv, Nat.reduceMod, reduceCtorEq, Nat.zero_le, i3_le, i3_lt, i3_eq, i3_eqN, i3_leN, i3_Nle, i3_ltN, i3_NleN, i3_NeqN, i3_Neq, i3_NltN, i3_Nlt, l6_le, l6_lt, l6_eq, l6_leN, l6_Nle, l6_ltN, l6_Nlt, l6_eqN, l6_Neq, h1, hp, hp2, a2, a6]
theorem x_Ta_isLetter {c : Nat} (hc : c < 2147483648) {M : am_M} : am_ex G (d + 1) K_Ta_isLetter [.int (Int32.ofNat c)] M = some (some (.int (if 97 ≤ c ∧ c ≤ 122 then Int32.ofNat 1 else Int32.ofNat 0)), M) := by
  simp only [e_Ta_isLetter, r_Ta_isLetter_0, r_Ta_isLetter_1, r_Ta_isLetter_3, r_Ta_isLetter_6, r_Ta_isLetter_7, r_Ta_isLetter_9, r_Ta_isLetter_12, r_Ta_isLetter_13, r_Ta_isLetter_16, r_Ta_isLetter_17, i3n_0, i3n_1, i3n_97, i3n_122, l6n_0, l6n_1, am_kf_s, am_km_s, am_kn_s, am_k_v, am_k_0, am_isr_r, am_isr_n, am_isr_v, am_sw_0, am_sw_i, am_sw_l, am_sw_r, am_sw_n, am_sw_v, am_ct_i, am_ct_r, am_ct_n, am_c1_o, am_c1_n, am_c1_i, am_c1_r, am_c1_v, am_mk_1, lc_lt, lc_gt, lc_eq, lc_le, lc_ge, i01_eq, i01_ok, ite_not, true_or, or_true, true_and, and_true, false_or, or_false, false_and, and_false, if_true, if_false, not_true_eq_false, not_false_eq_true, eq_self, Nat.reduceAdd, Nat.reduceLeDiff, Nat.reduceLT, Nat.reduceEqDiff, Nat.reduceMul, Nat.reduceSub, Nat.reduceDiv, Nat.reduceMod, reduceCtorEq, Nat.zero_le, i3_le, i3_lt, i3_eq, i3_eqN, i3_leN, i3_Nle, i3_ltN, i3_NleN, i3_NeqN, i3_Neq, i3_NltN, i3_Nlt, l6_le, l6_lt, l6_eq, l6_leN, l6_Nle, l6_ltN, l6_Nlt, l6_eqN, l6_Neq, hc]
  by_cases h1 : c < 97
  · have : ¬ (97 ≤ c ∧ c ≤ 122) := by omega
    simp only [h1, this, if_true, if_false]
  · by_cases h2 : 122 < c
    · have : ¬ (97 ≤ c ∧ c ≤ 122) := by omega
      simp only [h1, h2, this, if_true, if_false]
    · have : 97 ≤ c ∧ c ≤ 122 := by omega
      simp only [h1, h2, this, if_true, if_false, and_self]
theorem x_Ta_isDigit {c : Nat} (hc : c < 2147483648) {M : am_M} : am_ex G (d + 1) K_Ta_isDigit [.int (Int32.ofNat c)] M = some (some (.int (if 48 ≤ c ∧ c ≤ 57 then Int32.ofNat 1 else Int32.ofNat 0)), M) := by
  simp only [e_Ta_isDigit, r_Ta_isDigit_0, r_Ta_isDigit_1, r_Ta_isDigit_3, r_Ta_isDigit_6, r_Ta_isDigit_7, r_Ta_isDigit_9, r_Ta_isDigit_12, r_Ta_isDigit_13, r_Ta_isDigit_16, r_Ta_isDigit_17, i3n_0, i3n_1, i3n_48, i3n_57, l6n_0, l6n_1, am_kf_s, am_km_s, am_kn_s, am_k_v, am_k_0, am_isr_r, am_isr_n, am_isr_v, am_sw_0, am_sw_i, am_sw_l, am_sw_r, am_sw_n, am_sw_v, am_ct_i, am_ct_r, am_ct_n, am_c1_o, am_c1_n, am_c1_i, am_c1_r, am_c1_v, am_mk_1, lc_lt, lc_gt, lc_eq, lc_le, lc_ge, i01_eq, i01_ok, ite_not, true_or, or_true, true_and, and_true, false_or, or_false, false_and, and_false, if_true, if_false, not_true_eq_false, not_false_eq_true, eq_self, Nat.reduceAdd, Nat.reduceLeDiff, Nat.reduceLT, Nat.reduceEqDiff, Nat.reduceMul, Nat.reduceSub, Nat.reduceDiv, Nat.reduceMod, reduceCtorEq, Nat.zero_le, i3_le, i3_lt, i3_eq, i3_eqN, i3_leN, i3_Nle, i3_ltN, i3_NleN, i3_NeqN, i3_Neq, i3_NltN, i3_Nlt, l6_le, l6_lt, l6_eq, l6_leN, l6_Nle, l6_ltN, l6_Nlt, l6_eqN, l6_Neq, hc]
  by_cases h1 : c < 48
  · have : ¬ (48 ≤ c ∧ c ≤ 57) := by omega
    simp only [h1, this, if_true, if_false]
  · by_cases h2 : 57 < c
    · have : ¬ (48 ≤ c ∧ c ≤ 57) := by omega
      simp only [h1, h2, this, if_true, if_false]
    · have : 48 ≤ c ∧ c ≤ 57 := by omega
      simp only [h1, h2, this, if_true, if_false, and_self]
theorem l_Ta_step (h : tp_B b n C) {st : Option Value} : ∀ k p : Nat, n - p = k → p ≤ n → am_run G (d + 1) K_Ta_step (0, [some (.ref (x + 7)), st], [], am_mk x bb Z (ux C 7 2 (Int32.ofNat p)) L R D) = am_run G (d + 1) K_Ta_step (50, [some (.ref (x + 7)), st], [], am_mk x bb Z (ux C 7 2 (Int32.ofNat (pa_sk b n p))) L R D) := by
  intro k
  have hn := h.2.1
  have hz : n < 2147483648 := by omega
  have h1 : ∀ v, (ux C 7 2 v) 7 1 = Int32.ofNat n := fun v => (tp_ux h (by decide) (by decide)).1
  induction k with
  | zero =>
    intro p hk hp
    have : p = n := by omega
    subst this
    have e : ¬ (p < p ∧ pa_bl b p = true) := by omega
    rw [pa_sk, pa_end_n e]
    rw [r_Ta_step_0 am_isr_r]
    simp only [r_Ta_step_1, r_Ta_step_4, r_Ta_step_5, r_Ta_step_8, r_Ta_step_11, r_Ta_step_12, r_Ta_step_13, r_Ta_step_16, r_Ta_step_19, r_Ta_step_21, r_Ta_step_24, r_Ta_step_25, r_Ta_step_26, r_Ta_step_29, r_Ta_step_32, r_Ta_step_34, r_Ta_step_37, r_Ta_step_38, r_Ta_step_39, r_Ta_step_42, r_Ta_step_43, r_Ta_step_44, r_Ta_step_47, ly_g7_2, ly_g7_1, ly_k7, ly_p7_2, ly_g7_4, ly_p7_4, ly_g7_3, ly_p7_3, i3n_0, i3n_1, i3n_2, i3n_10, i3n_32, l6n_0, l6n_1, am_kf_s, am_km_s, am_kn_s, am_k_v, am_k_0, am_isr_r, am_isr_n, am_isr_v, am_sw_0, am_sw_i, am_sw_l, am_sw_r, am_sw_n, am_sw_v, am_ct_i, am_ct_r, am_ct_n, am_c1_o, am_c1_n, am_c1_i, am_c1_r, am_c1_v, am_mk_1, lc_lt, lc_gt, lc_eq, lc_le, lc_ge, i01_eq, i01_ok, ite_not, true_or, or_true, true_and, and_true, false_or, or_false, false_and, and_false, if_true, if_false, not_true_eq_false, not_false_eq_true, eq_self, Nat.reduceAdd, Nat.reduceLeDiff, Nat.reduceLT, Nat.reduceEqDiff, Nat.reduceMul, Nat.reduceSub, Nat.reduceDiv, Nat.reduceMod, reduceCtorEq, Nat.zero_le, i3_le, i3_lt, i3_eq, i3_eqN, i3_leN, i3_Nle, i3_ltN, i3_NleN, i3_NeqN, i3_Neq, i3_NltN, i3_Nlt, l6_le, l6_lt, l6_eq, l6_leN, l6_Nle, l6_ltN, l6_Nlt, l6_eqN, l6_Neq, h1, hz, ux_eq, Nat.le_refl, and_self]
  | succ k ih =>
    intro p hk hp
    have hpn : p < n := by omega
    have a1 : p < 2147483648 := by omega
    have a3 : ¬ n ≤ p := by omega
    have hbp : b p < 2147483648 := by have := h.2.2.1 p hpn; omega
    have hB := x_Ta_byteAt (G := G) (d := d) (x := x) (bb := bb) (Z := Z) (L := L) (R := R) (D := D) (tp_ux (k := 7) (j := 2) (v := Int32.ofNat p) h (by decide) (by decide)) hpn
    by_cases hbl : pa_bl b p = true
    · have hq := of_decide_eq_true hbl
      rw [pa_sk, pa_end_y hpn hbl]
      have := ih (p + 1) (by omega) (by omega)
      rw [pa_sk] at this
      rw [← this]
      rcases hq with hq | hq
      · rw [r_Ta_step_0 am_isr_r]
        simp only [r_Ta_step_1, r_Ta_step_4, r_Ta_step_5, r_Ta_step_8, r_Ta_step_11, r_Ta_step_12, r_Ta_step_13, r_Ta_step_16, r_Ta_step_19, r_Ta_step_21, r_Ta_step_24, r_Ta_step_25, r_Ta_step_26, r_Ta_step_29, r_Ta_step_32, r_Ta_step_34, r_Ta_step_37, r_Ta_step_38, r_Ta_step_39, r_Ta_step_42, r_Ta_step_43, r_Ta_step_44, r_Ta_step_47, ly_g7_2, ly_g7_1, ly_k7, ly_p7_2, ly_g7_4, ly_p7_4, ly_g7_3, ly_p7_3, i3n_0, i3n_1, i3n_2, i3n_10, i3n_32, l6n_0, l6n_1, am_kf_s, am_km_s, am_kn_s, am_k_v, am_k_0, am_isr_r, am_isr_n, am_isr_v, am_sw_0, am_sw_i, am_sw_l, am_sw_r, am_sw_n, am_sw_v, am_ct_i, am_ct_r, am_ct_n, am_c1_o, am_c1_n, am_c1_i, am_c1_r, am_c1_v, am_mk_1, lc_lt, lc_gt, lc_eq, lc_le, lc_ge, i01_eq, i01_ok, ite_not, true_or, or_true, true_and, and_true, false_or, or_false, false_and, and_false, if_true, if_false, not_true_eq_false, not_false_eq_true, eq_self, Nat.reduceAdd, Nat.reduceLeDiff, Nat.reduceLT, Nat.reduceEqDiff, Nat.reduceMul, Nat.reduceSub, Nat.reduceDiv, Nat.reduceMod, reduceCtorEq, Nat.zero_le, i3_le, i3_lt, i3_eq, i3_eqN, i3_leN, i3_Nle, i3_ltN, i3_NleN, i3_NeqN, i3_Neq, i3_NltN, i3_Nlt, l6_le, l6_lt, l6_eq, l6_leN, l6_Nle, l6_ltN, l6_Nlt, l6_eqN, l6_Neq, h1, hz, a1, a3, ux_eq, and_self, hB, hbp, hq, i3_add]
        rw [ux_ux]
      · rw [r_Ta_step_0 am_isr_r]
        simp only [r_Ta_step_1, r_Ta_step_4, r_Ta_step_5, r_Ta_step_8, r_Ta_step_11, r_Ta_step_12, r_Ta_step_13, r_Ta_step_16, r_Ta_step_19, r_Ta_step_21, r_Ta_step_24, r_Ta_step_25, r_Ta_step_26, r_Ta_step_29, r_Ta_step_32, r_Ta_step_34, r_Ta_step_37, r_Ta_step_38, r_Ta_step_39, r_Ta_step_42, r_Ta_step_43, r_Ta_step_44, r_Ta_step_47, ly_g7_2, ly_g7_1, ly_k7, ly_p7_2, ly_g7_4, ly_p7_4, ly_g7_3, ly_p7_3, i3n_0, i3n_1, i3n_2, i3n_10, i3n_32, l6n_0, l6n_1, am_kf_s, am_km_s, am_kn_s, am_k_v, am_k_0, am_isr_r, am_isr_n, am_isr_v, am_sw_0, am_sw_i, am_sw_l, am_sw_r, am_sw_n, am_sw_v, am_ct_i, am_ct_r, am_ct_n, am_c1_o, am_c1_n, am_c1_i, am_c1_r, am_c1_v, am_mk_1, lc_lt, lc_gt, lc_eq, lc_le, lc_ge, i01_eq, i01_ok, ite_not, true_or, or_true, true_and, and_true, false_or, or_false, false_and, and_false, if_true, if_false, not_true_eq_false, not_false_eq_true, eq_self, Nat.reduceAdd, Nat.reduceLeDiff, Nat.reduceLT, Nat.reduceEqDiff, Nat.reduceMul, Nat.reduceSub, Nat.reduceDiv, Nat.reduceMod, reduceCtorEq, Nat.zero_le, i3_le, i3_lt, i3_eq, i3_eqN, i3_leN, i3_Nle, i3_ltN, i3_NleN, i3_NeqN, i3_Neq, i3_NltN, i3_Nlt, l6_le, l6_lt, l6_eq, l6_leN, l6_Nle, l6_ltN, l6_Nlt, l6_eqN, l6_Neq, h1, hz, a1, a3, ux_eq, and_self, hB, hbp, hq, i3_add]
        rw [ux_ux]
    · have hq : ¬ (b p = 32 ∨ b p = 10) := fun e => hbl (decide_eq_true e)
      have q1 : ¬ b p = 32 := fun e => hq (Or.inl e)
      have q2 : ¬ b p = 10 := fun e => hq (Or.inr e)
      rw [pa_sk, pa_end_n (fun e => hbl e.2)]
      rw [r_Ta_step_0 am_isr_r]
      simp only [r_Ta_step_1, r_Ta_step_4, r_Ta_step_5, r_Ta_step_8, r_Ta_step_11, r_Ta_step_12, r_Ta_step_13, r_Ta_step_16, r_Ta_step_19, r_Ta_step_21, r_Ta_step_24, r_Ta_step_25, r_Ta_step_26, r_Ta_step_29, r_Ta_step_32, r_Ta_step_34, r_Ta_step_37, r_Ta_step_38, r_Ta_step_39, r_Ta_step_42, r_Ta_step_43, r_Ta_step_44, r_Ta_step_47, ly_g7_2, ly_g7_1, ly_k7, ly_p7_2, ly_g7_4, ly_p7_4, ly_g7_3, ly_p7_3, i3n_0, i3n_1, i3n_2, i3n_10, i3n_32, l6n_0, l6n_1, am_kf_s, am_km_s, am_kn_s, am_k_v, am_k_0, am_isr_r, am_isr_n, am_isr_v, am_sw_0, am_sw_i, am_sw_l, am_sw_r, am_sw_n, am_sw_v, am_ct_i, am_ct_r, am_ct_n, am_c1_o, am_c1_n, am_c1_i, am_c1_r, am_c1_v, am_mk_1, lc_lt, lc_gt, lc_eq, lc_le, lc_ge, i01_eq, i01_ok, ite_not, true_or, or_true, true_and, and_true, false_or, or_false, false_and, and_false, if_true, if_false, not_true_eq_false, not_false_eq_true, eq_self, Nat.reduceAdd, Nat.reduceLeDiff, Nat.reduceLT, Nat.reduceEqDiff, Nat.reduceMul, Nat.reduceSub, Nat.reduceDiv, Nat.reduceMod, reduceCtorEq, Nat.zero_le, i3_le, i3_lt, i3_eq, i3_eqN, i3_leN, i3_Nle, i3_ltN, i3_NleN, i3_NeqN, i3_Neq, i3_NltN, i3_Nlt, l6_le, l6_lt, l6_eq, l6_leN, l6_Nle, l6_ltN, l6_Nlt, l6_eqN, l6_Neq, h1, hz, a1, a3, ux_eq, and_self, hB, hbp, q1, q2]
theorem l_Ta_readWord (h : tp_B b n C) {st : Option Value} : ∀ k p : Nat, n - p = k → p ≤ n → am_run G (d + 1) K_Ta_readWord (0, [some (.ref (x + 7)), st], [], am_mk x bb Z (ux C 7 2 (Int32.ofNat p)) L R D) = am_run G (d + 1) K_Ta_readWord (38, [some (.ref (x + 7)), st], [], am_mk x bb Z (ux C 7 2 (Int32.ofNat (pa_end (pa_lt b) n p))) L R D) := by
  intro k
  have hn := h.2.1
  have hz : n < 2147483648 := by omega
  have h1 : ∀ v, (ux C 7 2 v) 7 1 = Int32.ofNat n := fun v => (tp_ux h (by decide) (by decide)).1
  induction k with
  | zero =>
    intro p hk hp
    have : p = n := by omega
    subst this
    have e : ¬ (p < p ∧ pa_lt b p = true) := by omega
    rw [pa_end_n e]
    rw [r_Ta_readWord_0 am_isr_r]
    simp only [r_Ta_readWord_1, r_Ta_readWord_4, r_Ta_readWord_5, r_Ta_readWord_8, r_Ta_readWord_11, r_Ta_readWord_12, r_Ta_readWord_13, r_Ta_readWord_16, r_Ta_readWord_19, r_Ta_readWord_22, r_Ta_readWord_25, r_Ta_readWord_26, r_Ta_readWord_27, r_Ta_readWord_30, r_Ta_readWord_31, r_Ta_readWord_32, r_Ta_readWord_35, ly_g7_2, ly_g7_1, ly_k7, ly_p7_2, ly_g7_3, ly_p7_3, ly_g7_5, ly_p7_5, i3n_0, i3n_1, i3n_2, i3n_4, i3n_6, i3n_11, l6n_0, l6n_1, am_kf_s, am_km_s, am_kn_s, am_k_v, am_k_0, am_isr_r, am_isr_n, am_isr_v, am_sw_0, am_sw_i, am_sw_l, am_sw_r, am_sw_n, am_sw_v, am_ct_i, am_ct_r, am_ct_n, am_c1_o, am_c1_n, am_c1_i, am_c1_r, am_c1_v, am_mk_1, lc_lt, lc_gt, lc_eq, lc_le, lc_ge, i01_eq, i01_ok, ite_not, true_or, or_true, true_and, and_true, false_or, or_false, false_and, and_false, if_true, if_false, not_true_eq_false, not_false_eq_true, eq_self, Nat.reduceAdd, Nat.reduceLeDiff, Nat.reduceLT, Nat.reduceEqDiff, Nat.reduceMul, Nat.reduceSub, Nat.reduceDiv, Nat.reduceMod, reduceCtorEq, Nat.zero_le, i3_le, i3_lt, i3_eq, i3_eqN, i3_leN, i3_Nle, i3_ltN, i3_NleN, i3_NeqN, i3_Neq, i3_NltN, i3_Nlt, l6_le, l6_lt, l6_eq, l6_leN, l6_Nle, l6_ltN, l6_Nlt, l6_eqN, l6_Neq, h1, hz, ux_eq, Nat.le_refl, and_self]
  | succ k ih =>
    intro p hk hp
    have hpn : p < n := by omega
    have a1 : p < 2147483648 := by omega
    have a3 : ¬ n ≤ p := by omega
    have hbp : b p < 2147483648 := by have := h.2.2.1 p hpn; omega
    have hB := x_Ta_byteAt (G := G) (d := d) (x := x) (bb := bb) (Z := Z) (L := L) (R := R) (D := D) (tp_ux (k := 7) (j := 2) (v := Int32.ofNat p) h (by decide) (by decide)) hpn
    by_cases hbl : pa_lt b p = true
    · have hq := of_decide_eq_true hbl
      rw [pa_end_y hpn hbl, ← ih (p + 1) (by omega) (by omega)]
      rw [r_Ta_readWord_0 am_isr_r]
      simp only [r_Ta_readWord_1, r_Ta_readWord_4, r_Ta_readWord_5, r_Ta_readWord_8, r_Ta_readWord_11, r_Ta_readWord_12, r_Ta_readWord_13, r_Ta_readWord_16, r_Ta_readWord_19, r_Ta_readWord_22, r_Ta_readWord_25, r_Ta_readWord_26, r_Ta_readWord_27, r_Ta_readWord_30, r_Ta_readWord_31, r_Ta_readWord_32, r_Ta_readWord_35, ly_g7_2, ly_g7_1, ly_k7, ly_p7_2, ly_g7_3, ly_p7_3, ly_g7_5, ly_p7_5, i3n_0, i3n_1, i3n_2, i3n_4, i3n_6, i3n_11, l6n_0, l6n_1, am_kf_s, am_km_s, am_kn_s, am_k_v, am_k_0, am_isr_r, am_isr_n, am_isr_v, am_sw_0, am_sw_i, am_sw_l, am_sw_r, am_sw_n, am_sw_v, am_ct_i, am_ct_r, am_ct_n, am_c1_o, am_c1_n, am_c1_i, am_c1_r, am_c1_v, am_mk_1, lc_lt, lc_gt, lc_eq, lc_le, lc_ge, i01_eq, i01_ok, ite_not, true_or, or_true, true_and, and_true, false_or, or_false, false_and, and_false, if_true, if_false, not_true_eq_false, not_false_eq_true, eq_self, Nat.reduceAdd, Nat.reduceLeDiff, Nat.reduceLT, Nat.reduceEqDiff, Nat.reduceMul, Nat.reduceSub, Nat.reduceDiv, Nat.reduceMod, reduceCtorEq, Nat.zero_le, i3_le, i3_lt, i3_eq, i3_eqN, i3_leN, i3_Nle, i3_ltN, i3_NleN, i3_NeqN, i3_Neq, i3_NltN, i3_Nlt, l6_le, l6_lt, l6_eq, l6_leN, l6_Nle, l6_ltN, l6_Nlt, l6_eqN, l6_Neq, h1, hz, a1, a3, ux_eq, and_self, hB, hbp, hq, x_Ta_isLetter, i3_add]
      rw [ux_ux]
    · have hq : ¬ (97 ≤ b p ∧ b p ≤ 122) := fun e => hbl (decide_eq_true e)
      rw [pa_end_n (fun e => hbl e.2)]
      rw [r_Ta_readWord_0 am_isr_r]
      simp only [r_Ta_readWord_1, r_Ta_readWord_4, r_Ta_readWord_5, r_Ta_readWord_8, r_Ta_readWord_11, r_Ta_readWord_12, r_Ta_readWord_13, r_Ta_readWord_16, r_Ta_readWord_19, r_Ta_readWord_22, r_Ta_readWord_25, r_Ta_readWord_26, r_Ta_readWord_27, r_Ta_readWord_30, r_Ta_readWord_31, r_Ta_readWord_32, r_Ta_readWord_35, ly_g7_2, ly_g7_1, ly_k7, ly_p7_2, ly_g7_3, ly_p7_3, ly_g7_5, ly_p7_5, i3n_0, i3n_1, i3n_2, i3n_4, i3n_6, i3n_11, l6n_0, l6n_1, am_kf_s, am_km_s, am_kn_s, am_k_v, am_k_0, am_isr_r, am_isr_n, am_isr_v, am_sw_0, am_sw_i, am_sw_l, am_sw_r, am_sw_n, am_sw_v, am_ct_i, am_ct_r, am_ct_n, am_c1_o, am_c1_n, am_c1_i, am_c1_r, am_c1_v, am_mk_1, lc_lt, lc_gt, lc_eq, lc_le, lc_ge, i01_eq, i01_ok, ite_not, true_or, or_true, true_and, and_true, false_or, or_false, false_and, and_false, if_true, if_false, not_true_eq_false, not_false_eq_true, eq_self, Nat.reduceAdd, Nat.reduceLeDiff, Nat.reduceLT, Nat.reduceEqDiff, Nat.reduceMul, Nat.reduceSub, Nat.reduceDiv, Nat.reduceMod, reduceCtorEq, Nat.zero_le, i3_le, i3_lt, i3_eq, i3_eqN, i3_leN, i3_Nle, i3_ltN, i3_NleN, i3_NeqN, i3_Neq, i3_NltN, i3_Nlt, l6_le, l6_lt, l6_eq, l6_leN, l6_Nle, l6_ltN, l6_Nlt, l6_eqN, l6_Neq, h1, hz, a1, a3, ux_eq, and_self, hB, hbp, hq, x_Ta_isLetter]
/-- what stands where a TOKEN's number stands -/
def tp_u (s p : Nat) (b : Nat → Nat) (C : Nat → Nat → Int32) : Nat → Nat → Int32 := ux (ux C 7 2 (Int32.ofNat p)) 7 5 (Int32.ofNat (pa_num b s (min 4 (p - s))))
theorem pa_num_lt {s : Nat} (hb : ∀ j, b (s + j) < 256) : ∀ k, k ≤ 4 → pa_num b s k < 1000000 := by
  have e : ∀ k, pa_num b s (k + 1) = pa_num b s k * 10 + (b (s + k) - 48) := fun k => rfl
  have h0 := hb 0
  have h1 := hb 1
  have h2 := hb 2
  have h3 := hb 3
  intro k hk
  have : k = 0 ∨ k = 1 ∨ k = 2 ∨ k = 3 ∨ k = 4 := by omega
  rcases this with rfl | rfl | rfl | rfl | rfl
  · show 0 < _; omega
  all_goals
    simp only [e, show pa_num b s 0 = 0 from rfl] at *
    omega
theorem l_Ta_readNumber (h : tp_B b n C) {s : Nat} (h4 : C 7 4 = Int32.ofNat s) : ∀ k p : Nat, n - p = k → s ≤ p → p ≤ n → am_run G (d + 1) K_Ta_readNumber (5, [some (.ref (x + 7))], [], am_mk x bb Z (tp_u s p b C) L R D) = am_run G (d + 1) K_Ta_readNumber (79, [some (.ref (x + 7))], [], am_mk x bb Z (tp_u s (pa_end (pa_dg b) n p) b C) L R D) := by
  intro k
  have hn := h.2.1
  have hz : n < 2147483648 := by omega
  have hT : ∀ p, tp_B b n (tp_u s p b C) := fun p => tp_ux (tp_ux h (by decide) (by decide)) (by decide) (by decide)
  have h1 : ∀ p, (tp_u s p b C) 7 1 = Int32.ofNat n := fun p => (hT p).1
  have h2 : ∀ p, (tp_u s p b C) 7 2 = Int32.ofNat p := fun p => by simp only [tp_u, ux_eq, Nat.reduceEqDiff, and_true, and_false, if_true, if_false, and_self]
  have h5 : ∀ p, (tp_u s p b C) 7 5 = Int32.ofNat (pa_num b s (min 4 (p - s))) := fun p => by simp only [tp_u, ux_eq, if_true, and_self]
  have h4' : ∀ p, (tp_u s p b C) 7 4 = Int32.ofNat s := fun p => by simp only [tp_u, ux_eq, Nat.reduceEqDiff, and_true, and_false, if_true, if_false, and_self, h4]
  induction k with
  | zero =>
    intro p hk hsp hp
    have : p = n := by omega
    subst this
    have e : ¬ (p < p ∧ pa_dg b p = true) := by omega
    rw [pa_end_n e]
    rw [r_Ta_readNumber_5 am_isr_r]
    simp only [r_Ta_readNumber_6, r_Ta_readNumber_9, r_Ta_readNumber_10, r_Ta_readNumber_13, r_Ta_readNumber_16, r_Ta_readNumber_17, r_Ta_readNumber_18, r_Ta_readNumber_21, r_Ta_readNumber_24, r_Ta_readNumber_27, r_Ta_readNumber_30, r_Ta_readNumber_31, r_Ta_readNumber_34, r_Ta_readNumber_35, r_Ta_readNumber_38, r_Ta_readNumber_39, r_Ta_readNumber_40, r_Ta_readNumber_43, r_Ta_readNumber_44, r_Ta_readNumber_45, r_Ta_readNumber_48, r_Ta_readNumber_50, r_Ta_readNumber_51, r_Ta_readNumber_52, r_Ta_readNumber_53, r_Ta_readNumber_56, r_Ta_readNumber_59, r_Ta_readNumber_60, r_Ta_readNumber_62, r_Ta_readNumber_63, r_Ta_readNumber_66, r_Ta_readNumber_67, r_Ta_readNumber_68, r_Ta_readNumber_71, r_Ta_readNumber_72, r_Ta_readNumber_73, r_Ta_readNumber_76, ly_g7_5, ly_p7_5, ly_g7_2, ly_g7_1, ly_k7, ly_g7_4, ly_p7_2, ly_g7_3, ly_p7_3, i3n_0, i3n_1, i3n_2, i3n_3, i3n_4, i3n_10, i3n_48, l6n_0, l6n_1, am_kf_s, am_km_s, am_kn_s, am_k_v, am_k_0, am_isr_r, am_isr_n, am_isr_v, am_sw_0, am_sw_i, am_sw_l, am_sw_r, am_sw_n, am_sw_v, am_ct_i, am_ct_r, am_ct_n, am_c1_o, am_c1_n, am_c1_i, am_c1_r, am_c1_v, am_mk_1, lc_lt, lc_gt, lc_eq, lc_le, lc_ge, i01_eq, i01_ok, ite_not, true_or, or_true, true_and, and_true, false_or, or_false, false_and, and_false, if_true, if_false, not_true_eq_false, not_false_eq_true, eq_self, Nat.reduceAdd, Nat.reduceLeDiff, Nat.reduceLT, Nat.reduceEqDiff, Nat.reduceMul, Nat.reduceSub, Nat.reduceDiv, Nat.reduceMod, reduceCtorEq, Nat.zero_le, i3_le, i3_lt, i3_eq, i3_eqN, i3_leN, i3_Nle, i3_ltN, i3_NleN, i3_NeqN, i3_Neq, i3_NltN, i3_Nlt, l6_le, l6_lt, l6_eq, l6_leN, l6_Nle, l6_ltN, l6_Nlt, l6_eqN, l6_Neq, h1, h2, hz, Nat.le_refl, and_self]
  | succ k ih =>
    intro p hk hsp hp
    have hpn : p < n := by omega
    have a1 : p < 2147483648 := by omega
    have a2 : s < 2147483648 := by omega
    have a3 : ¬ n ≤ p := by omega
    have a4 : p - s < 2147483648 := by omega
    have hbp : b p < 2147483648 := by have := h.2.2.1 p hpn; omega
    have hB := x_Ta_byteAt (G := G) (d := d) (x := x) (bb := bb) (Z := Z) (L := L) (R := R) (D := D) (hT p) hpn
    by_cases hbl : pa_dg b p = true
    · have hq := of_decide_eq_true hbl
      rw [pa_end_y hpn hbl, ← ih (p + 1) (by omega) (by omega) (by omega)]
      have hu : ∀ q, ux (tp_u s p b C) 7 2 (Int32.ofNat q) = ux (ux C 7 2 (Int32.ofNat q)) 7 5 (Int32.ofNat (pa_num b s (min 4 (p - s)))) := fun q => by
        rw [tp_u, ux_co (by decide), ux_ux]
      by_cases h4s : 4 ≤ p - s
      · have e1 : min 4 (p - s) = min 4 (p + 1 - s) := by omega
        rw [r_Ta_readNumber_5 am_isr_r]
        simp only [r_Ta_readNumber_6, r_Ta_readNumber_9, r_Ta_readNumber_10, r_Ta_readNumber_13, r_Ta_readNumber_16, r_Ta_readNumber_17, r_Ta_readNumber_18, r_Ta_readNumber_21, r_Ta_readNumber_24, r_Ta_readNumber_27, r_Ta_readNumber_30, r_Ta_readNumber_31, r_Ta_readNumber_34, r_Ta_readNumber_35, r_Ta_readNumber_38, r_Ta_readNumber_39, r_Ta_readNumber_40, r_Ta_readNumber_43, r_Ta_readNumber_44, r_Ta_readNumber_45, r_Ta_readNumber_48, r_Ta_readNumber_50, r_Ta_readNumber_51, r_Ta_readNumber_52, r_Ta_readNumber_53, r_Ta_readNumber_56, r_Ta_readNumber_59, r_Ta_readNumber_60, r_Ta_readNumber_62, r_Ta_readNumber_63, r_Ta_readNumber_66, r_Ta_readNumber_67, r_Ta_readNumber_68, r_Ta_readNumber_71, r_Ta_readNumber_72, r_Ta_readNumber_73, r_Ta_readNumber_76, ly_g7_5, ly_p7_5, ly_g7_2, ly_g7_1, ly_k7, ly_g7_4, ly_p7_2, ly_g7_3, ly_p7_3, i3n_0, i3n_1, i3n_2, i3n_3, i3n_4, i3n_10, i3n_48, l6n_0, l6n_1, am_kf_s, am_km_s, am_kn_s, am_k_v, am_k_0, am_isr_r, am_isr_n, am_isr_v, am_sw_0, am_sw_i, am_sw_l, am_sw_r, am_sw_n, am_sw_v, am_ct_i, am_ct_r, am_ct_n, am_c1_o, am_c1_n, am_c1_i, am_c1_r, am_c1_v, am_mk_1, lc_lt, lc_gt, lc_eq, lc_le, lc_ge, i01_eq, i01_ok, ite_not, true_or, or_true, true_and, and_true, false_or, or_false, false_and, and_false, if_true, if_false, not_true_eq_false, not_false_eq_true, eq_self, Nat.reduceAdd, Nat.reduceLeDiff, Nat.reduceLT, Nat.reduceEqDiff, Nat.reduceMul, Nat.reduceSub, Nat.reduceDiv, Nat.reduceMod, reduceCtorEq, Nat.zero_le, i3_le, i3_lt, i3_eq, i3_eqN, i3_leN, i3_Nle, i3_ltN, i3_NleN, i3_NeqN, i3_Neq, i3_NltN, i3_Nlt, l6_le, l6_lt, l6_eq, l6_leN, l6_Nle, l6_ltN, l6_Nlt, l6_eqN, l6_Neq, h1, h2, h4', hz, a1, a2, a3, a4, and_self, hB, hbp, hq, x_Ta_isDigit, i3_sub hsp, h4s, i3_add]
        rw [hu, e1, tp_u]
      · have e1 : min 4 (p - s) = p - s := by omega
        have e2 : min 4 (p + 1 - s) = p - s + 1 := by omega
        have e3 : pa_num b s (p - s + 1) = pa_num b s (p - s) * 10 + b p - 48 := by
          rw [pa_num, show s + (p - s) = p by omega]
          omega
        rw [r_Ta_readNumber_5 am_isr_r]
        simp only [r_Ta_readNumber_6, r_Ta_readNumber_9, r_Ta_readNumber_10, r_Ta_readNumber_13, r_Ta_readNumber_16, r_Ta_readNumber_17, r_Ta_readNumber_18, r_Ta_readNumber_21, r_Ta_readNumber_24, r_Ta_readNumber_27, r_Ta_readNumber_30, r_Ta_readNumber_31, r_Ta_readNumber_34, r_Ta_readNumber_35, r_Ta_readNumber_38, r_Ta_readNumber_39, r_Ta_readNumber_40, r_Ta_readNumber_43, r_Ta_readNumber_44, r_Ta_readNumber_45, r_Ta_readNumber_48, r_Ta_readNumber_50, r_Ta_readNumber_51, r_Ta_readNumber_52, r_Ta_readNumber_53, r_Ta_readNumber_56, r_Ta_readNumber_59, r_Ta_readNumber_60, r_Ta_readNumber_62, r_Ta_readNumber_63, r_Ta_readNumber_66, r_Ta_readNumber_67, r_Ta_readNumber_68, r_Ta_readNumber_71, r_Ta_readNumber_72, r_Ta_readNumber_73, r_Ta_readNumber_76, ly_g7_5, ly_p7_5, ly_g7_2, ly_g7_1, ly_k7, ly_g7_4, ly_p7_2, ly_g7_3, ly_p7_3, i3n_0, i3n_1, i3n_2, i3n_3, i3n_4, i3n_10, i3n_48, l6n_0, l6n_1, am_kf_s, am_km_s, am_kn_s, am_k_v, am_k_0, am_isr_r, am_isr_n, am_isr_v, am_sw_0, am_sw_i, am_sw_l, am_sw_r, am_sw_n, am_sw_v, am_ct_i, am_ct_r, am_ct_n, am_c1_o, am_c1_n, am_c1_i, am_c1_r, am_c1_v, am_mk_1, lc_lt, lc_gt, lc_eq, lc_le, lc_ge, i01_eq, i01_ok, ite_not, true_or, or_true, true_and, and_true, false_or, or_false, false_and, and_false, if_true, if_false, not_true_eq_false, not_false_eq_true, eq_self, Nat.reduceAdd, Nat.reduceLeDiff, Nat.reduceLT, Nat.reduceEqDiff, Nat.reduceMul, Nat.reduceSub, Nat.reduceDiv, Nat.reduceMod, reduceCtorEq, Nat.zero_le, i3_le, i3_lt, i3_eq, i3_eqN, i3_leN, i3_Nle, i3_ltN, i3_NleN, i3_NeqN, i3_Neq, i3_NltN, i3_Nlt, l6_le, l6_lt, l6_eq, l6_leN, l6_Nle, l6_ltN, l6_Nlt, l6_eqN, l6_Neq, h1, h2, h4', h5, hz, a1, a2, a3, a4, and_self, hB, hbp, hq, x_Ta_isDigit, i3_sub hsp, h4s, i3_add, i3_mul, ux_eq]
        rw [e1, i3_sub (by omega), ← e3]
        congr 3
        rw [tp_u, tp_u, e2]
        rw [ux_ux, ux_co (by decide), ux_ux]
    · have hq : ¬ (48 ≤ b p ∧ b p ≤ 57) := fun e => hbl (decide_eq_true e)
      rw [pa_end_n (fun e => hbl e.2)]
      rw [r_Ta_readNumber_5 am_isr_r]
      simp only [r_Ta_readNumber_6, r_Ta_readNumber_9, r_Ta_readNumber_10, r_Ta_readNumber_13, r_Ta_readNumber_16, r_Ta_readNumber_17, r_Ta_readNumber_18, r_Ta_readNumber_21, r_Ta_readNumber_24, r_Ta_readNumber_27, r_Ta_readNumber_30, r_Ta_readNumber_31, r_Ta_readNumber_34, r_Ta_readNumber_35, r_Ta_readNumber_38, r_Ta_readNumber_39, r_Ta_readNumber_40, r_Ta_readNumber_43, r_Ta_readNumber_44, r_Ta_readNumber_45, r_Ta_readNumber_48, r_Ta_readNumber_50, r_Ta_readNumber_51, r_Ta_readNumber_52, r_Ta_readNumber_53, r_Ta_readNumber_56, r_Ta_readNumber_59, r_Ta_readNumber_60, r_Ta_readNumber_62, r_Ta_readNumber_63, r_Ta_readNumber_66, r_Ta_readNumber_67, r_Ta_readNumber_68, r_Ta_readNumber_71, r_Ta_readNumber_72, r_Ta_readNumber_73, r_Ta_readNumber_76, ly_g7_5, ly_p7_5, ly_g7_2, ly_g7_1, ly_k7, ly_g7_4, ly_p7_2, ly_g7_3, ly_p7_3, i3n_0, i3n_1, i3n_2, i3n_3, i3n_4, i3n_10, i3n_48, l6n_0, l6n_1, am_kf_s, am_km_s, am_kn_s, am_k_v, am_k_0, am_isr_r, am_isr_n, am_isr_v, am_sw_0, am_sw_i, am_sw_l, am_sw_r, am_sw_n, am_sw_v, am_ct_i, am_ct_r, am_ct_n, am_c1_o, am_c1_n, am_c1_i, am_c1_r, am_c1_v, am_mk_1, lc_lt, lc_gt, lc_eq, lc_le, lc_ge, i01_eq, i01_ok, ite_not, true_or, or_true, true_and, and_true, false_or, or_false, false_and, and_false, if_true, if_false, not_true_eq_false, not_false_eq_true, eq_self, Nat.reduceAdd, Nat.reduceLeDiff, Nat.reduceLT, Nat.reduceEqDiff, Nat.reduceMul, Nat.reduceSub, Nat.reduceDiv, Nat.reduceMod, reduceCtorEq, Nat.zero_le, i3_le, i3_lt, i3_eq, i3_eqN, i3_leN, i3_Nle, i3_ltN, i3_NleN, i3_NeqN, i3_Neq, i3_NltN, i3_Nlt, l6_le, l6_lt, l6_eq, l6_leN, l6_Nle, l6_ltN, l6_Nlt, l6_eqN, l6_Neq, h1, h2, hz, a1, a3, and_self, hB, hbp, hq, x_Ta_isDigit]
theorem x_Ta_readNumber (h : tp_B b n C) {s : Nat} (h2 : C 7 2 = Int32.ofNat s) (h4 : C 7 4 = Int32.ofNat s) (hs : s ≤ n) : am_ex G (d + 2) K_Ta_readNumber [.ref (x + 7)] (am_mk x bb Z C L R D) = some (none, am_mk x bb Z (ux (tp_u s (pa_end (pa_dg b) n s) b C) 7 3 (if 4 < pa_end (pa_dg b) n s - s then -Int32.ofNat 2 else -Int32.ofNat 3)) L R D) := by
  have hn := h.2.1
  have hl := l_Ta_readNumber (G := G) (d := d) (x := x) (bb := bb) (Z := Z) (L := L) (R := R) (D := D) h h4 (n - s) s rfl (Nat.le_refl _) hs
  have e0 : tp_u s s b C = ux C 7 5 (Int32.ofNat 0) := by
    rw [tp_u, ux_id h2, Nat.sub_self]
    rfl
  rw [e0] at hl
  obtain ⟨p1, p2, -, -⟩ := pa_end_spec (P := pa_dg b) hs
  generalize pa_end (pa_dg b) n s = e at hl p1 p2 ⊢
  have a1 : e - s < 2147483648 := by omega
  have g2 : (tp_u s e b C) 7 2 = Int32.ofNat e := by simp only [tp_u, ux_eq, Nat.reduceEqDiff, and_true, and_false, if_true, if_false, and_self]
  have g4 : (tp_u s e b C) 7 4 = Int32.ofNat s := by simp only [tp_u, ux_eq, Nat.reduceEqDiff, and_true, and_false, if_true, if_false, and_self, h4]
  simp only [e_Ta_readNumber, r_Ta_readNumber_0, r_Ta_readNumber_1, r_Ta_readNumber_2, r_Ta_readNumber_6, r_Ta_readNumber_9, r_Ta_readNumber_10, r_Ta_readNumber_13, r_Ta_readNumber_16, r_Ta_readNumber_17, r_Ta_readNumber_18, r_Ta_readNumber_21, r_Ta_readNumber_24, r_Ta_readNumber_27, r_Ta_readNumber_30, r_Ta_readNumber_31, r_Ta_readNumber_34, r_Ta_readNumber_35, r_Ta_readNumber_38, r_Ta_readNumber_39, r_Ta_readNumber_40, r_Ta_readNumber_43, r_Ta_readNumber_44, r_Ta_readNumber_45, r_Ta_readNumber_48, r_Ta_readNumber_50, r_Ta_readNumber_51, r_Ta_readNumber_52, r_Ta_readNumber_53, r_Ta_readNumber_56, r_Ta_readNumber_59, r_Ta_readNumber_60, r_Ta_readNumber_62, r_Ta_readNumber_63, r_Ta_readNumber_66, r_Ta_readNumber_67, r_Ta_readNumber_68, r_Ta_readNumber_71, r_Ta_readNumber_72, r_Ta_readNumber_73, r_Ta_readNumber_76, r_Ta_readNumber_79, r_Ta_readNumber_80, r_Ta_readNumber_81, r_Ta_readNumber_84, r_Ta_readNumber_85, r_Ta_readNumber_88, r_Ta_readNumber_89, r_Ta_readNumber_90, r_Ta_readNumber_93, r_Ta_readNumber_95, r_Ta_readNumber_98, r_Ta_readNumber_100, r_Ta_readNumber_103, ly_g7_5, ly_p7_5, ly_g7_2, ly_g7_1, ly_k7, ly_g7_4, ly_p7_2, ly_g7_3, ly_p7_3, i3n_0, i3n_1, i3n_2, i3n_3, i3n_4, i3n_10, i3n_48, l6n_0, l6n_1, am_kf_s, am_km_s, am_kn_s, am_k_v, am_k_0, am_isr_r, am_isr_n, am_isr_v, am_sw_0, am_sw_i, am_sw_l, am_sw_r, am_sw_n, am_sw_v, am_ct_i, am_ct_r, am_ct_n, am_c1_o, am_c1_n, am_c1_i, am_c1_r, am_c1_v, am_mk_1, lc_lt, lc_gt, lc_eq, lc_le, lc_ge, i01_eq, i01_ok, ite_not, true_or, or_true, true_and, and_true, false_or, or_false, false_and, and_false, if_true, if_false, not_true_eq_false, not_false_eq_true, eq_self, Nat.reduceAdd, Nat.reduceLeDiff, Nat.reduceLT, Nat.reduceEqDiff, Nat.reduceMul, Nat.reduceSub, Nat.reduceDiv, Nat.reduceMod, reduceCtorEq, Nat.zero_le, i3_le, i3_lt, i3_eq, i3_eqN, i3_leN, i3_Nle, i3_ltN, i3_NleN, i3_NeqN, i3_Neq, i3_NltN, i3_Nlt, l6_le, l6_lt, l6_eq, l6_leN, l6_Nle, l6_ltN, l6_Nlt, l6_eqN, l6_Neq, hl, g2, g4, i3_sub p1, a1]
  by_cases hq : 4 < e - s
  · have : ¬ e - s ≤ 4 := by omega
    simp only [this, hq, if_true, if_false]
  · have : e - s ≤ 4 := by omega
    simp only [this, hq, if_true, if_false]
end
