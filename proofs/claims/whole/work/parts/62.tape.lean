/-! the class's TOKENS -/
def tp_B (b : Nat → Nat) (n : Nat) (C : Nat → Nat → Int32) : Prop := C 7 1 = Int32.ofNat n ∧ n ≤ 160 ∧ (∀ j, j < n → b j < 256) ∧ ∀ j, j < n → C 8 j = Int32.ofNat (b j)
theorem tp_ux {b : Nat → Nat} {n : Nat} {C : Nat → Nat → Int32} {k j : Nat} {v : Int32} (h : tp_B b n C) (hj : ¬ (k = 7 ∧ j = 1)) (hk : ¬ k = 8) : tp_B b n (ux C k j v) := by
  obtain ⟨h1, h2, h3, h4⟩ := h
  refine ⟨?_, h2, h3, fun i hi => ?_⟩
  · rw [ux_eq, if_neg (fun e => hj ⟨e.1.symm, e.2.symm⟩)]; exact h1
  · rw [ux_eq, if_neg (fun e => hk e.1.symm)]; exact h4 i hi
section
variable {G : Nat → Value} {d x : Nat} {bb : Bool} {Z : ly_Z} {C : Nat → Nat → Int32} {L : Nat → Nat → Int64} {R : Nat → Nat → Option Nat} {D : am_M} {b : Nat → Nat} {n : Nat}
theorem x_Ta_byteAt (h : tp_B b n C) {p : Nat} (hp : p < n) : am_ex G (d + 1) K_Ta_byteAt [.ref (x + 7), .int (Int32.ofNat p)] (am_mk x bb Z C L R D) = some (some (.int (Int32.ofNat (b p))), am_mk x bb Z C L R D) := by
  obtain ⟨h1, h2, h3, h4⟩ := h
  have a1 : p < 2147483648 := by omega
  have a2 : n < 2147483648 := by omega
  have a3 : p < 160 := by omega
  have a4 : ¬ n ≤ p := by omega
  have a5 : ¬ 160 ≤ p := by omega
  have a6 : ¬ p < 0 := by omega
  simp only [e_Ta_byteAt, r_Ta_byteAt_0, r_Ta_byteAt_1, r_Ta_byteAt_4, r_Ta_byteAt_5, r_Ta_byteAt_6, r_Ta_byteAt_9, r_Ta_byteAt_12, r_Ta_byteAt_13, r_Ta_byteAt_14, r_Ta_byteAt_17, r_Ta_byteAt_18, r_Ta_byteAt_21, r_Ta_byteAt_22, r_Ta_byteAt_25, r_Ta_byteAt_26, r_Ta_byteAt_27, r_Ta_byteAt_30, r_Ta_byteAt_31, ly_g7_1, ly_g7_0, ly_n8, ly_r8, ly_w8, i3n_0, i3n_1, am_kf_s, am_km_s, am_kn_s, am_k_v, am_k_0, am_isr_r, am_isr_n, am_isr_v, am_sw_0, am_sw_i, am_sw_l, am_sw_r, am_sw_n, am_sw_v, am_ct_i, am_ct_r, am_ct_n, am_mk_1, lc_lt, lc_gt, lc_eq, lc_le, lc_ge, i01_eq, i01_ok, ite_not, true_or, or_true, true_and, and_true, false_or, or_false, false_and, and_false, if_true, if_false, not_true_eq_false, not_false_eq_true, eq_self, Nat.reduceAdd, Nat.reduceLeDiff, Nat.reduceLT, Nat.reduceEqDiff, Nat.reduceMul, Nat.reduceSub, Nat.reduceDiv, Nat.reduceMod, reduceCtorEq, Nat.zero_le, i3_le, i3_lt, i3_eq, i3_eqN, i3_leN, i3_Nle, i3_ltN, i3_NleN, i3_NeqN, i3_Nlt, h1, h4 p hp, a1, a2, a3, a4, a5, a6]
theorem x_Ta_byteAt_o (h : tp_B b n C) {p : Nat} (hp : n ≤ p) (hp2 : p < 2147483648) : am_ex G (d + 1) K_Ta_byteAt [.ref (x + 7), .int (Int32.ofNat p)] (am_mk x bb Z C L R D) = some (some (.int (-Int32.ofNat 1)), am_mk x bb Z C L R D) := by
  obtain ⟨h1, h2, h3, h4⟩ := h
  have a2 : n < 2147483648 := by omega
  have a6 : ¬ p < 0 := by omega
  simp only [e_Ta_byteAt, r_Ta_byteAt_0, r_Ta_byteAt_1, r_Ta_byteAt_4, r_Ta_byteAt_5, r_Ta_byteAt_6, r_Ta_byteAt_9, r_Ta_byteAt_12, r_Ta_byteAt_13, r_Ta_byteAt_14, r_Ta_byteAt_17, r_Ta_byteAt_18, r_Ta_byteAt_21, r_Ta_byteAt_22, r_Ta_byteAt_25, r_Ta_byteAt_26, r_Ta_byteAt_27, r_Ta_byteAt_30, r_Ta_byteAt_31, ly_g7_1, ly_g7_0, ly_n8, ly_r8, ly_w8, i3n_0, i3n_1, am_kf_s, am_km_s, am_kn_s, am_k_v, am_k_0, am_isr_r, am_isr_n, am_isr_v, am_sw_0, am_sw_i, am_sw_l, am_sw_r, am_sw_n, am_sw_v, am_ct_i, am_ct_r, am_ct_n, am_mk_1, lc_lt, lc_gt, lc_eq, lc_le, lc_ge, i01_eq, i01_ok, ite_not, true_or, or_true, true_and, and_true, false_or, or_false, false_and, and_false, if_true, if_false, not_true_eq_false, not_false_eq_true, eq_self, Nat.reduceAdd, Nat.reduceLeDiff, Nat.reduceLT, Nat.reduceEqDiff, Nat.reduceMul, Nat.reduceSub, Nat.reduceDiv, Nat.reduceMod, reduceCtorEq, Nat.zero_le, i3_le, i3_lt, i3_eq, i3_eqN, i3_leN, i3_Nle, i3_ltN, i3_NleN, i3_NeqN, i3_Nlt, h1, hp, hp2, a2, a6]
theorem x_Ta_isLetter {c : Nat} (hc : c < 2147483648) {M : am_M} : am_ex G (d + 1) K_Ta_isLetter [.int (Int32.ofNat c)] M = some (some (.int (if 97 ≤ c ∧ c ≤ 122 then Int32.ofNat 1 else Int32.ofNat 0)), M) := by
  simp only [e_Ta_isLetter, r_Ta_isLetter_0, r_Ta_isLetter_1, r_Ta_isLetter_3, r_Ta_isLetter_6, r_Ta_isLetter_7, r_Ta_isLetter_9, r_Ta_isLetter_12, r_Ta_isLetter_13, r_Ta_isLetter_16, r_Ta_isLetter_17, i3n_0, i3n_1, i3n_97, i3n_122, am_kf_s, am_km_s, am_kn_s, am_k_v, am_k_0, am_isr_r, am_isr_n, am_isr_v, am_sw_0, am_sw_i, am_sw_l, am_sw_r, am_sw_n, am_sw_v, am_ct_i, am_ct_r, am_ct_n, am_mk_1, lc_lt, lc_gt, lc_eq, lc_le, lc_ge, i01_eq, i01_ok, ite_not, true_or, or_true, true_and, and_true, false_or, or_false, false_and, and_false, if_true, if_false, not_true_eq_false, not_false_eq_true, eq_self, Nat.reduceAdd, Nat.reduceLeDiff, Nat.reduceLT, Nat.reduceEqDiff, Nat.reduceMul, Nat.reduceSub, Nat.reduceDiv, Nat.reduceMod, reduceCtorEq, Nat.zero_le, i3_le, i3_lt, i3_eq, i3_eqN, i3_leN, i3_Nle, i3_ltN, i3_NleN, i3_NeqN, i3_Nlt, hc]
  by_cases h1 : c < 97
  · have : ¬ (97 ≤ c ∧ c ≤ 122) := by omega
    simp only [h1, this, if_true, if_false]
  · by_cases h2 : 122 < c
    · have : ¬ (97 ≤ c ∧ c ≤ 122) := by omega
      simp only [h1, h2, this, if_true, if_false]
    · have : 97 ≤ c ∧ c ≤ 122 := by omega
      simp only [h1, h2, this, if_true, if_false, and_self]
theorem x_Ta_isDigit {c : Nat} (hc : c < 2147483648) {M : am_M} : am_ex G (d + 1) K_Ta_isDigit [.int (Int32.ofNat c)] M = some (some (.int (if 48 ≤ c ∧ c ≤ 57 then Int32.ofNat 1 else Int32.ofNat 0)), M) := by
  simp only [e_Ta_isDigit, r_Ta_isDigit_0, r_Ta_isDigit_1, r_Ta_isDigit_3, r_Ta_isDigit_6, r_Ta_isDigit_7, r_Ta_isDigit_9, r_Ta_isDigit_12, r_Ta_isDigit_13, r_Ta_isDigit_16, r_Ta_isDigit_17, i3n_0, i3n_1, i3n_48, i3n_57, am_kf_s, am_km_s, am_kn_s, am_k_v, am_k_0, am_isr_r, am_isr_n, am_isr_v, am_sw_0, am_sw_i, am_sw_l, am_sw_r, am_sw_n, am_sw_v, am_ct_i, am_ct_r, am_ct_n, am_mk_1, lc_lt, lc_gt, lc_eq, lc_le, lc_ge, i01_eq, i01_ok, ite_not, true_or, or_true, true_and, and_true, false_or, or_false, false_and, and_false, if_true, if_false, not_true_eq_false, not_false_eq_true, eq_self, Nat.reduceAdd, Nat.reduceLeDiff, Nat.reduceLT, Nat.reduceEqDiff, Nat.reduceMul, Nat.reduceSub, Nat.reduceDiv, Nat.reduceMod, reduceCtorEq, Nat.zero_le, i3_le, i3_lt, i3_eq, i3_eqN, i3_leN, i3_Nle, i3_ltN, i3_NleN, i3_NeqN, i3_Nlt, hc]
  by_cases h1 : c < 48
  · have : ¬ (48 ≤ c ∧ c ≤ 57) := by omega
    simp only [h1, this, if_true, if_false]
  · by_cases h2 : 57 < c
    · have : ¬ (48 ≤ c ∧ c ≤ 57) := by omega
      simp only [h1, h2, this, if_true, if_false]
    · have : 48 ≤ c ∧ c ≤ 57 := by omega
      simp only [h1, h2, this, if_true, if_false, and_self]
theorem l_Ta_step (h : tp_B b n C) {st : Option Value} : ∀ k p : Nat, n - p = k → p ≤ n → am_run G (d + 1) K_Ta_step (0, [some (.ref (x + 7)), st], [], am_mk x bb Z (ux C 7 2 (Int32.ofNat p)) L R D) = am_run G (d + 1) K_Ta_step (50, [some (.ref (x + 7)), st], [], am_mk x bb Z (ux C 7 2 (Int32.ofNat (pa_sk b n p))) L R D) := by
  intro k
  have hn := h.2.1
  have hz : n < 2147483648 := by omega
  have h1 : ∀ v, (ux C 7 2 v) 7 1 = Int32.ofNat n := fun v => (tp_ux h (by decide) (by decide)).1
  induction k with
  | zero =>
    intro p hk hp
    have : p = n := by omega
    subst this
    have e : ¬ (p < p ∧ pa_bl b p = true) := by omega
    rw [pa_sk, pa_end_n e]
    simp only [r_Ta_step_0, r_Ta_step_1, r_Ta_step_4, r_Ta_step_5, r_Ta_step_8, r_Ta_step_11, r_Ta_step_12, r_Ta_step_13, r_Ta_step_16, r_Ta_step_19, r_Ta_step_21, r_Ta_step_24, r_Ta_step_25, r_Ta_step_26, r_Ta_step_29, r_Ta_step_32, r_Ta_step_34, r_Ta_step_37, r_Ta_step_38, r_Ta_step_39, r_Ta_step_42, r_Ta_step_43, r_Ta_step_44, r_Ta_step_47, ly_g7_2, ly_g7_1, ly_k7, ly_p7_2, ly_g7_4, ly_p7_4, ly_g7_3, ly_p7_3, i3n_0, i3n_1, i3n_2, i3n_10, i3n_32, am_kf_s, am_km_s, am_kn_s, am_k_v, am_k_0, am_isr_r, am_isr_n, am_isr_v, am_sw_0, am_sw_i, am_sw_l, am_sw_r, am_sw_n, am_sw_v, am_ct_i, am_ct_r, am_ct_n, am_mk_1, lc_lt, lc_gt, lc_eq, lc_le, lc_ge, i01_eq, i01_ok, ite_not, true_or, or_true, true_and, and_true, false_or, or_false, false_and, and_false, if_true, if_false, not_true_eq_false, not_false_eq_true, eq_self, Nat.reduceAdd, Nat.reduceLeDiff, Nat.reduceLT, Nat.reduceEqDiff, Nat.reduceMul, Nat.reduceSub, Nat.reduceDiv, Nat.reduceMod, reduceCtorEq, Nat.zero_le, i3_le, i3_lt, i3_eq, i3_eqN, i3_leN, i3_Nle, i3_ltN, i3_NleN, i3_NeqN, i3_Nlt, h1, hz, ux_eq, Nat.le_refl, and_self]
  | succ k ih =>
    intro p hk hp
    have hpn : p < n := by omega
    have a1 : p < 2147483648 := by omega
    have a3 : ¬ n ≤ p := by omega
    have hbp : b p < 2147483648 := by have := h.2.2.1 p hpn; omega
    have hB := x_Ta_byteAt (G := G) (d := d) (x := x) (bb := bb) (Z := Z) (L := L) (R := R) (D := D) (tp_ux (k := 7) (j := 2) (v := Int32.ofNat p) h (by decide) (by decide)) hpn
    by_cases hbl : pa_bl b p = true
    · have hq := of_decide_eq_true hbl
      rw [pa_sk, pa_end_y hpn hbl]
      have := ih (p + 1) (by omega) (by omega)
      rw [pa_sk] at this
      rw [← this]
      rcases hq with hq | hq
      · simp only [r_Ta_step_0, r_Ta_step_1, r_Ta_step_4, r_Ta_step_5, r_Ta_step_8, r_Ta_step_11, r_Ta_step_12, r_Ta_step_13, r_Ta_step_16, r_Ta_step_19, r_Ta_step_21, r_Ta_step_24, r_Ta_step_25, r_Ta_step_26, r_Ta_step_29, r_Ta_step_32, r_Ta_step_34, r_Ta_step_37, r_Ta_step_38, r_Ta_step_39, r_Ta_step_42, r_Ta_step_43, r_Ta_step_44, r_Ta_step_47, ly_g7_2, ly_g7_1, ly_k7, ly_p7_2, ly_g7_4, ly_p7_4, ly_g7_3, ly_p7_3, i3n_0, i3n_1, i3n_2, i3n_10, i3n_32, am_kf_s, am_km_s, am_kn_s, am_k_v, am_k_0, am_isr_r, am_isr_n, am_isr_v, am_sw_0, am_sw_i, am_sw_l, am_sw_r, am_sw_n, am_sw_v, am_ct_i, am_ct_r, am_ct_n, am_mk_1, lc_lt, lc_gt, lc_eq, lc_le, lc_ge, i01_eq, i01_ok, ite_not, true_or, or_true, true_and, and_true, false_or, or_false, false_and, and_false, if_true, if_false, not_true_eq_false, not_false_eq_true, eq_self, Nat.reduceAdd, Nat.reduceLeDiff, Nat.reduceLT, Nat.reduceEqDiff, Nat.reduceMul, Nat.reduceSub, Nat.reduceDiv, Nat.reduceMod, reduceCtorEq, Nat.zero_le, i3_le, i3_lt, i3_eq, i3_eqN, i3_leN, i3_Nle, i3_ltN, i3_NleN, i3_NeqN, i3_Nlt, h1, hz, a1, a3, ux_eq, and_self, hB, hbp, hq, i3_add]
        rw [ux_ux]
      · simp only [r_Ta_step_0, r_Ta_step_1, r_Ta_step_4, r_Ta_step_5, r_Ta_step_8, r_Ta_step_11, r_Ta_step_12, r_Ta_step_13, r_Ta_step_16, r_Ta_step_19, r_Ta_step_21, r_Ta_step_24, r_Ta_step_25, r_Ta_step_26, r_Ta_step_29, r_Ta_step_32, r_Ta_step_34, r_Ta_step_37, r_Ta_step_38, r_Ta_step_39, r_Ta_step_42, r_Ta_step_43, r_Ta_step_44, r_Ta_step_47, ly_g7_2, ly_g7_1, ly_k7, ly_p7_2, ly_g7_4, ly_p7_4, ly_g7_3, ly_p7_3, i3n_0, i3n_1, i3n_2, i3n_10, i3n_32, am_kf_s, am_km_s, am_kn_s, am_k_v, am_k_0, am_isr_r, am_isr_n, am_isr_v, am_sw_0, am_sw_i, am_sw_l, am_sw_r, am_sw_n, am_sw_v, am_ct_i, am_ct_r, am_ct_n, am_mk_1, lc_lt, lc_gt, lc_eq, lc_le, lc_ge, i01_eq, i01_ok, ite_not, true_or, or_true, true_and, and_true, false_or, or_false, false_and, and_false, if_true, if_false, not_true_eq_false, not_false_eq_true, eq_self, Nat.reduceAdd, Nat.reduceLeDiff, Nat.reduceLT, Nat.reduceEqDiff, Nat.reduceMul, Nat.reduceSub, Nat.reduceDiv, Nat.reduceMod, reduceCtorEq, Nat.zero_le, i3_le, i3_lt, i3_eq, i3_eqN, i3_leN, i3_Nle, i3_ltN, i3_NleN, i3_NeqN, i3_Nlt, h1, hz, a1, a3, ux_eq, and_self, hB, hbp, hq, i3_add]
        rw [ux_ux]
    · have hq : ¬ (b p = 32 ∨ b p = 10) := fun e => hbl (decide_eq_true e)
      have q1 : ¬ b p = 32 := fun e => hq (Or.inl e)
      have q2 : ¬ b p = 10 := fun e => hq (Or.inr e)
      rw [pa_sk, pa_end_n (fun e => hbl e.2)]
      simp only [r_Ta_step_0, r_Ta_step_1, r_Ta_step_4, r_Ta_step_5, r_Ta_step_8, r_Ta_step_11, r_Ta_step_12, r_Ta_step_13, r_Ta_step_16, r_Ta_step_19, r_Ta_step_21, r_Ta_step_24, r_Ta_step_25, r_Ta_step_26, r_Ta_step_29, r_Ta_step_32, r_Ta_step_34, r_Ta_step_37, r_Ta_step_38, r_Ta_step_39, r_Ta_step_42, r_Ta_step_43, r_Ta_step_44, r_Ta_step_47, ly_g7_2, ly_g7_1, ly_k7, ly_p7_2, ly_g7_4, ly_p7_4, ly_g7_3, ly_p7_3, i3n_0, i3n_1, i3n_2, i3n_10, i3n_32, am_kf_s, am_km_s, am_kn_s, am_k_v, am_k_0, am_isr_r, am_isr_n, am_isr_v, am_sw_0, am_sw_i, am_sw_l, am_sw_r, am_sw_n, am_sw_v, am_ct_i, am_ct_r, am_ct_n, am_mk_1, lc_lt, lc_gt, lc_eq, lc_le, lc_ge, i01_eq, i01_ok, ite_not, true_or, or_true, true_and, and_true, false_or, or_false, false_and, and_false, if_true, if_false, not_true_eq_false, not_false_eq_true, eq_self, Nat.reduceAdd, Nat.reduceLeDiff, Nat.reduceLT, Nat.reduceEqDiff, Nat.reduceMul, Nat.reduceSub, Nat.reduceDiv, Nat.reduceMod, reduceCtorEq, Nat.zero_le, i3_le, i3_lt, i3_eq, i3_eqN, i3_leN, i3_Nle, i3_ltN, i3_NleN, i3_NeqN, i3_Nlt, h1, hz, a1, a3, ux_eq, and_self, hB, hbp, q1, q2]
end
