/-! echo, hears -/
def sg (b : Bool) : Int32 := if b = true then Int32.ofNat 1 else -Int32.ofNat 1
/-- the way after a wall, and the place -/
def tb (len p : Nat) (b : Bool) : Bool := if b = true then decide (p + 1 < len) else decide (p = 0)
def mv (p : Nat) (b : Bool) : Nat := if b = true then p + 1 else p - 1
theorem mv_lt {len p : Nat} {b : Bool} (hl : 2 ≤ len) (hp : p < len) : mv p (tb len p b) < len := by
  unfold mv tb
  cases b
  · by_cases h : p = 0
    · simp only [h, decide_true, Bool.false_eq_true, if_false, if_true]; omega
    · simp only [h, decide_false, Bool.false_eq_true, if_false]; omega
  · by_cases h : p + 1 < len
    · simp only [h, decide_true, if_true]
    · simp only [h, decide_false, if_true, Bool.false_eq_true, if_false]; omega
theorem sg_add {len p : Nat} {b : Bool} (hl : 2 ≤ len) (hp : p < len) : Int32.ofNat p + sg (tb len p b) = Int32.ofNat (mv p (tb len p b)) := by
  have key : ∀ c : Bool, (c = false → 1 ≤ p) → Int32.ofNat p + sg c = Int32.ofNat (mv p c) := by
    intro c hc
    cases c
    · have := hc rfl
      show Int32.ofNat p + -Int32.ofNat 1 = Int32.ofNat (p - 1)
      rw [← Int32.sub_eq_add_neg, i3_sub this]
    · show Int32.ofNat p + Int32.ofNat 1 = Int32.ofNat (p + 1)
      exact i3_add
  apply key
  intro h
  unfold tb at h
  cases b
  · simp only [Bool.false_eq_true, if_false, decide_eq_false_iff_not] at h; omega
  · simp only [if_true, decide_eq_false_iff_not] at h; omega
section
variable {G : Nat → Value} {x : Nat}
theorem x_H_thrownBack {d len p : Nat} {b : Bool} {M : am_M} (hl : 2 ≤ len) (hl2 : len ≤ 20) (hp : p < len) : am_ex G (d + 1) K_H_thrownBack [.int (Int32.ofNat p), .int (sg b), .int (Int32.ofNat len)] M = some (some (.int (sg (tb len p b))), M) := by
  have b1 : p + 1 < 2147483648 := by omega
  have b2 : len < 2147483648 := by omega
  have b3 : ¬ p + 1 < 0 := by omega
  cases b
  · by_cases h : p = 0
    · subst h
      simp only [e_H_thrownBack, r_H_thrownBack_0, r_H_thrownBack_1, r_H_thrownBack_2, r_H_thrownBack_3, r_H_thrownBack_6, r_H_thrownBack_7, r_H_thrownBack_8, r_H_thrownBack_9, r_H_thrownBack_10, r_H_thrownBack_13, r_H_thrownBack_14, r_H_thrownBack_15, r_H_thrownBack_18, r_H_thrownBack_19, i3n_0, i3n_1, l6n_0, l6n_1, am_kf_s, am_km_s, am_kn_s, am_k_v, am_k_0, am_isr_r, am_isr_n, am_isr_v, am_sw_0, am_sw_i, am_sw_l, am_sw_r, am_sw_n, am_sw_v, am_ct_i, am_ct_r, am_ct_n, am_c1_o, am_c1_n, am_c1_i, am_c1_r, am_c1_v, am_mk_1, lc_lt, lc_gt, lc_eq, lc_le, lc_ge, i01_eq, i01_ok, ite_not, true_or, or_true, true_and, and_true, false_or, or_false, false_and, and_false, if_true, if_false, not_true_eq_false, not_false_eq_true, eq_self, Nat.reduceAdd, Nat.reduceLeDiff, Nat.reduceLT, Nat.reduceEqDiff, Nat.reduceMul, Nat.reduceSub, Nat.reduceDiv, Nat.reduceMod, reduceCtorEq, Nat.zero_le, i3_le, i3_lt, i3_eq, i3_eqN, i3_leN, i3_Nle, i3_ltN, i3_NleN, i3_NeqN, i3_Neq, i3_NltN, i3_Nlt, l6_le, l6_lt, l6_eq, l6_leN, l6_Nle, l6_ltN, l6_Nlt, l6_eqN, l6_Neq, sg, tb, Bool.false_eq_true, decide_true, ↓reduceIte]
      decide +revert
    · have e : Int32.ofNat p + -Int32.ofNat 1 = Int32.ofNat (p - 1) := by rw [← Int32.sub_eq_add_neg, i3_sub (by omega)]
      have b4 : p - 1 < 2147483648 := by omega
      have b5 : ¬ p - 1 < 0 := by omega
      have b6 : p - 1 < len := by omega
      simp only [e_H_thrownBack, r_H_thrownBack_0, r_H_thrownBack_1, r_H_thrownBack_2, r_H_thrownBack_3, r_H_thrownBack_6, r_H_thrownBack_7, r_H_thrownBack_8, r_H_thrownBack_9, r_H_thrownBack_10, r_H_thrownBack_13, r_H_thrownBack_14, r_H_thrownBack_15, r_H_thrownBack_18, r_H_thrownBack_19, i3n_0, i3n_1, l6n_0, l6n_1, am_kf_s, am_km_s, am_kn_s, am_k_v, am_k_0, am_isr_r, am_isr_n, am_isr_v, am_sw_0, am_sw_i, am_sw_l, am_sw_r, am_sw_n, am_sw_v, am_ct_i, am_ct_r, am_ct_n, am_c1_o, am_c1_n, am_c1_i, am_c1_r, am_c1_v, am_mk_1, lc_lt, lc_gt, lc_eq, lc_le, lc_ge, i01_eq, i01_ok, ite_not, true_or, or_true, true_and, and_true, false_or, or_false, false_and, and_false, if_true, if_false, not_true_eq_false, not_false_eq_true, eq_self, Nat.reduceAdd, Nat.reduceLeDiff, Nat.reduceLT, Nat.reduceEqDiff, Nat.reduceMul, Nat.reduceSub, Nat.reduceDiv, Nat.reduceMod, reduceCtorEq, Nat.zero_le, i3_le, i3_lt, i3_eq, i3_eqN, i3_leN, i3_Nle, i3_ltN, i3_NleN, i3_NeqN, i3_Neq, i3_NltN, i3_Nlt, l6_le, l6_lt, l6_eq, l6_leN, l6_Nle, l6_ltN, l6_Nlt, l6_eqN, l6_Neq, sg, tb, Bool.false_eq_true, h, decide_false, e, b2, b4, b5, b6, ↓reduceIte]
  · by_cases h : p + 1 < len
    · simp only [e_H_thrownBack, r_H_thrownBack_0, r_H_thrownBack_1, r_H_thrownBack_2, r_H_thrownBack_3, r_H_thrownBack_6, r_H_thrownBack_7, r_H_thrownBack_8, r_H_thrownBack_9, r_H_thrownBack_10, r_H_thrownBack_13, r_H_thrownBack_14, r_H_thrownBack_15, r_H_thrownBack_18, r_H_thrownBack_19, i3n_0, i3n_1, l6n_0, l6n_1, am_kf_s, am_km_s, am_kn_s, am_k_v, am_k_0, am_isr_r, am_isr_n, am_isr_v, am_sw_0, am_sw_i, am_sw_l, am_sw_r, am_sw_n, am_sw_v, am_ct_i, am_ct_r, am_ct_n, am_c1_o, am_c1_n, am_c1_i, am_c1_r, am_c1_v, am_mk_1, lc_lt, lc_gt, lc_eq, lc_le, lc_ge, i01_eq, i01_ok, ite_not, true_or, or_true, true_and, and_true, false_or, or_false, false_and, and_false, if_true, if_false, not_true_eq_false, not_false_eq_true, eq_self, Nat.reduceAdd, Nat.reduceLeDiff, Nat.reduceLT, Nat.reduceEqDiff, Nat.reduceMul, Nat.reduceSub, Nat.reduceDiv, Nat.reduceMod, reduceCtorEq, Nat.zero_le, i3_le, i3_lt, i3_eq, i3_eqN, i3_leN, i3_Nle, i3_ltN, i3_NleN, i3_NeqN, i3_Neq, i3_NltN, i3_Nlt, l6_le, l6_lt, l6_eq, l6_leN, l6_Nle, l6_ltN, l6_Nlt, l6_eqN, l6_Neq, sg, tb, h, decide_true, i3_add, b1, b2, b3, ↓reduceIte]
    · simp only [e_H_thrownBack, r_H_thrownBack_0, r_H_thrownBack_1, r_H_thrownBack_2, r_H_thrownBack_3, r_H_thrownBack_6, r_H_thrownBack_7, r_H_thrownBack_8, r_H_thrownBack_9, r_H_thrownBack_10, r_H_thrownBack_13, r_H_thrownBack_14, r_H_thrownBack_15, r_H_thrownBack_18, r_H_thrownBack_19, i3n_0, i3n_1, l6n_0, l6n_1, am_kf_s, am_km_s, am_kn_s, am_k_v, am_k_0, am_isr_r, am_isr_n, am_isr_v, am_sw_0, am_sw_i, am_sw_l, am_sw_r, am_sw_n, am_sw_v, am_ct_i, am_ct_r, am_ct_n, am_c1_o, am_c1_n, am_c1_i, am_c1_r, am_c1_v, am_mk_1, lc_lt, lc_gt, lc_eq, lc_le, lc_ge, i01_eq, i01_ok, ite_not, true_or, or_true, true_and, and_true, false_or, or_false, false_and, and_false, if_true, if_false, not_true_eq_false, not_false_eq_true, eq_self, Nat.reduceAdd, Nat.reduceLeDiff, Nat.reduceLT, Nat.reduceEqDiff, Nat.reduceMul, Nat.reduceSub, Nat.reduceDiv, Nat.reduceMod, reduceCtorEq, Nat.zero_le, i3_le, i3_lt, i3_eq, i3_eqN, i3_leN, i3_Nle, i3_ltN, i3_NleN, i3_NeqN, i3_Neq, i3_NltN, i3_Nlt, l6_le, l6_lt, l6_eq, l6_leN, l6_Nle, l6_ltN, l6_Nlt, l6_eqN, l6_Neq, sg, tb, h, decide_false, Bool.false_eq_true, i3_add, b1, b2, b3, ↓reduceIte]
end
