/-! more small numbers -/
theorem l6_negI {a : Nat} (h : a < 9223372036854775808) : (-Int64.ofNat a).toInt = -(a : Int) := by
  rw [Int64.neg_ofNat, Int64.toInt_ofInt_of_le (by omega) (by omega)]
theorem l6_leN {a b : Nat} (ha : a < 9223372036854775808) (hb : b < 9223372036854775808) (h0 : 0 < b) : (Int64.ofNat a ≤ -Int64.ofNat b) = False := by
  rw [Int64.le_iff_toInt_le, Int64.toInt_ofNat_of_lt ha, l6_negI hb]
  simp only [eq_iff_iff, iff_false]
  omega
theorem l6_Nle {a b : Nat} (ha : a < 9223372036854775808) (hb : b < 9223372036854775808) : (-Int64.ofNat b ≤ Int64.ofNat a) = True := by
  rw [Int64.le_iff_toInt_le, Int64.toInt_ofNat_of_lt ha, l6_negI hb]
  simp only [eq_iff_iff, iff_true]
  omega
theorem l6_ltN {a b : Nat} (ha : a < 9223372036854775808) (hb : b < 9223372036854775808) : (Int64.ofNat a < -Int64.ofNat b) = False := by
  rw [Int64.lt_iff_toInt_lt, Int64.toInt_ofNat_of_lt ha, l6_negI hb]
  simp only [eq_iff_iff, iff_false]
  omega
theorem l6_Nlt {a b : Nat} (ha : a < 9223372036854775808) (hb : b < 9223372036854775808) (h0 : 0 < b) : (-Int64.ofNat b < Int64.ofNat a) = True := by
  rw [Int64.lt_iff_toInt_lt, Int64.toInt_ofNat_of_lt ha, l6_negI hb]
  simp only [eq_iff_iff, iff_true]
  omega
theorem l6_eqN {a b : Nat} (ha : a < 9223372036854775808) (hb : b < 9223372036854775808) (h0 : 0 < b) : (Int64.ofNat a = -Int64.ofNat b) = False := by
  rw [← Int64.toInt_inj, Int64.toInt_ofNat_of_lt ha, l6_negI hb]
  simp only [eq_iff_iff, iff_false]
  omega
theorem l6_Neq {a b : Nat} (ha : a < 9223372036854775808) (hb : b < 9223372036854775808) (h0 : 0 < b) : (-Int64.ofNat b = Int64.ofNat a) = False := by
  rw [← Int64.toInt_inj, Int64.toInt_ofNat_of_lt ha, l6_negI hb]
  simp only [eq_iff_iff, iff_false]
  omega
theorem l6_sub {a b : Nat} (h : b ≤ a) : Int64.ofNat a - Int64.ofNat b = Int64.ofNat (a - b) := (Int64.ofNat_sub a b h).symm
theorem i3_longN {b : Nat} (h : b < 2147483648) : (-Int32.ofNat b).toInt64 = -Int64.ofNat b := by
  apply Int64.toInt_inj.mp
  rw [Int32.toInt_toInt64, i3_negI h, l6_negI (by omega)]
section
variable {G : Nat → Value} {d : Nat} {M : am_M}
theorem x_M_in {v lo hi : Int64} : am_ex G (d + 1) K_M_in [.long v, .long lo, .long hi] M = some (some (.int (if lo ≤ v ∧ v ≤ hi then Int32.ofNat 1 else Int32.ofNat 0)), M) := by
  simp only [e_M_in, r_M_in_0, r_M_in_1, r_M_in_2, r_M_in_3, r_M_in_6, r_M_in_7, r_M_in_9, r_M_in_10, r_M_in_13, r_M_in_14, r_M_in_17, r_M_in_18, i3n_0, i3n_1, l6n_0, l6n_1, am_kf_s, am_km_s, am_kn_s, am_k_v, am_k_0, am_isr_r, am_isr_n, am_isr_v, am_sw_0, am_sw_i, am_sw_l, am_sw_r, am_sw_n, am_sw_v, am_ct_i, am_ct_r, am_ct_n, am_c1_o, am_c1_n, am_c1_i, am_c1_r, am_c1_v, am_mk_1, lc_lt, lc_gt, lc_eq, lc_le, lc_ge, i01_eq, i01_ok, ite_not, true_or, or_true, true_and, and_true, false_or, or_false, false_and, and_false, if_true, if_false, not_true_eq_false, not_false_eq_true, eq_self, Nat.reduceAdd, Nat.reduceLeDiff, Nat.reduceLT, Nat.reduceEqDiff, Nat.reduceMul, Nat.reduceSub, Nat.reduceDiv, Nat.reduceMod, reduceCtorEq, Nat.zero_le, i3_le, i3_lt, i3_eq, i3_eqN, i3_leN, i3_Nle, i3_ltN, i3_NleN, i3_NeqN, i3_Neq, i3_NltN, i3_Nlt, l6_le, l6_lt, l6_eq, l6_leN, l6_Nle, l6_ltN, l6_Nlt, l6_eqN, l6_Neq]
  by_cases h1 : v < lo
  · have : ¬ (lo ≤ v ∧ v ≤ hi) := fun e => Int64.lt_irrefl (Int64.lt_of_lt_of_le h1 e.1)
    simp only [h1, this, if_true, if_false]
  · by_cases h2 : hi < v
    · have : ¬ (lo ≤ v ∧ v ≤ hi) := fun e => Int64.lt_irrefl (Int64.lt_of_lt_of_le h2 e.2)
      simp only [h1, h2, this, if_true, if_false]
    · have : lo ≤ v ∧ v ≤ hi := ⟨Int64.not_lt.mp h1, Int64.not_lt.mp h2⟩
      simp only [h1, h2, this, if_true, if_false, and_self]
theorem x_H_within {v lo hi : Int32} : am_ex G (d + 1) K_H_within [.int v, .int lo, .int hi] M = some (some (.int (if lo ≤ v ∧ v ≤ hi then Int32.ofNat 1 else Int32.ofNat 0)), M) := by
  simp only [e_H_within, r_H_within_0, r_H_within_1, r_H_within_2, r_H_within_5, r_H_within_6, r_H_within_7, r_H_within_10, r_H_within_11, r_H_within_14, r_H_within_15, i3n_0, i3n_1, l6n_0, l6n_1, am_kf_s, am_km_s, am_kn_s, am_k_v, am_k_0, am_isr_r, am_isr_n, am_isr_v, am_sw_0, am_sw_i, am_sw_l, am_sw_r, am_sw_n, am_sw_v, am_ct_i, am_ct_r, am_ct_n, am_c1_o, am_c1_n, am_c1_i, am_c1_r, am_c1_v, am_mk_1, lc_lt, lc_gt, lc_eq, lc_le, lc_ge, i01_eq, i01_ok, ite_not, true_or, or_true, true_and, and_true, false_or, or_false, false_and, and_false, if_true, if_false, not_true_eq_false, not_false_eq_true, eq_self, Nat.reduceAdd, Nat.reduceLeDiff, Nat.reduceLT, Nat.reduceEqDiff, Nat.reduceMul, Nat.reduceSub, Nat.reduceDiv, Nat.reduceMod, reduceCtorEq, Nat.zero_le, i3_le, i3_lt, i3_eq, i3_eqN, i3_leN, i3_Nle, i3_ltN, i3_NleN, i3_NeqN, i3_Neq, i3_NltN, i3_Nlt, l6_le, l6_lt, l6_eq, l6_leN, l6_Nle, l6_ltN, l6_Nlt, l6_eqN, l6_Neq]
  by_cases h1 : lo ≤ v
  · have h1' : ¬ v < lo := Int32.not_lt.mpr h1
    by_cases h2 : v ≤ hi
    · have h2' : ¬ hi < v := Int32.not_lt.mpr h2
      simp only [h1, h2, h1', h2', if_true, if_false, and_self]
    · have h2' : hi < v := Int32.not_le.mp h2
      simp only [h1, h2, h1', h2', if_true, if_false, and_false]
  · have h1' : v < lo := Int32.not_le.mp h1
    simp only [h1, h1', if_true, if_false, false_and]
end
