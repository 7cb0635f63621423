/-! echo, hears: the reference's walk -/
section
variable {G : Nat → Value} {x : Nat}
theorem l_M_goes0 {d w dp i seat way n : Nat} {Z : ly_Z} {L : Nat → Nat → Int64} {R : Nat → Nat → Option Nat} {D : am_M} (hi : i < 6) (hm : w * dp ≤ 400) : ∀ (r k : Nat) (C : Nat → Nat → Int32), w * dp - k = r → k ≤ w * dp → C 38 i = Int32.ofNat w → C 39 i = Int32.ofNat dp → am_run G (d + 1) K_M_goes (3, [some (.ref (x + 31)), some (.int (Int32.ofNat i)), some (.int (Int32.ofNat seat)), some (.int (Int32.ofNat way)), some (.int (Int32.ofNat n)), some (.int (Int32.ofNat k)), none, none, none, none], [], am_mk x true Z C L R D) = am_run G (d + 1) K_M_goes (35, [some (.ref (x + 31)), some (.int (Int32.ofNat i)), some (.int (Int32.ofNat seat)), some (.int (Int32.ofNat way)), some (.int (Int32.ofNat n)), some (.int (Int32.ofNat (w * dp))), none, none, none, none], [], am_mk x true Z (uk C 52 (fun m => if k ≤ m ∧ m < w * dp then Int32.ofNat 0 else C 52 m)) L R D) := by
  intro r
  induction r with
  | zero =>
    intro k C hk hkn m1 m2
    have : k = w * dp := by omega
    subst this
    have b1 : w * dp < 2147483648 := by omega
    have e : (fun m => if w * dp ≤ m ∧ m < w * dp then Int32.ofNat 0 else C 52 m) = C 52 := funext (fun m => by rw [if_neg (by omega)])
    rw [e, uk_self, r_M_goes_3]
    simp only [r_M_goes_5, r_M_goes_6, r_M_goes_9, r_M_goes_10, r_M_goes_11, r_M_goes_12, r_M_goes_15, r_M_goes_16, r_M_goes_17, r_M_goes_18, r_M_goes_21, r_M_goes_22, r_M_goes_25, r_M_goes_27, r_M_goes_28, r_M_goes_29, r_M_goes_29_k, r_M_goes_32, ly_g31_15, ly_n38, ly_r38, ly_w38, ly_g31_16, ly_n39, ly_r39, ly_w39, ly_g31_44, ly_n52, ly_r52, ly_w52, i3n_0, i3n_1, i3n_2, i3n_3, l6n_0, l6n_1, am_kf_s, am_km_s, am_kn_s, am_k_v, am_k_0, am_isr_r, am_isr_n, am_isr_v, am_sw_0, am_sw_i, am_sw_l, am_sw_r, am_sw_n, am_sw_v, am_ct_i, am_ct_r, am_ct_n, am_c1_o, am_c1_n, am_c1_i, am_c1_r, am_c1_v, am_mk_1, lc_lt, lc_gt, lc_eq, lc_le, lc_ge, i01_eq, i01_ok, ite_not, true_or, or_true, true_and, and_true, false_or, or_false, false_and, and_false, if_true, if_false, not_true_eq_false, not_false_eq_true, eq_self, Nat.reduceAdd, Nat.reduceLeDiff, Nat.reduceLT, Nat.reduceEqDiff, Nat.reduceMul, Nat.reduceSub, Nat.reduceDiv, Nat.reduceMod, reduceCtorEq, Nat.zero_le, i3_le, i3_lt, i3_eq, i3_eqN, i3_leN, i3_Nle, i3_ltN, i3_NleN, i3_NeqN, i3_Neq, i3_NltN, i3_Nlt, l6_le, l6_lt, l6_eq, l6_leN, l6_Nle, l6_ltN, l6_Nlt, l6_eqN, l6_Neq, hi, m1, m2, b1, i3_mul, Nat.le_refl, ↓reduceIte]
  | succ r ih =>
    intro k C hk hkn m1 m2
    have b1 : k < 2147483648 := by omega
    have b2 : w * dp < 2147483648 := by omega
    have b3 : ¬ w * dp ≤ k := by omega
    have b4 : k < 400 := by omega
    have e := ih (k + 1) (ux C 52 k (Int32.ofNat 0)) (by omega) (by omega) (by rw [ux_ne (by omega)]; exact m1) (by rw [ux_ne (by omega)]; exact m2)
    have e2 : uk (ux C 52 k (Int32.ofNat 0)) 52 (fun m => if k + 1 ≤ m ∧ m < w * dp then Int32.ofNat 0 else ux C 52 k (Int32.ofNat 0) 52 m) = uk C 52 (fun m => if k ≤ m ∧ m < w * dp then Int32.ofNat 0 else C 52 m) := by
      funext y
      by_cases hy : y = 52
      · subst hy
        rw [uk_at, uk_at]
        funext m
        by_cases hm : m = k
        · subst hm
          rw [if_neg (by omega), ux_at, if_pos ⟨Nat.le_refl _, by omega⟩]
        · rw [ux_ne (by omega)]
          by_cases h2 : k ≤ m ∧ m < w * dp
          · rw [if_pos h2, if_pos (by omega)]
          · rw [if_neg h2, if_neg (by omega)]
      · rw [uk_ne hy, uk_ne hy]
        funext z
        rw [ux_ne (by omega)]
    rw [e2] at e
    rw [← e, r_M_goes_3]
    simp only [r_M_goes_5, r_M_goes_6, r_M_goes_9, r_M_goes_10, r_M_goes_11, r_M_goes_12, r_M_goes_15, r_M_goes_16, r_M_goes_17, r_M_goes_18, r_M_goes_21, r_M_goes_22, r_M_goes_25, r_M_goes_27, r_M_goes_28, r_M_goes_29, r_M_goes_29_k, r_M_goes_32, ly_g31_15, ly_n38, ly_r38, ly_w38, ly_g31_16, ly_n39, ly_r39, ly_w39, ly_g31_44, ly_n52, ly_r52, ly_w52, i3n_0, i3n_1, i3n_2, i3n_3, l6n_0, l6n_1, am_kf_s, am_km_s, am_kn_s, am_k_v, am_k_0, am_isr_r, am_isr_n, am_isr_v, am_sw_0, am_sw_i, am_sw_l, am_sw_r, am_sw_n, am_sw_v, am_ct_i, am_ct_r, am_ct_n, am_c1_o, am_c1_n, am_c1_i, am_c1_r, am_c1_v, am_mk_1, lc_lt, lc_gt, lc_eq, lc_le, lc_ge, i01_eq, i01_ok, ite_not, true_or, or_true, true_and, and_true, false_or, or_false, false_and, and_false, if_true, if_false, not_true_eq_false, not_false_eq_true, eq_self, Nat.reduceAdd, Nat.reduceLeDiff, Nat.reduceLT, Nat.reduceEqDiff, Nat.reduceMul, Nat.reduceSub, Nat.reduceDiv, Nat.reduceMod, reduceCtorEq, Nat.zero_le, i3_le, i3_lt, i3_eq, i3_eqN, i3_leN, i3_Nle, i3_ltN, i3_NleN, i3_NeqN, i3_Neq, i3_NltN, i3_Nlt, l6_le, l6_lt, l6_eq, l6_leN, l6_Nle, l6_ltN, l6_Nlt, l6_eqN, l6_Neq, hi, m1, m2, b1, b2, b3, b4, i3_mul, i3_add, ↓reduceIte]
theorem x_M_turn {len p : Nat} {b : Bool} (hl : 2 ≤ len) (hl2 : len ≤ 20) (hp : p < len) : (Int32.ofNat 0 ≤ Int32.ofNat p + sg b ∧ Int32.ofNat p + sg b ≤ Int32.ofNat len - Int32.ofNat 1) ↔ tb len p b = b := by
  have e1 : Int32.ofNat len - Int32.ofNat 1 = Int32.ofNat (len - 1) := i3_sub (by omega)
  rw [e1]
  cases b
  · by_cases h : p = 0
    · subst h
      have e0 : Int32.ofNat 0 + sg false = -Int32.ofNat 1 := by decide
      have e3 : ¬ Int32.ofNat 0 ≤ -Int32.ofNat 1 := by decide
      rw [e0]
      simp only [e3, false_and, tb, Bool.false_eq_true, if_false, decide_true, reduceCtorEq]
    · have e : Int32.ofNat p + sg false = Int32.ofNat (p - 1) := by rw [sg_f, ← Int32.sub_eq_add_neg, i3_sub (by omega)]
      rw [e, i3_le (by omega) (by omega), i3_le (by omega) (by omega)]
      simp only [tb, Bool.false_eq_true, if_false, h, decide_false, iff_true]
      omega
  · have e : Int32.ofNat p + sg true = Int32.ofNat (p + 1) := by rw [sg_t, i3_add]
    rw [e, i3_le (by omega) (by omega), i3_le (by omega) (by omega)]
    by_cases h : p + 1 < len
    · simp only [tb, if_true, h, decide_true, iff_true]
      omega
    · simp only [tb, if_true, h, decide_false, Bool.false_eq_true, iff_false]
      omega
theorem sg_neg {b : Bool} : - sg b = sg (!b) := by cases b <;> decide
theorem tb_not {len p : Nat} {b : Bool} (h : ¬ tb len p b = b) : tb len p b = !b := by
  cases hb : b <;> cases ht : tb len p b <;> simp_all
end
