/-! LETS: the class's judge -/
def jv (m : Nat) : Int64 := match m with
  | 0 => -Int64.ofNat 1
  | m + 1 => Int64.ofNat m
theorem jv_int {m : Nat} (h : m < 4611686018427387904) : (jv m).toInt = (m : Int) - 1 := by
  cases m with
  | zero => rfl
  | succ m =>
    show (Int64.ofNat m).toInt = _
    rw [Int64.toInt_ofNat_of_lt (by omega)]
    omega
theorem jv_lt {a m : Nat} (ha : a < 4611686018427387904) (hm : m < 4611686018427387904) : (jv m < Int64.ofNat a) = (m ≤ a) := by
  rw [Int64.lt_iff_toInt_lt, jv_int hm, Int64.toInt_ofNat_of_lt (by omega)]
  simp only [eq_iff_iff]
  omega
theorem jv_ge {a m : Nat} (ha : a < 4611686018427387904) (hm : m < 4611686018427387904) : (Int64.ofNat a ≤ jv m) = (a < m) := by
  rw [Int64.le_iff_toInt_le, jv_int hm, Int64.toInt_ofNat_of_lt (by omega)]
  simp only [eq_iff_iff]
  omega
theorem jv_min {a m : Nat} (ha : a < 4611686018427387904) (hm : m < 4611686018427387904) : (if jv a < jv m then jv a else jv m) = jv (min m a) := by
  by_cases h : a < m
  · rw [if_pos (by rw [Int64.lt_iff_toInt_lt, jv_int hm, jv_int ha]; omega), Nat.min_eq_right (Nat.le_of_lt h)]
  · rw [if_neg (by rw [Int64.lt_iff_toInt_lt, jv_int hm, jv_int ha]; omega), Nat.min_eq_left (Nat.not_lt.mp h)]
theorem l6_max {a b : Nat} : (if b < a then Int64.ofNat a else Int64.ofNat b) = Int64.ofNat (max a b) := by
  by_cases h : b < a
  · rw [if_pos h, Nat.max_eq_left (Nat.le_of_lt h)]
  · rw [if_neg h, Nat.max_eq_right (Nat.not_lt.mp h)]
theorem i3_max {a b : Nat} : (if a < b then Int32.ofNat b else Int32.ofNat a) = Int32.ofNat (max a b) := by
  by_cases h : a < b
  · rw [if_pos h, Nat.max_eq_right (Nat.le_of_lt h)]
  · rw [if_neg h, Nat.max_eq_left (Nat.not_lt.mp h)]
theorem jv_cnt {a m : Nat} (h : a < m) (hm : m < 1000000) : (jv m - Int64.ofNat a + Int64.ofNat 1).toInt32 = Int32.ofNat (m - a) := by
  cases m with
  | zero => exact absurd h (Nat.not_lt_zero _)
  | succ m =>
    show (Int64.ofNat m - Int64.ofNat a + Int64.ofNat 1).toInt32 = _
    rw [l6_sub (by omega), l6_add]
    apply Int32.toInt_inj.mp
    rw [Int64.toInt_toInt32, Int64.toInt_ofNat_of_lt (by omega), Int32.toInt_ofNat_of_lt (by omega), Int.bmod_def]
    omega
section
variable {G : Nat → Value} {x : Nat} {N : Nat → Nat → Nat} {Z : ly_Z} {C : Nat → Nat → Int32} {L : Nat → Nat → Int64} {R : Nat → Nat → Option Nat} {D : am_M}
theorem hi_1 {he la s : Nat} (h1 : he < 1000000) (h2 : la < 1000000) (h3 : s < 1000000) (h : la + s < he) : Int64.ofNat he - Int64.ofNat la - Int64.ofNat s = Int64.ofNat (he - la - s) := by
  rw [l6_sub (by omega), l6_sub (by omega)]
theorem bl_le (h : rl G N x Z C R D) {i c s : Nat} (hi : i < N 31 27) (hc : c ≤ 999) (hs : s ≤ 9999) : bl N c s i ≤ 2000000000000 ∧ bm N c s i ≤ 2000000000000 := by
  obtain ⟨-, n2, r1, a4, a5, a6, a7, a8, -⟩ := h.2.2.2.1 i hi
  have h3 := mA_lt h hi hc
  have q1 := Nat.mul_le_mul (show N 47 i - mL N i - s ≤ 99999 by omega) h3.2
  have q2 := Nat.mul_le_mul (show N 47 i + s - mL N i + 1 ≤ 110000 by omega) h3.2
  have hsz := (h.2.2.1 _ a5.2.2).2.2.2.2.2.2.2.2.1.2.2
  have d1 := Nat.div_le_self ((N 47 i - mL N i - s) * mA N i c + N 37 (N 44 i) * 100 - 1) (N 37 (N 44 i) * 100)
  have d2 := Nat.div_le_self ((N 47 i + s - mL N i + 1) * mA N i c - 1) (N 37 (N 44 i) * 100)
  unfold bl bm
  constructor
  · split <;> omega
  · split <;> omega
theorem x_Sp_leastLaw (h : rl G N x Z C R D) {l : List Nat} (hs : sp_ok N Z C L R l) (hl : l.length ≤ 40) (hv : ∀ i, i ∈ l → i < N 31 27) {d c k i s : Nat} (hc : c ≤ 999) (hs9 : s ≤ 9999) (ha : ∀ k' i, l[k']? = some i → L 15 k' = Int64.ofNat (mA N i c)) (hk : l[k]? = some i) : am_ex G (d + 2) K_Sp_leastLaw [.ref (x + 10), .int (Int32.ofNat k), .long (Int64.ofNat (N 47 i) - Int64.ofNat (mL N i) - Int64.ofNat s)] (am_mk x true Z C L R D) = some (some (.long (Int64.ofNat (bl N c s i))), am_mk x true Z C L R D) := by
  have hin := hv i (List.mem_of_getElem? hk)
  have k1 := (List.getElem?_eq_some_iff.mp hk).1
  obtain ⟨-, -, s3, -, s5⟩ := hs.2 k i hk
  obtain ⟨-, n2, r1, a4, a5, a6, a7, a8, -⟩ := h.2.2.2.1 i hin
  have hsz := (h.2.2.1 _ a5.2.2).2.2.2.2.2.2.2.2.1.2.2
  have h2 := mL_le (N := N) (i := i)
  have h3 := mA_lt h hin hc
  have b1 : k < 2147483648 := by omega
  have b4 : k < 40 := by omega
  unfold bl
  by_cases hle : N 47 i ≤ mL N i + s
  · have e : (Int64.ofNat 0 < Int64.ofNat (N 47 i) - Int64.ofNat (mL N i) - Int64.ofNat s) = False := by
      have := l6_sub2 (p := N 47 i) (q := mL N i) (r := s) (by omega) (by omega) (by omega)
      have h0 : (Int64.ofNat 0).toInt = 0 := rfl
      rw [Int64.lt_iff_toInt_lt, this, h0]
      simp only [eq_iff_iff, iff_false]
      omega
    simp only [e_Sp_leastLaw, r_Sp_leastLaw_0, r_Sp_leastLaw_1, r_Sp_leastLaw_2, r_Sp_leastLaw_3, r_Sp_leastLaw_6, r_Sp_leastLaw_7, r_Sp_leastLaw_10, r_Sp_leastLaw_11, r_Sp_leastLaw_12, r_Sp_leastLaw_15, r_Sp_leastLaw_16, r_Sp_leastLaw_17, r_Sp_leastLaw_18, r_Sp_leastLaw_19, r_Sp_leastLaw_22, r_Sp_leastLaw_23, r_Sp_leastLaw_24, r_Sp_leastLaw_25, r_Sp_leastLaw_26, r_Sp_leastLaw_27, r_Sp_leastLaw_28, r_Sp_leastLaw_31, r_Sp_leastLaw_32, r_Sp_leastLaw_33, r_Sp_leastLaw_36, ly_g10_5, ly_n15, ly_r15, ly_w15, ly_g10_3, ly_n13, ly_r13, ly_w13, i3n_0, i3n_1, l6n_0, l6n_1, am_kf_s, am_km_s, am_kn_s, am_k_v, am_k_0, am_isr_r, am_isr_n, am_isr_v, am_sw_0, am_sw_i, am_sw_l, am_sw_r, am_sw_n, am_sw_v, am_ct_i, am_ct_r, am_ct_n, am_c1_o, am_c1_n, am_c1_i, am_c1_r, am_c1_v, am_mk_1, lc_lt, lc_gt, lc_eq, lc_le, lc_ge, i01_eq, i01_ok, ite_not, true_or, or_true, true_and, and_true, false_or, or_false, false_and, and_false, if_true, if_false, not_true_eq_false, not_false_eq_true, eq_self, Nat.reduceAdd, Nat.reduceLeDiff, Nat.reduceLT, Nat.reduceEqDiff, Nat.reduceMul, Nat.reduceSub, Nat.reduceDiv, Nat.reduceMod, reduceCtorEq, Nat.zero_le, i3_le, i3_lt, i3_eq, i3_eqN, i3_leN, i3_Nle, i3_ltN, i3_NleN, i3_NeqN, i3_Neq, i3_NltN, i3_Nlt, l6_le, l6_lt, l6_eq, l6_leN, l6_Nle, l6_ltN, l6_Nlt, l6_eqN, l6_Neq, e, hle, ↓reduceIte]
  · rw [hi_1 (by omega) (by omega) (by omega) (show mL N i + s < N 47 i by omega), if_neg hle]
    have q1 := Nat.mul_le_mul (show N 47 i - mL N i - s ≤ 99999 by omega) h3.2
    generalize ht : N 47 i - mL N i - s = t at *
    have t0 : 0 < t := by omega
    have t1 : t < 9223372036854775808 := by omega
    have e1 : Int64.ofNat (t * mA N i c + N 37 (N 44 i) * 100) - Int64.ofNat 1 = Int64.ofNat (t * mA N i c + N 37 (N 44 i) * 100 - 1) := l6_sub (by omega)
    have eq := x_H_quotient (G := G) (d := d) (a := Int64.ofNat (t * mA N i c + N 37 (N 44 i) * 100 - 1)) (b := Int64.ofNat (N 37 (N 44 i) * 100)) (M := am_mk x true Z C L R D) (l6_ne0 (by omega) (by omega))
    rw [l6_div (by omega) (by omega)] at eq
    simp only [e_Sp_leastLaw, r_Sp_leastLaw_0, r_Sp_leastLaw_1, r_Sp_leastLaw_2, r_Sp_leastLaw_3, r_Sp_leastLaw_6, r_Sp_leastLaw_7, r_Sp_leastLaw_10, r_Sp_leastLaw_11, r_Sp_leastLaw_12, r_Sp_leastLaw_15, r_Sp_leastLaw_16, r_Sp_leastLaw_17, r_Sp_leastLaw_18, r_Sp_leastLaw_19, r_Sp_leastLaw_22, r_Sp_leastLaw_23, r_Sp_leastLaw_24, r_Sp_leastLaw_25, r_Sp_leastLaw_26, r_Sp_leastLaw_27, r_Sp_leastLaw_28, r_Sp_leastLaw_31, r_Sp_leastLaw_32, r_Sp_leastLaw_33, r_Sp_leastLaw_36, ly_g10_5, ly_n15, ly_r15, ly_w15, ly_g10_3, ly_n13, ly_r13, ly_w13, i3n_0, i3n_1, l6n_0, l6n_1, am_kf_s, am_km_s, am_kn_s, am_k_v, am_k_0, am_isr_r, am_isr_n, am_isr_v, am_sw_0, am_sw_i, am_sw_l, am_sw_r, am_sw_n, am_sw_v, am_ct_i, am_ct_r, am_ct_n, am_c1_o, am_c1_n, am_c1_i, am_c1_r, am_c1_v, am_mk_1, lc_lt, lc_gt, lc_eq, lc_le, lc_ge, i01_eq, i01_ok, ite_not, true_or, or_true, true_and, and_true, false_or, or_false, false_and, and_false, if_true, if_false, not_true_eq_false, not_false_eq_true, eq_self, Nat.reduceAdd, Nat.reduceLeDiff, Nat.reduceLT, Nat.reduceEqDiff, Nat.reduceMul, Nat.reduceSub, Nat.reduceDiv, Nat.reduceMod, reduceCtorEq, Nat.zero_le, i3_le, i3_lt, i3_eq, i3_eqN, i3_leN, i3_Nle, i3_ltN, i3_NleN, i3_NeqN, i3_Neq, i3_NltN, i3_Nlt, l6_le, l6_lt, l6_eq, l6_leN, l6_Nle, l6_ltN, l6_Nlt, l6_eqN, l6_Neq, t0, t1, b1, b4, s3, ha k i hk, l6_mul, l6_add, e1, eq, ↓reduceIte]
theorem hi_2 {he la s : Nat} (h1 : he < 1000000) (h2 : la < 1000000) (h3 : s < 1000000) (h : la ≤ he + s) : Int64.ofNat he - Int64.ofNat la + Int64.ofNat s = Int64.ofNat (he + s - la) := by
  apply Int64.toInt_inj.mp
  rw [Int64.toInt_add, Int64.toInt_sub, Int64.toInt_ofNat_of_lt (by omega), Int64.toInt_ofNat_of_lt (by omega), Int64.toInt_ofNat_of_lt (by omega), Int64.toInt_ofNat_of_lt (by omega)]
  simp only [Int.bmod_def]
  omega
theorem x_Sp_mostLaw (h : rl G N x Z C R D) {l : List Nat} (hs : sp_ok N Z C L R l) (hl : l.length ≤ 40) (hv : ∀ i, i ∈ l → i < N 31 27) {d c k i s : Nat} (hc : c ≤ 999) (hs9 : s ≤ 9999) (ha : ∀ k' i, l[k']? = some i → L 15 k' = Int64.ofNat (mA N i c)) (hk : l[k]? = some i) : am_ex G (d + 2) K_Sp_mostLaw [.ref (x + 10), .int (Int32.ofNat k), .long (Int64.ofNat (N 47 i) - Int64.ofNat (mL N i) + Int64.ofNat s)] (am_mk x true Z C L R D) = some (some (.long (jv (bm N c s i))), am_mk x true Z C L R D) := by
  have hin := hv i (List.mem_of_getElem? hk)
  have k1 := (List.getElem?_eq_some_iff.mp hk).1
  obtain ⟨-, -, s3, -, s5⟩ := hs.2 k i hk
  obtain ⟨-, n2, r1, a4, a5, a6, a7, a8, -⟩ := h.2.2.2.1 i hin
  have hsz := (h.2.2.1 _ a5.2.2).2.2.2.2.2.2.2.2.1.2.2
  have h2 := mL_le (N := N) (i := i)
  have h3 := mA_lt h hin hc
  have b1 : k < 2147483648 := by omega
  have b4 : k < 40 := by omega
  unfold bm
  by_cases hle : N 47 i + s < mL N i
  · have e : (Int64.ofNat 0 ≤ Int64.ofNat (N 47 i) - Int64.ofNat (mL N i) + Int64.ofNat s) = False := by
      have h0 : (Int64.ofNat 0).toInt = 0 := rfl
      rw [Int64.le_iff_toInt_le, h0, Int64.toInt_add, Int64.toInt_sub, Int64.toInt_ofNat_of_lt (by omega), Int64.toInt_ofNat_of_lt (by omega), Int64.toInt_ofNat_of_lt (by omega)]
      simp only [Int.bmod_def, eq_iff_iff, iff_false]
      omega
    rw [if_pos hle]
    simp only [e_Sp_mostLaw, r_Sp_mostLaw_0, r_Sp_mostLaw_1, r_Sp_mostLaw_2, r_Sp_mostLaw_3, r_Sp_mostLaw_6, r_Sp_mostLaw_9, r_Sp_mostLaw_12, r_Sp_mostLaw_13, r_Sp_mostLaw_14, r_Sp_mostLaw_15, r_Sp_mostLaw_16, r_Sp_mostLaw_19, r_Sp_mostLaw_20, r_Sp_mostLaw_21, r_Sp_mostLaw_22, r_Sp_mostLaw_23, r_Sp_mostLaw_24, r_Sp_mostLaw_25, r_Sp_mostLaw_28, r_Sp_mostLaw_29, r_Sp_mostLaw_30, r_Sp_mostLaw_33, ly_g10_5, ly_n15, ly_r15, ly_w15, ly_g10_3, ly_n13, ly_r13, ly_w13, i3n_0, i3n_1, l6n_0, l6n_1, am_kf_s, am_km_s, am_kn_s, am_k_v, am_k_0, am_isr_r, am_isr_n, am_isr_v, am_sw_0, am_sw_i, am_sw_l, am_sw_r, am_sw_n, am_sw_v, am_ct_i, am_ct_r, am_ct_n, am_c1_o, am_c1_n, am_c1_i, am_c1_r, am_c1_v, am_mk_1, lc_lt, lc_gt, lc_eq, lc_le, lc_ge, i01_eq, i01_ok, ite_not, true_or, or_true, true_and, and_true, false_or, or_false, false_and, and_false, if_true, if_false, not_true_eq_false, not_false_eq_true, eq_self, Nat.reduceAdd, Nat.reduceLeDiff, Nat.reduceLT, Nat.reduceEqDiff, Nat.reduceMul, Nat.reduceSub, Nat.reduceDiv, Nat.reduceMod, reduceCtorEq, Nat.zero_le, i3_le, i3_lt, i3_eq, i3_eqN, i3_leN, i3_Nle, i3_ltN, i3_NleN, i3_NeqN, i3_Neq, i3_NltN, i3_Nlt, l6_le, l6_lt, l6_eq, l6_leN, l6_Nle, l6_ltN, l6_Nlt, l6_eqN, l6_Neq, e, jv, ↓reduceIte]
  · rw [hi_2 (by omega) (by omega) (by omega) (show mL N i ≤ N 47 i + s by omega), if_neg hle]
    have q1 := Nat.mul_le_mul (show N 47 i + s - mL N i + 1 ≤ 110000 by omega) h3.2
    have q2 := Nat.mul_le_mul (show 1 ≤ N 47 i + s - mL N i + 1 by omega) h3.1
    generalize ht : N 47 i + s - mL N i = t at *
    have t0 : 0 ≤ t := Nat.zero_le _
    have t1 : t < 9223372036854775808 := by omega
    have e1 : Int64.ofNat ((t + 1) * mA N i c) - Int64.ofNat 1 = Int64.ofNat ((t + 1) * mA N i c - 1) := l6_sub (by omega)
    have eq := x_H_quotient (G := G) (d := d) (a := Int64.ofNat ((t + 1) * mA N i c - 1)) (b := Int64.ofNat (N 37 (N 44 i) * 100)) (M := am_mk x true Z C L R D) (l6_ne0 (by omega) (by omega))
    rw [l6_div (by omega) (by omega)] at eq
    simp only [e_Sp_mostLaw, r_Sp_mostLaw_0, r_Sp_mostLaw_1, r_Sp_mostLaw_2, r_Sp_mostLaw_3, r_Sp_mostLaw_6, r_Sp_mostLaw_9, r_Sp_mostLaw_12, r_Sp_mostLaw_13, r_Sp_mostLaw_14, r_Sp_mostLaw_15, r_Sp_mostLaw_16, r_Sp_mostLaw_19, r_Sp_mostLaw_20, r_Sp_mostLaw_21, r_Sp_mostLaw_22, r_Sp_mostLaw_23, r_Sp_mostLaw_24, r_Sp_mostLaw_25, r_Sp_mostLaw_28, r_Sp_mostLaw_29, r_Sp_mostLaw_30, r_Sp_mostLaw_33, ly_g10_5, ly_n15, ly_r15, ly_w15, ly_g10_3, ly_n13, ly_r13, ly_w13, i3n_0, i3n_1, l6n_0, l6n_1, am_kf_s, am_km_s, am_kn_s, am_k_v, am_k_0, am_isr_r, am_isr_n, am_isr_v, am_sw_0, am_sw_i, am_sw_l, am_sw_r, am_sw_n, am_sw_v, am_ct_i, am_ct_r, am_ct_n, am_c1_o, am_c1_n, am_c1_i, am_c1_r, am_c1_v, am_mk_1, lc_lt, lc_gt, lc_eq, lc_le, lc_ge, i01_eq, i01_ok, ite_not, true_or, or_true, true_and, and_true, false_or, or_false, false_and, and_false, if_true, if_false, not_true_eq_false, not_false_eq_true, eq_self, Nat.reduceAdd, Nat.reduceLeDiff, Nat.reduceLT, Nat.reduceEqDiff, Nat.reduceMul, Nat.reduceSub, Nat.reduceDiv, Nat.reduceMod, reduceCtorEq, Nat.zero_le, i3_le, i3_lt, i3_eq, i3_eqN, i3_leN, i3_Nle, i3_ltN, i3_NleN, i3_NeqN, i3_Neq, i3_NltN, i3_Nlt, l6_le, l6_lt, l6_eq, l6_leN, l6_Nle, l6_ltN, l6_Nlt, l6_eqN, l6_Neq, t0, t1, b1, b4, s3, ha k i hk, l6_mul, l6_add, e1, eq, jv, ↓reduceIte]
/-- how far the speakers go -/
def fu (N : Nat → Nat → Nat) (s c lo hi : Nat) (l : List Nat) (v0 k v : Nat) : Prop := (v = v0 ∨ (v ≤ k ∧ ∃ q, lo ≤ q ∧ q ≤ hi ∧ okb N s (l.take v) q c = true)) ∧ v0 ≤ v ∧ ∀ f, f ≤ k → (∃ q, lo ≤ q ∧ q ≤ hi ∧ okb N s (l.take f) q c = true) → f ≤ v
theorem l_Sp_judge (h : rl G N x Z C R D) {l : List Nat} (hs : sp_ok N Z C L R l) (hl : l.length ≤ 40) (hv : ∀ i, i ∈ l → i < N 31 27) {d c s lo hi v0 : Nat} (hc : c ≤ 999) (hs9 : s ≤ 9999) (hhi : hi ≤ 999) (ha : ∀ k' i, l[k']? = some i → L 15 k' = Int64.ofNat (mA N i c)) {l1 l2 l3 : Option Value} : ∀ (r k a m v : Nat), l.length - k = r → k ≤ l.length → lo ≤ a → m ≤ hi + 1 → a ≤ 2000000000000 → v ≤ 40 → (∀ q, lo ≤ q → q ≤ hi → (okb N s (l.take k) q c = true ↔ (a ≤ q ∧ q < m))) → fu N s c lo hi l v0 k v → ∃ (a' m' v' : Nat) (k' : Int32), am_run G (d + 2) K_Sp_judge (11, [some (.ref (x + 10)), l1, l2, l3, some (.int (Int32.ofNat s)), some (.long (Int64.ofNat a)), none, some (.long (jv m)), none, some (.int (Int32.ofNat k))], [], am_mk x true Z (ux C 10 10 (Int32.ofNat v)) L R D) = am_run G (d + 2) K_Sp_judge (112, [some (.ref (x + 10)), l1, l2, l3, some (.int (Int32.ofNat s)), some (.long (Int64.ofNat a')), none, some (.long (jv m')), none, some (.int k')], [], am_mk x true Z (ux C 10 10 (Int32.ofNat v')) L R D) ∧ lo ≤ a' ∧ m' ≤ hi + 1 ∧ a' ≤ 2000000000000 ∧ v' ≤ 40 ∧ (∀ q, lo ≤ q → q ≤ hi → (okb N s l q c = true ↔ (a' ≤ q ∧ q < m'))) ∧ fu N s c lo hi l v0 l.length v' := by
  intro r
  induction r with
  | zero =>
    intro k a m v hr hk hla hmh hab hv40 hI hF
    have e : k = l.length := by omega
    subst e
    have b1 : l.length < 2147483648 := by omega
    refine ⟨a, m, v, Int32.ofNat l.length, ?_, hla, hmh, hab, hv40, ?_, hF⟩
    · rw [r_Sp_judge_11]
      simp only [r_Sp_judge_13, r_Sp_judge_14, r_Sp_judge_17, ly_g10_0, ly_g10_6, ly_n16, ly_r16, ly_w16, ly_k10, ly_g10_10, ly_p10_10, ly_g10_7, ly_p10_7, ly_g10_8, ly_p10_8, ly_g10_9, ly_p10_9, i3n_0, i3n_1, i3n_40, l6n_0, l6n_1, am_kf_s, am_km_s, am_kn_s, am_k_v, am_k_0, am_isr_r, am_isr_n, am_isr_v, am_sw_0, am_sw_i, am_sw_l, am_sw_r, am_sw_n, am_sw_v, am_ct_i, am_ct_r, am_ct_n, am_c1_o, am_c1_n, am_c1_i, am_c1_r, am_c1_v, am_mk_1, lc_lt, lc_gt, lc_eq, lc_le, lc_ge, i01_eq, i01_ok, ite_not, true_or, or_true, true_and, and_true, false_or, or_false, false_and, and_false, if_true, if_false, not_true_eq_false, not_false_eq_true, eq_self, Nat.reduceAdd, Nat.reduceLeDiff, Nat.reduceLT, Nat.reduceEqDiff, Nat.reduceMul, Nat.reduceSub, Nat.reduceDiv, Nat.reduceMod, reduceCtorEq, Nat.zero_le, i3_le, i3_lt, i3_eq, i3_eqN, i3_leN, i3_Nle, i3_ltN, i3_NleN, i3_NeqN, i3_Neq, i3_NltN, i3_Nlt, l6_le, l6_lt, l6_eq, l6_leN, l6_Nle, l6_ltN, l6_Nlt, l6_eqN, l6_Neq, ux_eq, hs.1, b1, Nat.le_refl, ↓reduceIte]
    · rw [List.take_length] at hI; exact hI
  | succ r ih =>
    intro k a m v hr hk hla hmh hab hv40 hI hF
    have hkl : k < l.length := by omega
    obtain ⟨i, hi'⟩ : ∃ i, l[k]? = some i := ⟨l[k], List.getElem?_eq_getElem hkl⟩
    have hin := hv i (List.mem_of_getElem? hi')
    have b1 : l.length < 2147483648 := by omega
    have b2 : k < 2147483648 := by omega
    have b3 : ¬ l.length ≤ k := by omega
    have b4 : a < 4611686018427387904 := by omega
    have b5 : m < 4611686018427387904 := by omega
    have b15 : ¬ 40 ≤ k := by omega
    by_cases hma : m ≤ a
    · refine ⟨a, m, v, Int32.ofNat k, ?_, hla, hmh, hab, hv40, ?_, ?_⟩
      · rw [r_Sp_judge_11]
        simp only [r_Sp_judge_13, r_Sp_judge_14, r_Sp_judge_17, r_Sp_judge_20, r_Sp_judge_22, r_Sp_judge_24, r_Sp_judge_27, r_Sp_judge_29, r_Sp_judge_31, r_Sp_judge_32, ly_g10_0, ly_g10_6, ly_n16, ly_r16, ly_w16, ly_k10, ly_g10_10, ly_p10_10, ly_g10_7, ly_p10_7, ly_g10_8, ly_p10_8, ly_g10_9, ly_p10_9, i3n_0, i3n_1, i3n_40, l6n_0, l6n_1, am_kf_s, am_km_s, am_kn_s, am_k_v, am_k_0, am_isr_r, am_isr_n, am_isr_v, am_sw_0, am_sw_i, am_sw_l, am_sw_r, am_sw_n, am_sw_v, am_ct_i, am_ct_r, am_ct_n, am_c1_o, am_c1_n, am_c1_i, am_c1_r, am_c1_v, am_mk_1, lc_lt, lc_gt, lc_eq, lc_le, lc_ge, i01_eq, i01_ok, ite_not, true_or, or_true, true_and, and_true, false_or, or_false, false_and, and_false, if_true, if_false, not_true_eq_false, not_false_eq_true, eq_self, Nat.reduceAdd, Nat.reduceLeDiff, Nat.reduceLT, Nat.reduceEqDiff, Nat.reduceMul, Nat.reduceSub, Nat.reduceDiv, Nat.reduceMod, reduceCtorEq, Nat.zero_le, i3_le, i3_lt, i3_eq, i3_eqN, i3_leN, i3_Nle, i3_ltN, i3_NleN, i3_NeqN, i3_Neq, i3_NltN, i3_Nlt, l6_le, l6_lt, l6_eq, l6_leN, l6_Nle, l6_ltN, l6_Nlt, l6_eqN, l6_Neq, ux_eq, hs.1, b1, b2, b3, b4, b5, jv_lt, hma, b15, ↓reduceIte]
      · intro q q1 q2
        constructor
        · intro ho
          have e := (hI q q1 q2).mp (okb_le (Nat.le_of_lt hkl) (by rw [List.take_length]; exact ho))
          omega
        · intro e; omega
      · refine ⟨?_, hF.2.1, fun f hf hq => ?_⟩
        · rcases hF.1 with q | ⟨q1, q2⟩
          · exact Or.inl q
          · exact Or.inr ⟨by omega, q2⟩
        · by_cases hfk : f ≤ k
          · exact hF.2.2 f hfk hq
          · obtain ⟨q, q1, q2, q3⟩ := hq
            have e := (hI q q1 q2).mp (okb_le (by omega) q3)
            omega
    · obtain ⟨p1, p2⟩ := bl_le h (c := c) (s := s) hin hc hs9
      have hrl : ∀ w, rl G N x Z (ux C 10 10 w) R D := fun w => rl_keep h (fun a b q => by rw [ux_ne (fun q2 => q (by unfold rl_scr; omega))]) (fun _ _ _ => rfl)
      have hsu : ∀ w, sp_ok N Z (ux C 10 10 w) L R l := fun w => ⟨by rw [ux_ne (by omega)]; exact hs.1, fun k' i' hk' => by
        obtain ⟨a1, a2, a3, a4, a5⟩ := hs.2 k' i' hk'
        exact ⟨a1, by rw [ux_ne (by omega)]; exact a2, a3, a4, a5⟩⟩
      have s5 := (hs.2 k i hi').2.2.2.2
      have e1 := x_Sp_leastLaw (G := G) (hrl (Int32.ofNat v)) (hsu _) hl hv (d := d) (s := s) hc hs9 ha hi'
      have e2 := x_Sp_mostLaw (G := G) (hrl (Int32.ofNat v)) (hsu _) hl hv (d := d) (s := s) hc hs9 ha hi'
      obtain ⟨-, -, -, -, a5, -⟩ := h.2.2.2.1 i hin
      have hsz := (h.2.2.1 _ a5.2.2).2.2.2.2.2.2.2.2.1.2.2
      have hb := fun q => b_iff (N := N) (c := c) (s := s) (i := i) (q := q) (by omega) (by have := mA_lt h hin hc; omega)
      have hI2 : ∀ q, lo ≤ q → q ≤ hi → (okb N s (l.take (k + 1)) q c = true ↔ (max a (bl N c s i) ≤ q ∧ q < min m (bm N c s i))) := by
        intro q q1 q2
        rw [okb_take hi', hI q q1 q2, hb q]
        omega
      have b6 : s < 2147483648 := by omega
      have b7 : k < 40 := by omega
      have b8 : bl N c s i < 9223372036854775808 := by omega
      have b9 : a < 9223372036854775808 := by omega
      have b10 : bm N c s i < 4611686018427387904 := by omega
      have b11 : max a (bl N c s i) < 4611686018427387904 := by omega
      have b12 : min m (bm N c s i) < 4611686018427387904 := by omega
      have b13 : v < 2147483648 := by omega
      have b14 : k + 1 < 2147483648 := by omega
      have k10 := fun (C : Nat → Nat → Int32) => ly_k10 (x := x) (b := true) (Z := Z) (C := C) (L := L) (R := R) (D := D)
      have em := jv_min b10 b5
      by_cases hne : min m (bm N c s i) ≤ max a (bl N c s i)
      · obtain ⟨a', m', v', k', w1, w2⟩ := ih (k + 1) (max a (bl N c s i)) (min m (bm N c s i)) v (by omega) (by omega) (by omega) (by omega) (by omega) hv40 hI2 ⟨by
          rcases hF.1 with q | ⟨q1, q2⟩
          · exact Or.inl q
          · exact Or.inr ⟨by omega, q2⟩, hF.2.1, fun f hf hq => by
          by_cases hfk : f ≤ k
          · exact hF.2.2 f hfk hq
          · obtain ⟨q, q1, q2, q3⟩ := hq
            have ef : f = k + 1 := by omega
            subst ef
            have e := (hI2 q q1 q2).mp q3
            omega⟩
        refine ⟨a', m', v', k', ?_, w2⟩
        rw [← w1, r_Sp_judge_11]
        simp only [r_Sp_judge_13, r_Sp_judge_14, r_Sp_judge_17, r_Sp_judge_20, r_Sp_judge_22, r_Sp_judge_24, r_Sp_judge_27, r_Sp_judge_29, r_Sp_judge_31, r_Sp_judge_32, r_Sp_judge_35, r_Sp_judge_37, r_Sp_judge_38, r_Sp_judge_40, r_Sp_judge_41, r_Sp_judge_44, r_Sp_judge_46, r_Sp_judge_47, r_Sp_judge_49, r_Sp_judge_50, r_Sp_judge_51, r_Sp_judge_54, r_Sp_judge_57, r_Sp_judge_57_k, r_Sp_judge_59, r_Sp_judge_61, r_Sp_judge_62, r_Sp_judge_64, r_Sp_judge_65, r_Sp_judge_68, r_Sp_judge_70, r_Sp_judge_71, r_Sp_judge_73, r_Sp_judge_74, r_Sp_judge_75, r_Sp_judge_78, r_Sp_judge_81, r_Sp_judge_81_k, r_Sp_judge_83, r_Sp_judge_85, r_Sp_judge_87, r_Sp_judge_88, r_Sp_judge_91, r_Sp_judge_92, r_Sp_judge_93, r_Sp_judge_96, r_Sp_judge_98, r_Sp_judge_99, r_Sp_judge_100, r_Sp_judge_103, r_Sp_judge_106, r_Sp_judge_106_k, r_Sp_judge_109, ly_g10_0, ly_g10_6, ly_n16, ly_r16, ly_w16, ly_k10, ly_g10_10, ly_p10_10, ly_g10_7, ly_p10_7, ly_g10_8, ly_p10_8, ly_g10_9, ly_p10_9, i3n_0, i3n_1, i3n_40, l6n_0, l6n_1, am_kf_s, am_km_s, am_kn_s, am_k_v, am_k_0, am_isr_r, am_isr_n, am_isr_v, am_sw_0, am_sw_i, am_sw_l, am_sw_r, am_sw_n, am_sw_v, am_ct_i, am_ct_r, am_ct_n, am_c1_o, am_c1_n, am_c1_i, am_c1_r, am_c1_v, am_mk_1, lc_lt, lc_gt, lc_eq, lc_le, lc_ge, i01_eq, i01_ok, ite_not, true_or, or_true, true_and, and_true, false_or, or_false, false_and, and_false, if_true, if_false, not_true_eq_false, not_false_eq_true, eq_self, Nat.reduceAdd, Nat.reduceLeDiff, Nat.reduceLT, Nat.reduceEqDiff, Nat.reduceMul, Nat.reduceSub, Nat.reduceDiv, Nat.reduceMod, reduceCtorEq, Nat.zero_le, i3_le, i3_lt, i3_eq, i3_eqN, i3_leN, i3_Nle, i3_ltN, i3_NleN, i3_NeqN, i3_Neq, i3_NltN, i3_Nlt, l6_le, l6_lt, l6_eq, l6_leN, l6_Nle, l6_ltN, l6_Nlt, l6_eqN, l6_Neq, ux_eq, hs.1, s5, b1, b2, b3, b4, b5, b6, b7, b8, b9, b10, b11, b12, b13, jv_lt, hma, b15, i3_long, k10, e1, e2, l6_max, em, hne, i3_add, ↓reduceIte]
      · have hq1 : ∃ q, lo ≤ q ∧ q ≤ hi ∧ okb N s (l.take (k + 1)) q c = true := by
          have hx : lo ≤ max a (bl N c s i) ∧ max a (bl N c s i) ≤ hi := by omega
          exact ⟨max a (bl N c s i), hx.1, hx.2, (hI2 _ hx.1 hx.2).mpr ⟨Nat.le_refl _, by omega⟩⟩
        obtain ⟨a', m', v', k', w1, w2⟩ := ih (k + 1) (max a (bl N c s i)) (min m (bm N c s i)) (max v (k + 1)) (by omega) (by omega) (by omega) (by omega) (by omega) (by omega) hI2 ⟨by
          by_cases hvk : v ≤ k + 1
          · rw [Nat.max_eq_right hvk]; exact Or.inr ⟨Nat.le_refl _, hq1⟩
          · rw [Nat.max_eq_left (by omega)]
            rcases hF.1 with q | ⟨q1, q2⟩
            · exact Or.inl q
            · omega, by have := hF.2.1; omega, fun f hf hq => by omega⟩
        refine ⟨a', m', v', k', ?_, w2⟩
        have e3 : ux (ux C 10 10 (Int32.ofNat v)) 10 10 (Int32.ofNat (max v (k + 1))) = ux C 10 10 (Int32.ofNat (max v (k + 1))) := ux_ux
        rw [← w1, r_Sp_judge_11]
        simp only [r_Sp_judge_13, r_Sp_judge_14, r_Sp_judge_17, r_Sp_judge_20, r_Sp_judge_22, r_Sp_judge_24, r_Sp_judge_27, r_Sp_judge_29, r_Sp_judge_31, r_Sp_judge_32, r_Sp_judge_35, r_Sp_judge_37, r_Sp_judge_38, r_Sp_judge_40, r_Sp_judge_41, r_Sp_judge_44, r_Sp_judge_46, r_Sp_judge_47, r_Sp_judge_49, r_Sp_judge_50, r_Sp_judge_51, r_Sp_judge_54, r_Sp_judge_57, r_Sp_judge_57_k, r_Sp_judge_59, r_Sp_judge_61, r_Sp_judge_62, r_Sp_judge_64, r_Sp_judge_65, r_Sp_judge_68, r_Sp_judge_70, r_Sp_judge_71, r_Sp_judge_73, r_Sp_judge_74, r_Sp_judge_75, r_Sp_judge_78, r_Sp_judge_81, r_Sp_judge_81_k, r_Sp_judge_83, r_Sp_judge_85, r_Sp_judge_87, r_Sp_judge_88, r_Sp_judge_91, r_Sp_judge_92, r_Sp_judge_93, r_Sp_judge_96, r_Sp_judge_98, r_Sp_judge_99, r_Sp_judge_100, r_Sp_judge_103, r_Sp_judge_106, r_Sp_judge_106_k, r_Sp_judge_109, ly_g10_0, ly_g10_6, ly_n16, ly_r16, ly_w16, ly_k10, ly_g10_10, ly_p10_10, ly_g10_7, ly_p10_7, ly_g10_8, ly_p10_8, ly_g10_9, ly_p10_9, i3n_0, i3n_1, i3n_40, l6n_0, l6n_1, am_kf_s, am_km_s, am_kn_s, am_k_v, am_k_0, am_isr_r, am_isr_n, am_isr_v, am_sw_0, am_sw_i, am_sw_l, am_sw_r, am_sw_n, am_sw_v, am_ct_i, am_ct_r, am_ct_n, am_c1_o, am_c1_n, am_c1_i, am_c1_r, am_c1_v, am_mk_1, lc_lt, lc_gt, lc_eq, lc_le, lc_ge, i01_eq, i01_ok, ite_not, true_or, or_true, true_and, and_true, false_or, or_false, false_and, and_false, if_true, if_false, not_true_eq_false, not_false_eq_true, eq_self, Nat.reduceAdd, Nat.reduceLeDiff, Nat.reduceLT, Nat.reduceEqDiff, Nat.reduceMul, Nat.reduceSub, Nat.reduceDiv, Nat.reduceMod, reduceCtorEq, Nat.zero_le, i3_le, i3_lt, i3_eq, i3_eqN, i3_leN, i3_Nle, i3_ltN, i3_NleN, i3_NeqN, i3_Neq, i3_NltN, i3_Nlt, l6_le, l6_lt, l6_eq, l6_leN, l6_Nle, l6_ltN, l6_Nlt, l6_eqN, l6_Neq, ux_eq, hs.1, s5, b1, b2, b3, b4, b5, b6, b7, b8, b9, b10, b11, b12, b13, b14, jv_lt, hma, b15, i3_long, k10, e1, e2, l6_max, i3_max, em, hne, i3_add, e3, ↓reduceIte]
end
