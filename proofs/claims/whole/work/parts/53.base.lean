/-! small rows for the walk -/
theorem am_isr_r {q : Nat} : am_isr (.ref q) = true := by cases q with
  | zero => rfl
  | succ q => rfl
theorem am_isr_n : am_isr .null = true := by
  cases h : am_isr .null with
  | true => rfl
  | false => cases h
theorem am_isr_v {o : Option Nat} : am_isr (va_rf o) = true := by cases o <;> rfl
theorem am_sw_0 : am_sw [] = 0 := Nat.le_antisymm (Nat.le_refl 0) (Nat.zero_le _)
theorem am_sw_i {a : Int32} {st : List Value} : am_sw (.int a :: st) = am_sw st + 1 := by
  show 1 + _ = _ + 1
  exact Nat.add_comm _ _
theorem am_sw_r {q : Nat} {st : List Value} : am_sw (.ref q :: st) = am_sw st + 1 := by
  show 1 + _ = _ + 1
  exact Nat.add_comm _ _
theorem am_sw_n {st : List Value} : am_sw (.null :: st) = am_sw st + 1 := by
  show 1 + _ = _ + 1
  exact Nat.add_comm _ _
theorem am_sw_l {a : Int64} {st : List Value} : am_sw (.long a :: st) = am_sw st + 2 := by
  show 2 + _ = _ + 2
  exact Nat.add_comm _ _
theorem am_sw_v {o : Option Nat} {st : List Value} : am_sw (va_rf o :: st) = am_sw st + 1 := by cases o; exact am_sw_n; exact am_sw_r
theorem am_sw_g {v : Value} {st : List Value} (h : am_isr v = true) : am_sw (v :: st) = am_sw st + 1 := by
  rcases am_isr_cases h with ⟨q, rfl⟩ | rfl
  · exact am_sw_r
  · exact am_sw_n
theorem lc_lt {a b : Int64} : (lg_cmp a b < Int32.ofNat 0) = (a < b) := by
  unfold lg_cmp
  by_cases h : a > b
  · rw [if_pos h]
    have : ¬ a < b := Int64.lt_asymm h
    simp only [this, eq_iff_iff, iff_false]; decide
  · rw [if_neg h]
    by_cases h2 : a = b
    · rw [if_pos h2]; subst h2
      simp only [eq_iff_iff]; constructor
      · intro h3; exact absurd h3 (by decide)
      · intro h3; exact absurd h3 Int64.lt_irrefl
    · rw [if_neg h2]
      have : a < b := by
        rcases Int64.lt_or_lt_of_ne h2 with h3 | h3
        · exact h3
        · exact absurd h3 h
      simp only [this, eq_iff_iff, iff_true]; decide
theorem lc_gt {a b : Int64} : (Int32.ofNat 0 < lg_cmp a b) = (b < a) := by
  unfold lg_cmp
  by_cases h : a > b
  · rw [if_pos h]
    have h' : b < a := h
    simp only [h', eq_iff_iff, iff_true]; decide
  · rw [if_neg h]
    have h' : ¬ b < a := h
    by_cases h2 : a = b
    · rw [if_pos h2]; simp only [h', eq_iff_iff, iff_false]; decide
    · rw [if_neg h2]; simp only [h', eq_iff_iff, iff_false]; decide
theorem lc_eq {a b : Int64} : (lg_cmp a b = Int32.ofNat 0) = (a = b) := by
  unfold lg_cmp
  by_cases h : a > b
  · rw [if_pos h]
    have h' : ¬ a = b := fun e => Int64.lt_irrefl (e ▸ h)
    simp only [h', eq_iff_iff, iff_false]; decide
  · rw [if_neg h]
    by_cases h2 : a = b
    · rw [if_pos h2]; simp only [h2]; exact eq_true rfl
    · rw [if_neg h2]; simp only [h2, eq_iff_iff, iff_false]; decide
theorem lc_le {a b : Int64} : (lg_cmp a b ≤ Int32.ofNat 0) = (a ≤ b) := by
  rw [← Int64.not_lt, ← Int32.not_lt, lc_gt]
theorem lc_ge {a b : Int64} : (Int32.ofNat 0 ≤ lg_cmp a b) = (b ≤ a) := by
  rw [← Int64.not_lt, ← Int32.not_lt, lc_lt]
theorem i01_eq {p : Prop} (h : Decidable p) : ((if p then Int32.ofNat 1 else Int32.ofNat 0) = Int32.ofNat 0) = ¬ p := by
  by_cases h : p
  · simp only [h, if_true]; simp
  · simp only [h, if_false]; simp
theorem i01_ok {p : Prop} (h : Decidable p) : ((if p then Int32.ofNat 1 else Int32.ofNat 0) = Int32.ofNat 0 ∨ (if p then Int32.ofNat 1 else Int32.ofNat 0) = Int32.ofNat 1) = True := by
  by_cases h : p
  · simp only [h, if_true]; simp
  · simp only [h, if_false]; simp
theorem if_some {α β : Type} {p : Prop} [Decidable p] {a b : α} {M : β} : (if p then some (a, M) else some (b, M)) = some (if p then a else b, M) := by split <;> rfl
/-! small numbers -/
theorem i3_le {a b : Nat} (ha : a < 2147483648) (hb : b < 2147483648) : (Int32.ofNat a ≤ Int32.ofNat b) = (a ≤ b) := by
  rw [Int32.le_iff_toInt_le, Int32.toInt_ofNat_of_lt ha, Int32.toInt_ofNat_of_lt hb, Int.ofNat_le]
theorem i3_lt {a b : Nat} (ha : a < 2147483648) (hb : b < 2147483648) : (Int32.ofNat a < Int32.ofNat b) = (a < b) := by
  rw [Int32.lt_iff_toInt_lt, Int32.toInt_ofNat_of_lt ha, Int32.toInt_ofNat_of_lt hb, Int.ofNat_lt]
theorem i3_eq {a b : Nat} (ha : a < 2147483648) (hb : b < 2147483648) : (Int32.ofNat a = Int32.ofNat b) = (a = b) := by
  rw [← Int32.toInt_inj, Int32.toInt_ofNat_of_lt ha, Int32.toInt_ofNat_of_lt hb, Int.ofNat_inj]
theorem i3_add {a b : Nat} : Int32.ofNat a + Int32.ofNat b = Int32.ofNat (a + b) := (Int32.ofNat_add a b).symm
theorem i3_mul {a b : Nat} : Int32.ofNat a * Int32.ofNat b = Int32.ofNat (a * b) := (Int32.ofNat_mul a b).symm
theorem i3_sub {a b : Nat} (h : b ≤ a) : Int32.ofNat a - Int32.ofNat b = Int32.ofNat (a - b) := (Int32.ofNat_sub a b h).symm
theorem i3_div {a b : Nat} (ha : a < 2147483648) (hb : b < 2147483648) : Int32.ofNat a / Int32.ofNat b = Int32.ofNat (a / b) := (Int32.ofNat_div ha hb).symm
theorem i3_clamp {a : Nat} (h : a < 2147483648) : (Int32.ofNat a).toNatClampNeg = a := Int32.toNatClampNeg_ofNat_of_lt h
theorem i3_long {a : Nat} (h : a < 2147483648) : (Int32.ofNat a).toInt64 = Int64.ofNat a := by
  apply Int64.toInt_inj.mp
  rw [Int32.toInt_toInt64, Int32.toInt_ofNat_of_lt h, Int64.toInt_ofNat_of_lt (by omega)]
theorem i3_cases (v : Int32) : (∃ n : Nat, n < 2147483648 ∧ v = Int32.ofNat n) ∨ (v < 0 ∧ v.toInt < 0) := by
  by_cases h : (0 : Int32) ≤ v
  · exact Or.inl ⟨v.toNatClampNeg, v.toNatClampNeg_lt, (Int32.ofNat_toNatClampNeg v h).symm⟩
  · have h1 : v < 0 := Int32.not_le.mp h
    refine Or.inr ⟨h1, ?_⟩
    have := Int32.lt_iff_toInt_lt.mp h1
    exact this
theorem l6_add {a b : Nat} : Int64.ofNat a + Int64.ofNat b = Int64.ofNat (a + b) := (Int64.ofNat_add a b).symm
theorem l6_mul {a b : Nat} : Int64.ofNat a * Int64.ofNat b = Int64.ofNat (a * b) := (Int64.ofNat_mul a b).symm
theorem l6_div {a b : Nat} (ha : a < 9223372036854775808) (hb : b < 9223372036854775808) : Int64.ofNat a / Int64.ofNat b = Int64.ofNat (a / b) := (Int64.ofNat_div ha hb).symm
theorem l6_le {a b : Nat} (ha : a < 9223372036854775808) (hb : b < 9223372036854775808) : (Int64.ofNat a ≤ Int64.ofNat b) = (a ≤ b) := by
  rw [Int64.le_iff_toInt_le, Int64.toInt_ofNat_of_lt ha, Int64.toInt_ofNat_of_lt hb, Int.ofNat_le]
theorem l6_lt {a b : Nat} (ha : a < 9223372036854775808) (hb : b < 9223372036854775808) : (Int64.ofNat a < Int64.ofNat b) = (a < b) := by
  rw [Int64.lt_iff_toInt_lt, Int64.toInt_ofNat_of_lt ha, Int64.toInt_ofNat_of_lt hb, Int.ofNat_lt]
theorem l6_eq {a b : Nat} (ha : a < 9223372036854775808) (hb : b < 9223372036854775808) : (Int64.ofNat a = Int64.ofNat b) = (a = b) := by
  rw [← Int64.toInt_inj, Int64.toInt_ofNat_of_lt ha, Int64.toInt_ofNat_of_lt hb, Int.ofNat_inj]
theorem l6_ofInt {a : Nat} : Int64.ofInt (a : Int) = Int64.ofNat a := Int64.ofInt_eq_ofNat
theorem i3n_0 : (0 : Int32) = Int32.ofNat 0 := Int32.toInt_inj.mp rfl
theorem i3n_1 : (1 : Int32) = Int32.ofNat 1 := Int32.toInt_inj.mp rfl
theorem i3n_2 : (2 : Int32) = Int32.ofNat 2 := Int32.toInt_inj.mp rfl
theorem i3n_3 : (3 : Int32) = Int32.ofNat 3 := Int32.toInt_inj.mp rfl
theorem i3n_4 : (4 : Int32) = Int32.ofNat 4 := Int32.toInt_inj.mp rfl
theorem i3n_5 : (5 : Int32) = Int32.ofNat 5 := Int32.toInt_inj.mp rfl
theorem i3n_6 : (6 : Int32) = Int32.ofNat 6 := Int32.toInt_inj.mp rfl
theorem i3n_7 : (7 : Int32) = Int32.ofNat 7 := Int32.toInt_inj.mp rfl
theorem i3n_8 : (8 : Int32) = Int32.ofNat 8 := Int32.toInt_inj.mp rfl
theorem i3n_9 : (9 : Int32) = Int32.ofNat 9 := Int32.toInt_inj.mp rfl
theorem i3n_10 : (10 : Int32) = Int32.ofNat 10 := Int32.toInt_inj.mp rfl
theorem i3n_11 : (11 : Int32) = Int32.ofNat 11 := Int32.toInt_inj.mp rfl
theorem i3n_12 : (12 : Int32) = Int32.ofNat 12 := Int32.toInt_inj.mp rfl
theorem i3n_13 : (13 : Int32) = Int32.ofNat 13 := Int32.toInt_inj.mp rfl
theorem i3n_14 : (14 : Int32) = Int32.ofNat 14 := Int32.toInt_inj.mp rfl
theorem i3n_15 : (15 : Int32) = Int32.ofNat 15 := Int32.toInt_inj.mp rfl
theorem i3n_16 : (16 : Int32) = Int32.ofNat 16 := Int32.toInt_inj.mp rfl
theorem i3n_17 : (17 : Int32) = Int32.ofNat 17 := Int32.toInt_inj.mp rfl
theorem i3n_18 : (18 : Int32) = Int32.ofNat 18 := Int32.toInt_inj.mp rfl
theorem i3n_19 : (19 : Int32) = Int32.ofNat 19 := Int32.toInt_inj.mp rfl
theorem i3n_20 : (20 : Int32) = Int32.ofNat 20 := Int32.toInt_inj.mp rfl
theorem i3n_21 : (21 : Int32) = Int32.ofNat 21 := Int32.toInt_inj.mp rfl
theorem i3n_22 : (22 : Int32) = Int32.ofNat 22 := Int32.toInt_inj.mp rfl
theorem i3n_23 : (23 : Int32) = Int32.ofNat 23 := Int32.toInt_inj.mp rfl
theorem i3n_24 : (24 : Int32) = Int32.ofNat 24 := Int32.toInt_inj.mp rfl
theorem i3n_25 : (25 : Int32) = Int32.ofNat 25 := Int32.toInt_inj.mp rfl
theorem i3n_26 : (26 : Int32) = Int32.ofNat 26 := Int32.toInt_inj.mp rfl
theorem i3n_27 : (27 : Int32) = Int32.ofNat 27 := Int32.toInt_inj.mp rfl
theorem i3n_28 : (28 : Int32) = Int32.ofNat 28 := Int32.toInt_inj.mp rfl
theorem i3n_29 : (29 : Int32) = Int32.ofNat 29 := Int32.toInt_inj.mp rfl
theorem i3n_30 : (30 : Int32) = Int32.ofNat 30 := Int32.toInt_inj.mp rfl
theorem i3n_31 : (31 : Int32) = Int32.ofNat 31 := Int32.toInt_inj.mp rfl
theorem i3n_32 : (32 : Int32) = Int32.ofNat 32 := Int32.toInt_inj.mp rfl
theorem i3n_36 : (36 : Int32) = Int32.ofNat 36 := Int32.toInt_inj.mp rfl
theorem i3n_40 : (40 : Int32) = Int32.ofNat 40 := Int32.toInt_inj.mp rfl
theorem i3n_41 : (41 : Int32) = Int32.ofNat 41 := Int32.toInt_inj.mp rfl
theorem i3n_42 : (42 : Int32) = Int32.ofNat 42 := Int32.toInt_inj.mp rfl
theorem i3n_43 : (43 : Int32) = Int32.ofNat 43 := Int32.toInt_inj.mp rfl
theorem i3n_45 : (45 : Int32) = Int32.ofNat 45 := Int32.toInt_inj.mp rfl
theorem i3n_48 : (48 : Int32) = Int32.ofNat 48 := Int32.toInt_inj.mp rfl
theorem i3n_49 : (49 : Int32) = Int32.ofNat 49 := Int32.toInt_inj.mp rfl
theorem i3n_56 : (56 : Int32) = Int32.ofNat 56 := Int32.toInt_inj.mp rfl
theorem i3n_57 : (57 : Int32) = Int32.ofNat 57 := Int32.toInt_inj.mp rfl
theorem i3n_59 : (59 : Int32) = Int32.ofNat 59 := Int32.toInt_inj.mp rfl
theorem i3n_60 : (60 : Int32) = Int32.ofNat 60 := Int32.toInt_inj.mp rfl
theorem i3n_61 : (61 : Int32) = Int32.ofNat 61 := Int32.toInt_inj.mp rfl
theorem i3n_72 : (72 : Int32) = Int32.ofNat 72 := Int32.toInt_inj.mp rfl
theorem i3n_78 : (78 : Int32) = Int32.ofNat 78 := Int32.toInt_inj.mp rfl
theorem i3n_97 : (97 : Int32) = Int32.ofNat 97 := Int32.toInt_inj.mp rfl
theorem i3n_99 : (99 : Int32) = Int32.ofNat 99 := Int32.toInt_inj.mp rfl
theorem i3n_100 : (100 : Int32) = Int32.ofNat 100 := Int32.toInt_inj.mp rfl
theorem i3n_122 : (122 : Int32) = Int32.ofNat 122 := Int32.toInt_inj.mp rfl
theorem i3n_160 : (160 : Int32) = Int32.ofNat 160 := Int32.toInt_inj.mp rfl
theorem i3n_200 : (200 : Int32) = Int32.ofNat 200 := Int32.toInt_inj.mp rfl
theorem i3n_255 : (255 : Int32) = Int32.ofNat 255 := Int32.toInt_inj.mp rfl
theorem i3n_400 : (400 : Int32) = Int32.ofNat 400 := Int32.toInt_inj.mp rfl
theorem i3n_450 : (450 : Int32) = Int32.ofNat 450 := Int32.toInt_inj.mp rfl
theorem i3n_960 : (960 : Int32) = Int32.ofNat 960 := Int32.toInt_inj.mp rfl
theorem i3n_990 : (990 : Int32) = Int32.ofNat 990 := Int32.toInt_inj.mp rfl
theorem i3n_999 : (999 : Int32) = Int32.ofNat 999 := Int32.toInt_inj.mp rfl
theorem i3n_1000 : (1000 : Int32) = Int32.ofNat 1000 := Int32.toInt_inj.mp rfl
theorem i3n_9999 : (9999 : Int32) = Int32.ofNat 9999 := Int32.toInt_inj.mp rfl
theorem i3n_10000 : (10000 : Int32) = Int32.ofNat 10000 := Int32.toInt_inj.mp rfl
theorem i3n_99999 : (99999 : Int32) = Int32.ofNat 99999 := Int32.toInt_inj.mp rfl
theorem i3n_999999 : (999999 : Int32) = Int32.ofNat 999999 := Int32.toInt_inj.mp rfl
theorem l6n_0 : (0 : Int64) = Int64.ofNat 0 := Int64.toInt_inj.mp rfl
theorem l6n_1 : (1 : Int64) = Int64.ofNat 1 := Int64.toInt_inj.mp rfl
theorem l6n_2 : (2 : Int64) = Int64.ofNat 2 := Int64.toInt_inj.mp rfl
theorem l6n_3 : (3 : Int64) = Int64.ofNat 3 := Int64.toInt_inj.mp rfl
theorem l6n_4 : (4 : Int64) = Int64.ofNat 4 := Int64.toInt_inj.mp rfl
theorem l6n_5 : (5 : Int64) = Int64.ofNat 5 := Int64.toInt_inj.mp rfl
theorem l6n_8 : (8 : Int64) = Int64.ofNat 8 := Int64.toInt_inj.mp rfl
theorem l6n_9 : (9 : Int64) = Int64.ofNat 9 := Int64.toInt_inj.mp rfl
theorem l6n_10 : (10 : Int64) = Int64.ofNat 10 := Int64.toInt_inj.mp rfl
theorem l6n_20 : (20 : Int64) = Int64.ofNat 20 := Int64.toInt_inj.mp rfl
theorem l6n_27 : (27 : Int64) = Int64.ofNat 27 := Int64.toInt_inj.mp rfl
theorem l6n_43 : (43 : Int64) = Int64.ofNat 43 := Int64.toInt_inj.mp rfl
theorem l6n_48 : (48 : Int64) = Int64.ofNat 48 := Int64.toInt_inj.mp rfl
theorem l6n_57 : (57 : Int64) = Int64.ofNat 57 := Int64.toInt_inj.mp rfl
theorem l6n_60 : (60 : Int64) = Int64.ofNat 60 := Int64.toInt_inj.mp rfl
theorem l6n_96 : (96 : Int64) = Int64.ofNat 96 := Int64.toInt_inj.mp rfl
theorem l6n_97 : (97 : Int64) = Int64.ofNat 97 := Int64.toInt_inj.mp rfl
theorem l6n_99 : (99 : Int64) = Int64.ofNat 99 := Int64.toInt_inj.mp rfl
theorem l6n_100 : (100 : Int64) = Int64.ofNat 100 := Int64.toInt_inj.mp rfl
theorem l6n_122 : (122 : Int64) = Int64.ofNat 122 := Int64.toInt_inj.mp rfl
theorem l6n_180 : (180 : Int64) = Int64.ofNat 180 := Int64.toInt_inj.mp rfl
theorem l6n_200 : (200 : Int64) = Int64.ofNat 200 := Int64.toInt_inj.mp rfl
theorem l6n_255 : (255 : Int64) = Int64.ofNat 255 := Int64.toInt_inj.mp rfl
theorem l6n_400 : (400 : Int64) = Int64.ofNat 400 := Int64.toInt_inj.mp rfl
theorem l6n_423 : (423 : Int64) = Int64.ofNat 423 := Int64.toInt_inj.mp rfl
theorem l6n_999 : (999 : Int64) = Int64.ofNat 999 := Int64.toInt_inj.mp rfl
theorem l6n_1111 : (1111 : Int64) = Int64.ofNat 1111 := Int64.toInt_inj.mp rfl
theorem l6n_9999 : (9999 : Int64) = Int64.ofNat 9999 := Int64.toInt_inj.mp rfl
theorem l6n_10631 : (10631 : Int64) = Int64.ofNat 10631 := Int64.toInt_inj.mp rfl
theorem l6n_99999 : (99999 : Int64) = Int64.ofNat 99999 := Int64.toInt_inj.mp rfl
theorem l6n_158529 : (158529 : Int64) = Int64.ofNat 158529 := Int64.toInt_inj.mp rfl
theorem l6n_223456 : (223456 : Int64) = Int64.ofNat 223456 := Int64.toInt_inj.mp rfl
theorem l6n_237470 : (237470 : Int64) = Int64.ofNat 237470 := Int64.toInt_inj.mp rfl
theorem l6n_257011 : (257011 : Int64) = Int64.ofNat 257011 := Int64.toInt_inj.mp rfl
theorem l6n_400577 : (400577 : Int64) = Int64.ofNat 400577 := Int64.toInt_inj.mp rfl
theorem l6n_999999 : (999999 : Int64) = Int64.ofNat 999999 := Int64.toInt_inj.mp rfl
theorem l6n_6477035 : (6477035 : Int64) = Int64.ofNat 6477035 := Int64.toInt_inj.mp rfl
theorem l6n_8694872 : (8694872 : Int64) = Int64.ofNat 8694872 := Int64.toInt_inj.mp rfl
theorem l6n_10819228 : (10819228 : Int64) = Int64.ofNat 10819228 := Int64.toInt_inj.mp rfl
theorem l6n_4294967295 : (4294967295 : Int64) = Int64.ofNat 4294967295 := Int64.toInt_inj.mp rfl
theorem l6n_2336353775971016820 : (2336353775971016820 : Int64) = Int64.ofNat 2336353775971016820 := Int64.toInt_inj.mp rfl
theorem l6n_4260440569842507808 : (4260440569842507808 : Int64) = Int64.ofNat 4260440569842507808 := Int64.toInt_inj.mp rfl
theorem l6n_4611686018427387904 : (4611686018427387904 : Int64) = Int64.ofNat 4611686018427387904 := Int64.toInt_inj.mp rfl
theorem l6n_7305999860802658363 : (7305999860802658363 : Int64) = Int64.ofNat 7305999860802658363 := Int64.toInt_inj.mp rfl
theorem l6n_7596839335582773280 : (7596839335582773280 : Int64) = Int64.ofNat 7596839335582773280 := Int64.toInt_inj.mp rfl
theorem l6n_7809651206522169714 : (7809651206522169714 : Int64) = Int64.ofNat 7809651206522169714 := Int64.toInt_inj.mp rfl
theorem l6n_9223372036854775807 : (9223372036854775807 : Int64) = Int64.ofNat 9223372036854775807 := Int64.toInt_inj.mp rfl
theorem i3_negI {a : Nat} (h : a < 2147483648) : (-Int32.ofNat a).toInt = -(a : Int) := by
  rw [Int32.neg_ofNat, Int32.toInt_ofInt_of_le (by omega) (by omega)]
theorem i3_eqN {a b : Nat} (ha : a < 2147483648) (hb : b < 2147483648) (h0 : 0 < b) : (Int32.ofNat a = -Int32.ofNat b) = False := by
  rw [← Int32.toInt_inj, Int32.toInt_ofNat_of_lt ha, i3_negI hb]
  simp only [eq_iff_iff, iff_false]
  omega
theorem i3_leN {a b : Nat} (ha : a < 2147483648) (hb : b < 2147483648) (h0 : 0 < b) : (Int32.ofNat a ≤ -Int32.ofNat b) = False := by
  rw [Int32.le_iff_toInt_le, Int32.toInt_ofNat_of_lt ha, i3_negI hb]
  simp only [eq_iff_iff, iff_false]
  omega
theorem i3_Nle {a b : Nat} (ha : a < 2147483648) (hb : b < 2147483648) : (-Int32.ofNat b ≤ Int32.ofNat a) = True := by
  rw [Int32.le_iff_toInt_le, Int32.toInt_ofNat_of_lt ha, i3_negI hb]
  simp only [eq_iff_iff, iff_true]
  omega
theorem i3_ltN {a b : Nat} (ha : a < 2147483648) (hb : b < 2147483648) : (Int32.ofNat a < -Int32.ofNat b) = False := by
  rw [Int32.lt_iff_toInt_lt, Int32.toInt_ofNat_of_lt ha, i3_negI hb]
  simp only [eq_iff_iff, iff_false]
  omega
theorem i3_NleN {a b : Nat} (ha : a < 2147483648) (hb : b < 2147483648) : (-Int32.ofNat a ≤ -Int32.ofNat b) = (b ≤ a) := by
  rw [Int32.le_iff_toInt_le, i3_negI ha, i3_negI hb]
  simp only [eq_iff_iff]
  omega
theorem i3_NeqN {a b : Nat} (ha : a < 2147483648) (hb : b < 2147483648) : (-Int32.ofNat a = -Int32.ofNat b) = (b = a) := by
  rw [← Int32.toInt_inj, i3_negI ha, i3_negI hb]
  simp only [eq_iff_iff]
  omega
theorem i3_Nlt {a b : Nat} (ha : a < 2147483648) (hb : b < 2147483648) (h0 : 0 < b) : (-Int32.ofNat b < Int32.ofNat a) = True := by
  rw [Int32.lt_iff_toInt_lt, Int32.toInt_ofNat_of_lt ha, i3_negI hb]
  simp only [eq_iff_iff, iff_true]
  omega
theorem am_ct_i {a : Int32} : (Value.int a).category = 1 := Nat.le_antisymm (Nat.le_refl 1) (Nat.le_refl 1)
theorem am_ct_r {a : Nat} : (Value.ref a).category = 1 := Nat.le_antisymm (Nat.le_refl 1) (Nat.le_refl 1)
theorem am_ct_n : Value.null.category = 1 := Nat.le_antisymm (Nat.le_refl 1) (Nat.le_refl 1)
theorem am_c1_o : am_c1 none = true := by
  cases h : am_c1 none with
  | true => rfl
  | false => cases h
theorem am_c1_n : am_c1 (some .null) = true := by
  cases h : am_c1 (some .null) with
  | true => rfl
  | false => cases h
theorem am_c1_i {a : Int32} : am_c1 (some (.int a)) = true := by
  cases h : am_c1 (some (.int a)) with
  | true => rfl
  | false => cases h
theorem am_c1_r {a : Nat} : am_c1 (some (.ref a)) = true := by
  cases h : am_c1 (some (.ref a)) with
  | true => rfl
  | false => cases h
theorem am_c1_v {o : Option Nat} : am_c1 (some (va_rf o)) = true := by cases o; exact am_c1_n; exact am_c1_r
theorem i3_Neq {a b : Nat} (ha : a < 2147483648) (hb : b < 2147483648) (h0 : 0 < b) : (-Int32.ofNat b = Int32.ofNat a) = False := by
  rw [← Int32.toInt_inj, Int32.toInt_ofNat_of_lt ha, i3_negI hb]
  simp only [eq_iff_iff, iff_false]
  omega
theorem i3_NltN {a b : Nat} (ha : a < 2147483648) (hb : b < 2147483648) : (-Int32.ofNat a < -Int32.ofNat b) = (b < a) := by
  rw [Int32.lt_iff_toInt_lt, i3_negI ha, i3_negI hb]
  simp only [eq_iff_iff]
  omega
