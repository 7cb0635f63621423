/-! small rows for the walk -/
theorem am_isr_r {q : Nat} : am_isr (.ref q) = true := rfl
theorem am_isr_n : am_isr .null = true := rfl
theorem am_isr_v {o : Option Nat} : am_isr (va_rf o) = true := by cases o <;> rfl
theorem am_sw_0 : am_sw [] = 0 := rfl
theorem am_sw_i {a : Int32} {st : List Value} : am_sw (.int a :: st) = am_sw st + 1 := by
  show 1 + _ = _ + 1
  exact Nat.add_comm _ _
theorem am_sw_r {q : Nat} {st : List Value} : am_sw (.ref q :: st) = am_sw st + 1 := by
  show 1 + _ = _ + 1
  exact Nat.add_comm _ _
theorem am_sw_n {st : List Value} : am_sw (.null :: st) = am_sw st + 1 := by
  show 1 + _ = _ + 1
  exact Nat.add_comm _ _
theorem am_sw_l {a : Int64} {st : List Value} : am_sw (.long a :: st) = am_sw st + 2 := by
  show 2 + _ = _ + 2
  exact Nat.add_comm _ _
theorem am_sw_v {o : Option Nat} {st : List Value} : am_sw (va_rf o :: st) = am_sw st + 1 := by cases o; exact am_sw_n; exact am_sw_r
theorem am_sw_g {v : Value} {st : List Value} (h : am_isr v = true) : am_sw (v :: st) = am_sw st + 1 := by
  rcases am_isr_cases h with ⟨q, rfl⟩ | rfl
  · exact am_sw_r
  · exact am_sw_n
theorem lc_lt {a b : Int64} : (lg_cmp a b < 0) = (a < b) := by
  unfold lg_cmp
  by_cases h : a > b
  · rw [if_pos h]
    have : ¬ a < b := Int64.lt_asymm h
    simp only [this, eq_iff_iff, iff_false]; decide
  · rw [if_neg h]
    by_cases h2 : a = b
    · rw [if_pos h2]; subst h2
      simp only [eq_iff_iff]; constructor
      · intro h3; exact absurd h3 (by decide)
      · intro h3; exact absurd h3 Int64.lt_irrefl
    · rw [if_neg h2]
      have : a < b := by
        rcases Int64.lt_or_lt_of_ne h2 with h3 | h3
        · exact h3
        · exact absurd h3 h
      simp only [this, eq_iff_iff, iff_true]; decide
theorem lc_gt {a b : Int64} : (0 < lg_cmp a b) = (b < a) := by
  unfold lg_cmp
  by_cases h : a > b
  · rw [if_pos h]
    have h' : b < a := h
    simp only [h', eq_iff_iff, iff_true]; decide
  · rw [if_neg h]
    have h' : ¬ b < a := h
    by_cases h2 : a = b
    · rw [if_pos h2]; simp only [h', eq_iff_iff, iff_false]; decide
    · rw [if_neg h2]; simp only [h', eq_iff_iff, iff_false]; decide
theorem lc_eq {a b : Int64} : (lg_cmp a b = 0) = (a = b) := by
  unfold lg_cmp
  by_cases h : a > b
  · rw [if_pos h]
    have h' : ¬ a = b := fun e => Int64.lt_irrefl (e ▸ h)
    simp only [h', eq_iff_iff, iff_false]; decide
  · rw [if_neg h]
    by_cases h2 : a = b
    · rw [if_pos h2]; simp only [h2]
    · rw [if_neg h2]; simp only [h2, eq_iff_iff, iff_false]; decide
theorem lc_le {a b : Int64} : (lg_cmp a b ≤ 0) = (a ≤ b) := by
  rw [← Int64.not_lt, ← Int32.not_lt, lc_gt]
theorem lc_ge {a b : Int64} : (0 ≤ lg_cmp a b) = (b ≤ a) := by
  rw [← Int64.not_lt, ← Int32.not_lt, lc_lt]
theorem i01_eq {p : Prop} (h : Decidable p) : ((if p then (1 : Int32) else 0) = 0) = ¬ p := by
  by_cases h : p
  · simp only [h, if_true]; simp
  · simp only [h, if_false]; simp
theorem i01_ok {p : Prop} (h : Decidable p) : ((if p then (1 : Int32) else 0) = 0 ∨ (if p then (1 : Int32) else 0) = 1) = True := by
  by_cases h : p
  · simp only [h, if_true]; simp
  · simp only [h, if_false]; simp
theorem if_some {α β : Type} {p : Prop} [Decidable p] {a b : α} {M : β} : (if p then some (a, M) else some (b, M)) = some (if p then a else b, M) := by split <;> rfl
/-! small numbers -/
theorem i3_le {a b : Nat} (ha : a < 2147483648) (hb : b < 2147483648) : (Int32.ofNat a ≤ Int32.ofNat b) = (a ≤ b) := by
  rw [Int32.le_iff_toInt_le, Int32.toInt_ofNat_of_lt ha, Int32.toInt_ofNat_of_lt hb, Int.ofNat_le]
theorem i3_lt {a b : Nat} (ha : a < 2147483648) (hb : b < 2147483648) : (Int32.ofNat a < Int32.ofNat b) = (a < b) := by
  rw [Int32.lt_iff_toInt_lt, Int32.toInt_ofNat_of_lt ha, Int32.toInt_ofNat_of_lt hb, Int.ofNat_lt]
theorem i3_eq {a b : Nat} (ha : a < 2147483648) (hb : b < 2147483648) : (Int32.ofNat a = Int32.ofNat b) = (a = b) := by
  rw [← Int32.toInt_inj, Int32.toInt_ofNat_of_lt ha, Int32.toInt_ofNat_of_lt hb, Int.ofNat_inj]
theorem i3_leL {a b : Nat} (ha : a < 2147483648) (hb : b < 2147483648) : ((OfNat.ofNat a : Int32) ≤ Int32.ofNat b) = ((OfNat.ofNat a : Nat) ≤ b) := i3_le ha hb
theorem i3_leR {a b : Nat} (ha : a < 2147483648) (hb : b < 2147483648) : (Int32.ofNat a ≤ (OfNat.ofNat b : Int32)) = (a ≤ (OfNat.ofNat b : Nat)) := i3_le ha hb
theorem i3_ltL {a b : Nat} (ha : a < 2147483648) (hb : b < 2147483648) : ((OfNat.ofNat a : Int32) < Int32.ofNat b) = ((OfNat.ofNat a : Nat) < b) := i3_lt ha hb
theorem i3_ltR {a b : Nat} (ha : a < 2147483648) (hb : b < 2147483648) : (Int32.ofNat a < (OfNat.ofNat b : Int32)) = (a < (OfNat.ofNat b : Nat)) := i3_lt ha hb
theorem i3_eqL {a b : Nat} (ha : a < 2147483648) (hb : b < 2147483648) : ((OfNat.ofNat a : Int32) = Int32.ofNat b) = ((OfNat.ofNat a : Nat) = b) := i3_eq ha hb
theorem i3_eqR {a b : Nat} (ha : a < 2147483648) (hb : b < 2147483648) : (Int32.ofNat a = (OfNat.ofNat b : Int32)) = (a = (OfNat.ofNat b : Nat)) := i3_eq ha hb
theorem i3_add {a b : Nat} : Int32.ofNat a + Int32.ofNat b = Int32.ofNat (a + b) := (Int32.ofNat_add a b).symm
theorem i3_addL {a b : Nat} : (OfNat.ofNat a : Int32) + Int32.ofNat b = Int32.ofNat ((OfNat.ofNat a : Nat) + b) := (Int32.ofNat_add a b).symm
theorem i3_addR {a b : Nat} : Int32.ofNat a + (OfNat.ofNat b : Int32) = Int32.ofNat (a + (OfNat.ofNat b : Nat)) := (Int32.ofNat_add a b).symm
theorem i3_mul {a b : Nat} : Int32.ofNat a * Int32.ofNat b = Int32.ofNat (a * b) := (Int32.ofNat_mul a b).symm
theorem i3_mulL {a b : Nat} : (OfNat.ofNat a : Int32) * Int32.ofNat b = Int32.ofNat ((OfNat.ofNat a : Nat) * b) := (Int32.ofNat_mul a b).symm
theorem i3_mulR {a b : Nat} : Int32.ofNat a * (OfNat.ofNat b : Int32) = Int32.ofNat (a * (OfNat.ofNat b : Nat)) := (Int32.ofNat_mul a b).symm
theorem i3_sub {a b : Nat} (h : b ≤ a) : Int32.ofNat a - Int32.ofNat b = Int32.ofNat (a - b) := (Int32.ofNat_sub a b h).symm
theorem i3_subR {a b : Nat} (h : (OfNat.ofNat b : Nat) ≤ a) : Int32.ofNat a - (OfNat.ofNat b : Int32) = Int32.ofNat (a - (OfNat.ofNat b : Nat)) := (Int32.ofNat_sub a b h).symm
theorem i3_div {a b : Nat} (ha : a < 2147483648) (hb : b < 2147483648) : Int32.ofNat a / Int32.ofNat b = Int32.ofNat (a / b) := (Int32.ofNat_div ha hb).symm
theorem i3_divR {a b : Nat} (ha : a < 2147483648) (hb : b < 2147483648) : Int32.ofNat a / (OfNat.ofNat b : Int32) = Int32.ofNat (a / (OfNat.ofNat b : Nat)) := (Int32.ofNat_div ha hb).symm
theorem i3_clamp {a : Nat} (h : a < 2147483648) : (Int32.ofNat a).toNatClampNeg = a := Int32.toNatClampNeg_ofNat_of_lt h
theorem i3_long {a : Nat} (h : a < 2147483648) : (Int32.ofNat a).toInt64 = Int64.ofNat a := by
  apply Int64.toInt_inj.mp
  rw [Int32.toInt_toInt64, Int32.toInt_ofNat_of_lt h, Int64.toInt_ofNat_of_lt (by omega)]
theorem i3_cases (v : Int32) : (∃ n : Nat, n < 2147483648 ∧ v = Int32.ofNat n) ∨ (v < 0 ∧ v.toInt < 0) := by
  by_cases h : (0 : Int32) ≤ v
  · exact Or.inl ⟨v.toNatClampNeg, v.toNatClampNeg_lt, (Int32.ofNat_toNatClampNeg v h).symm⟩
  · have h1 : v < 0 := Int32.not_le.mp h
    refine Or.inr ⟨h1, ?_⟩
    have := Int32.lt_iff_toInt_lt.mp h1
    exact this
theorem l6_add {a b : Nat} : Int64.ofNat a + Int64.ofNat b = Int64.ofNat (a + b) := (Int64.ofNat_add a b).symm
theorem l6_mul {a b : Nat} : Int64.ofNat a * Int64.ofNat b = Int64.ofNat (a * b) := (Int64.ofNat_mul a b).symm
theorem l6_addL {a b : Nat} : (OfNat.ofNat a : Int64) + Int64.ofNat b = Int64.ofNat ((OfNat.ofNat a : Nat) + b) := (Int64.ofNat_add a b).symm
theorem l6_addR {a b : Nat} : Int64.ofNat a + (OfNat.ofNat b : Int64) = Int64.ofNat (a + (OfNat.ofNat b : Nat)) := (Int64.ofNat_add a b).symm
theorem l6_mulL {a b : Nat} : (OfNat.ofNat a : Int64) * Int64.ofNat b = Int64.ofNat ((OfNat.ofNat a : Nat) * b) := (Int64.ofNat_mul a b).symm
theorem l6_mulR {a b : Nat} : Int64.ofNat a * (OfNat.ofNat b : Int64) = Int64.ofNat (a * (OfNat.ofNat b : Nat)) := (Int64.ofNat_mul a b).symm
theorem l6_div {a b : Nat} (ha : a < 9223372036854775808) (hb : b < 9223372036854775808) : Int64.ofNat a / Int64.ofNat b = Int64.ofNat (a / b) := (Int64.ofNat_div ha hb).symm
theorem l6_le {a b : Nat} (ha : a < 9223372036854775808) (hb : b < 9223372036854775808) : (Int64.ofNat a ≤ Int64.ofNat b) = (a ≤ b) := by
  rw [Int64.le_iff_toInt_le, Int64.toInt_ofNat_of_lt ha, Int64.toInt_ofNat_of_lt hb, Int.ofNat_le]
theorem l6_lt {a b : Nat} (ha : a < 9223372036854775808) (hb : b < 9223372036854775808) : (Int64.ofNat a < Int64.ofNat b) = (a < b) := by
  rw [Int64.lt_iff_toInt_lt, Int64.toInt_ofNat_of_lt ha, Int64.toInt_ofNat_of_lt hb, Int.ofNat_lt]
theorem l6_eq {a b : Nat} (ha : a < 9223372036854775808) (hb : b < 9223372036854775808) : (Int64.ofNat a = Int64.ofNat b) = (a = b) := by
  rw [← Int64.toInt_inj, Int64.toInt_ofNat_of_lt ha, Int64.toInt_ofNat_of_lt hb, Int.ofNat_inj]
theorem l6_ofInt {a : Nat} : Int64.ofInt (a : Int) = Int64.ofNat a := Int64.ofInt_eq_ofNat
