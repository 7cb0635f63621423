/-! aim: all ways -/
def wy (S : Nat) (ft ea co : Nat → Nat) : Nat → Nat → Nat → Nat → Nat → Nat → Nat × Nat × Nat
  | 0, _, es, c, g, _ => (es, c, g)
  | r + 1, k, es, c, g, left => wy S ft ea co r (k + 1) (es + ft k * ea (left / S ^ r)) (c + ft k * co (left / S ^ r)) (g * 10 + left / S ^ r) (left % S ^ r)
def oF (f : Nat → Bool) (o : Option (Nat × Nat)) (v : Nat × Nat × Nat) : Option (Nat × Nat) := match o with
  | none => if f v.1 = true then some v.2 else none
  | some b => if v.2.1 < b.1 ∧ f v.1 = true then some v.2 else some b
def it (H : Nat → Option (Nat × Nat) → Option (Nat × Nat)) : Nat → Option (Nat × Nat) → Option (Nat × Nat)
  | 0, o => o
  | n + 1, o => H n (it H n o)
theorem it_eq {H K : Nat → Option (Nat × Nat) → Option (Nat × Nat)} {o : Option (Nat × Nat)} : ∀ {n : Nat}, (∀ l o, l < n → H l o = K l o) → it H n o = it K n o
  | 0, _ => rfl
  | n + 1, h => by rw [it, it, it_eq (n := n) (fun l o q => h l o (by omega)), h n _ (by omega)]
theorem it_add {H : Nat → Option (Nat × Nat) → Option (Nat × Nat)} {o : Option (Nat × Nat)} {a : Nat} : ∀ {n : Nat}, it H (a + n) o = it (fun l => H (a + l)) n (it H a o)
  | 0 => rfl
  | n + 1 => by
    rw [← Nat.add_assoc, it, it_add (n := n), it]
def oB (o : Option (Nat × Nat)) : Prop := ∀ b, o = some b → b.1 < 9223372036854775808
theorem oF_B {f : Nat → Bool} {o : Option (Nat × Nat)} {v : Nat × Nat × Nat} (h : oB o) (hv : v.2.1 < 9223372036854775808) : oB (oF f o v) := by
  intro b hb
  unfold oF at hb
  cases o with
  | none =>
    simp only at hb
    split at hb
    · cases hb; exact hv
    · cases hb
  | some b0 =>
    simp only at hb
    split at hb
    · cases hb; exact hv
    · cases hb; exact h _ rfl
theorem it_B {H : Nat → Option (Nat × Nat) → Option (Nat × Nat)} {o : Option (Nat × Nat)} (ho : oB o) : ∀ {n : Nat}, (∀ l o, l < n → oB o → oB (H l o)) → oB (it H n o)
  | 0, _ => ho
  | n + 1, h => h n _ (by omega) (it_B ho (fun l o q => h l o (by omega)))
def ov (o : Option (Nat × Nat)) : Int64 := match o with
  | none => -Int64.ofNat 1
  | some b => Int64.ofNat b.1
def gv (o : Option (Nat × Nat)) : Int64 := match o with
  | none => -Int64.ofNat 1
  | some b => Int64.ofNat b.2
def aL (L : Nat → Nat → Int64) (t : Nat) (o : Option (Nat × Nat)) : Nat → Nat → Int64 := ux (ux L t 7 (ov o)) t 8 (gv o)
theorem aL_5 {L : Nat → Nat → Int64} {t : Nat} {o : Option (Nat × Nat)} : aL L t o t 7 = ov o := by unfold aL; rw [ux_ne (by omega), ux_at]
theorem aL_2 {L : Nat → Nat → Int64} {t : Nat} {o : Option (Nat × Nat)} : aL L t o t 2 = L t 2 := by unfold aL; rw [ux_ne (by omega), ux_ne (by omega)]
theorem aL_6 {L : Nat → Nat → Int64} {t : Nat} {o : Option (Nat × Nat)} : aL L t o t 8 = gv o := by unfold aL; rw [ux_at]
theorem aL_w {L : Nat → Nat → Int64} {t c g : Nat} {o : Option (Nat × Nat)} : ux (ux (aL L t o) t 7 (Int64.ofNat c)) t 8 (Int64.ofNat g) = aL L t (some (c, g)) := by
  show ux (ux (ux (ux L t 7 (ov o)) t 8 (gv o)) t 7 (Int64.ofNat c)) t 8 (Int64.ofNat g) = ux (ux L t 7 (Int64.ofNat c)) t 8 (Int64.ofNat g)
  funext a b
  by_cases h6 : a = t ∧ b = 8
  · rw [ux_eq, if_pos h6, ux_eq, if_pos h6]
  · rw [ux_ne h6, ux_ne h6]
    by_cases h5 : a = t ∧ b = 7
    · rw [ux_eq, if_pos h5, ux_eq, if_pos h5]
    · rw [ux_ne h5, ux_ne h6, ux_ne h5, ux_ne h5]
theorem aL_self {L : Nat → Nat → Int64} {t : Nat} {o : Option (Nat × Nat)} (h5 : L t 7 = ov o) (h6 : L t 8 = gv o) : aL L t o = L := by
  unfold aL
  rw [← h5, ux_self, ← h6, ux_self]
section
variable {G : Nat → Value} {x : Nat} {N : Nat → Nat → Nat} {Z : ly_Z} {C : Nat → Nat → Int32} {L : Nat → Nat → Int64} {R : Nat → Nat → Option Nat} {D : am_M}
/-- an Aim -/
def ai_ok (N : Nat → Nat → Nat) (x : Nat) (Z : ly_Z) (C : Nat → Nat → Int32) (L : Nat → Nat → Int64) (R : Nat → Nat → Option Nat) (q t i p tm s : Nat) : Prop := ly_is x true Z q t 11 ∧ R t 0 = some (Z.2 (i + 2000)) ∧ C t 1 = Int32.ofNat p ∧ L t 2 = Int64.ofNat (N 37 i * 100 * N 31 7) ∧ C t 3 = Int32.ofNat tm ∧ C t 4 = Int32.ofNat s ∧ R t 5 = some (x + 1) ∧ C t 6 = Int32.ofNat (N 31 13)
def af (N : Nat → Nat → Nat) (i B tm s : Nat) (es : Nat) : Bool := decide (ab (mT (N 37 i) (N 31 7) (B + es)) tm ≤ s)
theorem x_Ai_offer (h : rl G N x Z C R D) {d q t i p tm s B es c g : Nat} {o : Option (Nat × Nat)} (hi : i < N 31 17) (ha : ai_ok N x Z C L R q t i p tm s) (htm : tm ≤ 99999) (hs : s ≤ 9999) (hB : 100 ≤ B) (hB2 : B ≤ 2000000) (hes : es ≤ 6000000) (hc : c < 9223372036854775808) (ho : oB o) : am_ex G (d + 2) K_Ai_offer [.ref q, .long (Int64.ofNat (B + es)), .long (Int64.ofNat c), .long (Int64.ofNat g)] (am_mk x true Z C (aL L t o) R D) = some (none, am_mk x true Z C (aL L t (oF (af N i B tm s) o (es, c, g))) R D) := by
  obtain ⟨a1, a2, a3, a4, a5, a6, -⟩ := ha
  have k7 := h.1.2.2.2.2.2.2.1
  have hsz := (h.2.2.1 _ hi).2.2.2.2.2.2.2.2.1.2.2
  have hT := mT_le (s := N 37 i) (l := N 31 7) (e := B + es) hsz.2 k7.2.2.2
  have m1 := Nat.mul_le_mul (Nat.mul_le_mul_right 100 hsz.2) k7.2.2.2
  have b1 : tm < 2147483648 := by omega
  have b2 : s < 2147483648 := by omega
  have b3 : s < 9223372036854775808 := by omega
  have eq := x_H_quotient (G := G) (d := d) (a := Int64.ofNat (N 37 i * 100 * N 31 7)) (b := Int64.ofNat (B + es)) (M := am_mk x true Z C (aL L t o) R D) (l6_ne0 (by omega) (by omega))
  rw [l6_div (by omega) (by omega)] at eq
  have e : N 37 i * 100 * N 31 7 / (B + es) = mT (N 37 i) (N 31 7) (B + es) := rfl
  rw [e] at eq
  have d1 := pl_D (p := mT (N 37 i) (N 31 7) (B + es)) (q := tm) (by omega) (by omega)
  have b4 : ab (mT (N 37 i) (N 31 7) (B + es)) tm < 9223372036854775808 := by unfold ab; omega
  have haf : af N i B tm s es = decide (ab (mT (N 37 i) (N 31 7) (B + es)) tm ≤ s) := rfl
  have g5 := (ly_dg11_7 (C := C) (L := aL L t o) (R := R) (D := D) a1).trans (by rw [aL_5])
  have g2 := (ly_dg11_2 (C := C) (L := aL L t o) (R := R) (D := D) a1).trans (by rw [aL_2, a4])
  have pw : ∀ v, am_pf (am_mk x true Z C (aL L t o) R D) q 0 7 .long (.long v) = some (am_mk x true Z C (ux (aL L t o) t 7 v) R D) := fun v => ly_dp11_7 a1
  by_cases hT2 : ab (mT (N 37 i) (N 31 7) (B + es)) tm ≤ s
  · rw [decide_eq_true hT2] at haf
    cases o with
    | none =>
      have er : oF (af N i B tm s) none (es, c, g) = some (c, g) := by unfold oF; simp only [haf, if_true]
      rw [er, ← aL_w (c := c) (g := g) (o := none)]
      have g5 : am_fld (am_mk x true Z C (aL L t none) R D) q 0 7 = some (.long (-Int64.ofNat 1)) := g5
      simp only [e_Ai_offer, r_Ai_offer_0, r_Ai_offer_1, r_Ai_offer_4, r_Ai_offer_7, r_Ai_offer_8, r_Ai_offer_11, r_Ai_offer_12, r_Ai_offer_13, r_Ai_offer_16, r_Ai_offer_17, r_Ai_offer_20, r_Ai_offer_21, r_Ai_offer_22, r_Ai_offer_25, r_Ai_offer_26, r_Ai_offer_29, r_Ai_offer_30, r_Ai_offer_33, r_Ai_offer_34, r_Ai_offer_35, r_Ai_offer_38, r_Ai_offer_39, r_Ai_offer_42, r_Ai_offer_43, r_Ai_offer_44, r_Ai_offer_47, r_Ai_offer_48, r_Ai_offer_49, r_Ai_offer_50, r_Ai_offer_53, r_Ai_offer_54, r_Ai_offer_56, r_Ai_offer_59, i3n_0, i3n_1, l6n_0, l6n_1, am_kf_s, am_km_s, am_kn_s, am_k_v, am_k_0, am_isr_r, am_isr_n, am_isr_v, am_sw_0, am_sw_i, am_sw_l, am_sw_r, am_sw_n, am_sw_v, am_ct_i, am_ct_r, am_ct_n, am_c1_o, am_c1_n, am_c1_i, am_c1_r, am_c1_v, am_mk_1, lc_lt, lc_gt, lc_eq, lc_le, lc_ge, i01_eq, i01_ok, ite_not, true_or, or_true, true_and, and_true, false_or, or_false, false_and, and_false, if_true, if_false, not_true_eq_false, not_false_eq_true, eq_self, Nat.reduceAdd, Nat.reduceLeDiff, Nat.reduceLT, Nat.reduceEqDiff, Nat.reduceMul, Nat.reduceSub, Nat.reduceDiv, Nat.reduceMod, reduceCtorEq, Nat.zero_le, i3_le, i3_lt, i3_eq, i3_eqN, i3_leN, i3_Nle, i3_ltN, i3_NleN, i3_NeqN, i3_Neq, i3_NltN, i3_Nlt, l6_le, l6_lt, l6_eq, l6_leN, l6_Nle, l6_ltN, l6_Nlt, l6_eqN, l6_Neq, g5, g2, ly_dg11_3 a1, ly_dg11_4 a1, a5, a6, b1, b2, b3, b4, i3_long, eq, pl_abs, d1, hT2, pw, ly_dp11_8 a1, ↓reduceIte]
    | some b =>
      have g5 : am_fld (am_mk x true Z C (aL L t (some b)) R D) q 0 7 = some (.long (Int64.ofNat b.1)) := g5
      have hb := ho b rfl
      by_cases hcb : c < b.1
      · have er : oF (af N i B tm s) (some b) (es, c, g) = some (c, g) := by unfold oF; simp only [haf, hcb, and_self, if_true]
        rw [er, ← aL_w (c := c) (g := g) (o := some b)]
        simp only [e_Ai_offer, r_Ai_offer_0, r_Ai_offer_1, r_Ai_offer_4, r_Ai_offer_7, r_Ai_offer_8, r_Ai_offer_11, r_Ai_offer_12, r_Ai_offer_13, r_Ai_offer_16, r_Ai_offer_17, r_Ai_offer_20, r_Ai_offer_21, r_Ai_offer_22, r_Ai_offer_25, r_Ai_offer_26, r_Ai_offer_29, r_Ai_offer_30, r_Ai_offer_33, r_Ai_offer_34, r_Ai_offer_35, r_Ai_offer_38, r_Ai_offer_39, r_Ai_offer_42, r_Ai_offer_43, r_Ai_offer_44, r_Ai_offer_47, r_Ai_offer_48, r_Ai_offer_49, r_Ai_offer_50, r_Ai_offer_53, r_Ai_offer_54, r_Ai_offer_56, r_Ai_offer_59, i3n_0, i3n_1, l6n_0, l6n_1, am_kf_s, am_km_s, am_kn_s, am_k_v, am_k_0, am_isr_r, am_isr_n, am_isr_v, am_sw_0, am_sw_i, am_sw_l, am_sw_r, am_sw_n, am_sw_v, am_ct_i, am_ct_r, am_ct_n, am_c1_o, am_c1_n, am_c1_i, am_c1_r, am_c1_v, am_mk_1, lc_lt, lc_gt, lc_eq, lc_le, lc_ge, i01_eq, i01_ok, ite_not, true_or, or_true, true_and, and_true, false_or, or_false, false_and, and_false, if_true, if_false, not_true_eq_false, not_false_eq_true, eq_self, Nat.reduceAdd, Nat.reduceLeDiff, Nat.reduceLT, Nat.reduceEqDiff, Nat.reduceMul, Nat.reduceSub, Nat.reduceDiv, Nat.reduceMod, reduceCtorEq, Nat.zero_le, i3_le, i3_lt, i3_eq, i3_eqN, i3_leN, i3_Nle, i3_ltN, i3_NleN, i3_NeqN, i3_Neq, i3_NltN, i3_Nlt, l6_le, l6_lt, l6_eq, l6_leN, l6_Nle, l6_ltN, l6_Nlt, l6_eqN, l6_Neq, g5, g2, ly_dg11_3 a1, ly_dg11_4 a1, a5, a6, hb, hc, hcb, b1, b2, b3, b4, i3_long, eq, pl_abs, d1, hT2, pw, ly_dp11_8 a1, Nat.zero_lt_one, ↓reduceIte]
      · have er : oF (af N i B tm s) (some b) (es, c, g) = some b := by unfold oF; simp only [hcb, false_and, if_false]
        rw [er]
        simp only [e_Ai_offer, r_Ai_offer_0, r_Ai_offer_1, r_Ai_offer_4, r_Ai_offer_7, r_Ai_offer_8, r_Ai_offer_11, r_Ai_offer_12, r_Ai_offer_13, r_Ai_offer_16, r_Ai_offer_17, r_Ai_offer_20, r_Ai_offer_21, r_Ai_offer_22, r_Ai_offer_25, r_Ai_offer_26, r_Ai_offer_29, r_Ai_offer_30, r_Ai_offer_33, r_Ai_offer_34, r_Ai_offer_35, r_Ai_offer_38, r_Ai_offer_39, r_Ai_offer_42, r_Ai_offer_43, r_Ai_offer_44, r_Ai_offer_47, r_Ai_offer_48, r_Ai_offer_49, r_Ai_offer_50, r_Ai_offer_53, r_Ai_offer_54, r_Ai_offer_56, r_Ai_offer_59, i3n_0, i3n_1, l6n_0, l6n_1, am_kf_s, am_km_s, am_kn_s, am_k_v, am_k_0, am_isr_r, am_isr_n, am_isr_v, am_sw_0, am_sw_i, am_sw_l, am_sw_r, am_sw_n, am_sw_v, am_ct_i, am_ct_r, am_ct_n, am_c1_o, am_c1_n, am_c1_i, am_c1_r, am_c1_v, am_mk_1, lc_lt, lc_gt, lc_eq, lc_le, lc_ge, i01_eq, i01_ok, ite_not, true_or, or_true, true_and, and_true, false_or, or_false, false_and, and_false, if_true, if_false, not_true_eq_false, not_false_eq_true, eq_self, Nat.reduceAdd, Nat.reduceLeDiff, Nat.reduceLT, Nat.reduceEqDiff, Nat.reduceMul, Nat.reduceSub, Nat.reduceDiv, Nat.reduceMod, reduceCtorEq, Nat.zero_le, i3_le, i3_lt, i3_eq, i3_eqN, i3_leN, i3_Nle, i3_ltN, i3_NleN, i3_NeqN, i3_Neq, i3_NltN, i3_Nlt, l6_le, l6_lt, l6_eq, l6_leN, l6_Nle, l6_ltN, l6_Nlt, l6_eqN, l6_Neq, g5, hb, hc, hcb, Nat.zero_lt_one, ↓reduceIte]
  · rw [decide_eq_false hT2] at haf
    cases o with
    | none =>
      have er : oF (af N i B tm s) none (es, c, g) = none := by unfold oF; simp only [haf, Bool.false_eq_true, if_false]
      rw [er]
      have g5 : am_fld (am_mk x true Z C (aL L t none) R D) q 0 7 = some (.long (-Int64.ofNat 1)) := g5
      simp only [e_Ai_offer, r_Ai_offer_0, r_Ai_offer_1, r_Ai_offer_4, r_Ai_offer_7, r_Ai_offer_8, r_Ai_offer_11, r_Ai_offer_12, r_Ai_offer_13, r_Ai_offer_16, r_Ai_offer_17, r_Ai_offer_20, r_Ai_offer_21, r_Ai_offer_22, r_Ai_offer_25, r_Ai_offer_26, r_Ai_offer_29, r_Ai_offer_30, r_Ai_offer_33, r_Ai_offer_34, r_Ai_offer_35, r_Ai_offer_38, r_Ai_offer_39, r_Ai_offer_42, r_Ai_offer_43, r_Ai_offer_44, r_Ai_offer_47, r_Ai_offer_48, r_Ai_offer_49, r_Ai_offer_50, r_Ai_offer_53, r_Ai_offer_54, r_Ai_offer_56, r_Ai_offer_59, i3n_0, i3n_1, l6n_0, l6n_1, am_kf_s, am_km_s, am_kn_s, am_k_v, am_k_0, am_isr_r, am_isr_n, am_isr_v, am_sw_0, am_sw_i, am_sw_l, am_sw_r, am_sw_n, am_sw_v, am_ct_i, am_ct_r, am_ct_n, am_c1_o, am_c1_n, am_c1_i, am_c1_r, am_c1_v, am_mk_1, lc_lt, lc_gt, lc_eq, lc_le, lc_ge, i01_eq, i01_ok, ite_not, true_or, or_true, true_and, and_true, false_or, or_false, false_and, and_false, if_true, if_false, not_true_eq_false, not_false_eq_true, eq_self, Nat.reduceAdd, Nat.reduceLeDiff, Nat.reduceLT, Nat.reduceEqDiff, Nat.reduceMul, Nat.reduceSub, Nat.reduceDiv, Nat.reduceMod, reduceCtorEq, Nat.zero_le, i3_le, i3_lt, i3_eq, i3_eqN, i3_leN, i3_Nle, i3_ltN, i3_NleN, i3_NeqN, i3_Neq, i3_NltN, i3_Nlt, l6_le, l6_lt, l6_eq, l6_leN, l6_Nle, l6_ltN, l6_Nlt, l6_eqN, l6_Neq, g5, g2, ly_dg11_3 a1, ly_dg11_4 a1, a5, a6, b1, b2, b3, b4, i3_long, eq, pl_abs, d1, hT2, ↓reduceIte]
    | some b =>
      have g5 : am_fld (am_mk x true Z C (aL L t (some b)) R D) q 0 7 = some (.long (Int64.ofNat b.1)) := g5
      have hb := ho b rfl
      have er : oF (af N i B tm s) (some b) (es, c, g) = some b := by unfold oF; simp only [haf, Bool.false_eq_true, and_false, if_false]
      rw [er]
      by_cases hcb : c < b.1
      · simp only [e_Ai_offer, r_Ai_offer_0, r_Ai_offer_1, r_Ai_offer_4, r_Ai_offer_7, r_Ai_offer_8, r_Ai_offer_11, r_Ai_offer_12, r_Ai_offer_13, r_Ai_offer_16, r_Ai_offer_17, r_Ai_offer_20, r_Ai_offer_21, r_Ai_offer_22, r_Ai_offer_25, r_Ai_offer_26, r_Ai_offer_29, r_Ai_offer_30, r_Ai_offer_33, r_Ai_offer_34, r_Ai_offer_35, r_Ai_offer_38, r_Ai_offer_39, r_Ai_offer_42, r_Ai_offer_43, r_Ai_offer_44, r_Ai_offer_47, r_Ai_offer_48, r_Ai_offer_49, r_Ai_offer_50, r_Ai_offer_53, r_Ai_offer_54, r_Ai_offer_56, r_Ai_offer_59, i3n_0, i3n_1, l6n_0, l6n_1, am_kf_s, am_km_s, am_kn_s, am_k_v, am_k_0, am_isr_r, am_isr_n, am_isr_v, am_sw_0, am_sw_i, am_sw_l, am_sw_r, am_sw_n, am_sw_v, am_ct_i, am_ct_r, am_ct_n, am_c1_o, am_c1_n, am_c1_i, am_c1_r, am_c1_v, am_mk_1, lc_lt, lc_gt, lc_eq, lc_le, lc_ge, i01_eq, i01_ok, ite_not, true_or, or_true, true_and, and_true, false_or, or_false, false_and, and_false, if_true, if_false, not_true_eq_false, not_false_eq_true, eq_self, Nat.reduceAdd, Nat.reduceLeDiff, Nat.reduceLT, Nat.reduceEqDiff, Nat.reduceMul, Nat.reduceSub, Nat.reduceDiv, Nat.reduceMod, reduceCtorEq, Nat.zero_le, i3_le, i3_lt, i3_eq, i3_eqN, i3_leN, i3_Nle, i3_ltN, i3_NleN, i3_NeqN, i3_Neq, i3_NltN, i3_Nlt, l6_le, l6_lt, l6_eq, l6_leN, l6_Nle, l6_ltN, l6_Nlt, l6_eqN, l6_Neq, g5, g2, ly_dg11_3 a1, ly_dg11_4 a1, a5, a6, hb, hc, hcb, b1, b2, b3, b4, i3_long, eq, pl_abs, d1, hT2, Nat.zero_lt_one, ↓reduceIte]
      · simp only [e_Ai_offer, r_Ai_offer_0, r_Ai_offer_1, r_Ai_offer_4, r_Ai_offer_7, r_Ai_offer_8, r_Ai_offer_11, r_Ai_offer_12, r_Ai_offer_13, r_Ai_offer_16, r_Ai_offer_17, r_Ai_offer_20, r_Ai_offer_21, r_Ai_offer_22, r_Ai_offer_25, r_Ai_offer_26, r_Ai_offer_29, r_Ai_offer_30, r_Ai_offer_33, r_Ai_offer_34, r_Ai_offer_35, r_Ai_offer_38, r_Ai_offer_39, r_Ai_offer_42, r_Ai_offer_43, r_Ai_offer_44, r_Ai_offer_47, r_Ai_offer_48, r_Ai_offer_49, r_Ai_offer_50, r_Ai_offer_53, r_Ai_offer_54, r_Ai_offer_56, r_Ai_offer_59, i3n_0, i3n_1, l6n_0, l6n_1, am_kf_s, am_km_s, am_kn_s, am_k_v, am_k_0, am_isr_r, am_isr_n, am_isr_v, am_sw_0, am_sw_i, am_sw_l, am_sw_r, am_sw_n, am_sw_v, am_ct_i, am_ct_r, am_ct_n, am_c1_o, am_c1_n, am_c1_i, am_c1_r, am_c1_v, am_mk_1, lc_lt, lc_gt, lc_eq, lc_le, lc_ge, i01_eq, i01_ok, ite_not, true_or, or_true, true_and, and_true, false_or, or_false, false_and, and_false, if_true, if_false, not_true_eq_false, not_false_eq_true, eq_self, Nat.reduceAdd, Nat.reduceLeDiff, Nat.reduceLT, Nat.reduceEqDiff, Nat.reduceMul, Nat.reduceSub, Nat.reduceDiv, Nat.reduceMod, reduceCtorEq, Nat.zero_le, i3_le, i3_lt, i3_eq, i3_eqN, i3_leN, i3_Nle, i3_ltN, i3_NleN, i3_NeqN, i3_Neq, i3_NltN, i3_Nlt, l6_le, l6_lt, l6_eq, l6_leN, l6_Nle, l6_ltN, l6_Nlt, l6_eqN, l6_Neq, g5, hb, hc, hcb, Nat.zero_lt_one, ↓reduceIte]
/-- what the ways from surface k on make of the best one -/
def aW (N : Nat → Nat → Nat) (i p B tm s r k es c g : Nat) : Nat → Option (Nat × Nat) → Option (Nat × Nat) := fun left o => oF (af N i B tm s) o (wy (N 31 13) (fun k => N 42 (6 * i + k)) (fun d => N 35 (3 * d + p)) (fun d => N 36 d) r k es c g left)
theorem aW_split {i p B tm s r k es c g a l : Nat} {o : Option (Nat × Nat)} (hl : l < N 31 13 ^ r) : aW N i p B tm s (r + 1) k es c g (a * N 31 13 ^ r + l) o = aW N i p B tm s r (k + 1) (es + N 42 (6 * i + k) * N 35 (3 * a + p)) (c + N 42 (6 * i + k) * N 36 a) (g * 10 + a) l o := by
  have e1 : (a * N 31 13 ^ r + l) / N 31 13 ^ r = a := by
    rw [Nat.mul_comm, Nat.mul_add_div (by omega), Nat.div_eq_of_lt hl, Nat.add_zero]
  have e2 : (a * N 31 13 ^ r + l) % N 31 13 ^ r = l := by
    rw [Nat.mul_comm, Nat.mul_add_mod, Nat.mod_eq_of_lt hl]
  unfold aW
  rw [wy, e1, e2]
theorem wy_le {S : Nat} {ft ea co : Nat → Nat} {n : Nat} (h1 : ∀ k, k < n → ft k ≤ 9999) (h2 : ∀ d, d < S → ea d ≤ 99 ∧ co d ≤ 99) : ∀ (r k es c g left : Nat), k + r = n → left < S ^ r → (wy S ft ea co r k es c g left).1 ≤ es + r * 989901 ∧ (wy S ft ea co r k es c g left).2.1 ≤ c + r * 989901 := by
  intro r
  induction r with
  | zero =>
    intro k es c g left _ _
    rw [wy]
    exact ⟨Nat.le_add_right _ _, Nat.le_add_right _ _⟩
  | succ r ih =>
    intro k es c g left hk hl
    have hd : left / S ^ r < S := Nat.div_lt_of_lt_mul (by rw [Nat.pow_succ] at hl; exact hl)
    have hp : 0 < S ^ r := Nat.pow_pos (Nat.lt_of_le_of_lt (Nat.zero_le _) hd)
    obtain ⟨q1, q2⟩ := ih (k + 1) (es + ft k * ea (left / S ^ r)) (c + ft k * co (left / S ^ r)) (g * 10 + left / S ^ r) (left % S ^ r) (by omega) (Nat.mod_lt _ hp)
    obtain ⟨d1, d2⟩ := h2 _ hd
    have m1 := Nat.mul_le_mul (h1 k (by omega)) d1
    have m2 := Nat.mul_le_mul (h1 k (by omega)) d2
    rw [wy]
    constructor <;> omega
theorem l_tryStuffs (h : rl G N x Z C R D) {q t i p tm s B : Nat} (hi : i < N 31 17) (ha : ai_ok N x Z C L R q t i p tm s) (htm : tm ≤ 99999) (hs : s ≤ 9999) (hB : 100 ≤ B) (hB2 : B ≤ 2000000) (hp : p ≤ 2) (hn5 : N 40 i ≤ 5) (hS6 : N 31 13 ≤ 6) : ∀ (r k es c g d : Nat) (o : Option (Nat × Nat)), k + r = N 40 i → es ≤ k * 1000000 → c ≤ k * 1000000 → oB o → am_ex G (d + 3 + r) K_H_tryStuffs [.ref q, .int (Int32.ofNat k), .long (Int64.ofNat (B + es)), .long (Int64.ofNat c), .long (Int64.ofNat g)] (am_mk x true Z C (aL L t o) R D) = some (none, am_mk x true Z C (aL L t (it (aW N i p B tm s r k es c g) (N 31 13 ^ r) o)) R D) ∧ oB (it (aW N i p B tm s r k es c g) (N 31 13 ^ r) o) := by
  have k13 := h.1.1
  obtain ⟨-, y2, -, y4, -, -, y6, -, -, -, -, y12, y13⟩ := h.2.2.1 i hi
  obtain ⟨a1, a2, a3, -, -, -, a7, a8⟩ := id ha
  have h6 := h.1.2.1.2.2
  have g0 := fun (o : Option (Nat × Nat)) => (ly_dg11_0 (C := C) (L := aL L t o) (R := R) (D := D) a1).trans (by rw [a2, va_rf_s])
  have g1 := fun (o : Option (Nat × Nat)) => (ly_dg11_1 (C := C) (L := aL L t o) (R := R) (D := D) a1).trans (by rw [a3])
  have gr := fun (o : Option (Nat × Nat)) => (ly_dg11_5 (C := C) (L := aL L t o) (R := R) (D := D) a1).trans (by rw [a7, va_rf_s])
  have gn := fun (o : Option (Nat × Nat)) => (ly_dg11_6 (C := C) (L := aL L t o) (R := R) (D := D) a1).trans (by rw [a8])
  have ka := fun (o : Option (Nat × Nat)) => ly_dk11 (C := C) (L := aL L t o) (R := R) (D := D) a1
  have s5 := fun (o : Option (Nat × Nat)) => (ly_dg2_5 (C := C) (L := aL L t o) (R := R) (D := D) y2).trans (by rw [y12.1])
  have s4 := fun (o : Option (Nat × Nat)) => (ly_dg2_4 (C := C) (L := aL L t o) (R := R) (D := D) y2).trans (by rw [y6, va_rf_s])
  have bn : N 40 i < 2147483648 := by omega
  have bS : N 31 13 < 2147483648 := by omega
  intro r
  induction r with
  | zero =>
    intro k es c g d o hk hes hc ho
    have e := x_Ai_offer (G := G) (L := L) (d := d) (g := g) h hi ha htm hs hB hB2 (show es ≤ 6000000 by omega) (show c < 9223372036854775808 by omega) ho
    have hk2 : N 40 i ≤ k := by omega
    have bk : k < 2147483648 := by omega
    have ew : it (aW N i p B tm s 0 k es c g) (N 31 13 ^ 0) o = oF (af N i B tm s) o (es, c, g) := rfl
    rw [ew]
    refine ⟨?_, oF_B ho (by show c < _; omega)⟩
    simp only [e_H_tryStuffs, r_H_tryStuffs_0, r_H_tryStuffs_1, r_H_tryStuffs_2, r_H_tryStuffs_5, r_H_tryStuffs_8, r_H_tryStuffs_11, r_H_tryStuffs_12, r_H_tryStuffs_13, r_H_tryStuffs_16, r_H_tryStuffs_17, r_H_tryStuffs_18, r_H_tryStuffs_20, r_H_tryStuffs_22, r_H_tryStuffs_25, r_H_tryStuffs_26, r_H_tryStuffs_27, r_H_tryStuffs_27_k, r_H_tryStuffs_31, r_H_tryStuffs_32, r_H_tryStuffs_35, r_H_tryStuffs_38, r_H_tryStuffs_40, r_H_tryStuffs_41, r_H_tryStuffs_44, r_H_tryStuffs_45, r_H_tryStuffs_48, r_H_tryStuffs_49, r_H_tryStuffs_52, r_H_tryStuffs_54, r_H_tryStuffs_55, r_H_tryStuffs_55_k, r_H_tryStuffs_57, r_H_tryStuffs_59, r_H_tryStuffs_62, r_H_tryStuffs_63, r_H_tryStuffs_66, r_H_tryStuffs_69, r_H_tryStuffs_70, r_H_tryStuffs_71, r_H_tryStuffs_72, r_H_tryStuffs_72_k, r_H_tryStuffs_74, r_H_tryStuffs_75, r_H_tryStuffs_76, r_H_tryStuffs_77, r_H_tryStuffs_78, r_H_tryStuffs_79, r_H_tryStuffs_81, r_H_tryStuffs_83, r_H_tryStuffs_84, r_H_tryStuffs_87, r_H_tryStuffs_90, r_H_tryStuffs_91, r_H_tryStuffs_92, r_H_tryStuffs_93, r_H_tryStuffs_95, r_H_tryStuffs_97, r_H_tryStuffs_99, r_H_tryStuffs_102, r_H_tryStuffs_103, r_H_tryStuffs_104, r_H_tryStuffs_105, r_H_tryStuffs_107, r_H_tryStuffs_110, r_H_tryStuffs_111, r_H_tryStuffs_113, r_H_tryStuffs_114, r_H_tryStuffs_115, r_H_tryStuffs_118, r_H_tryStuffs_118_k, r_H_tryStuffs_121, r_H_tryStuffs_124, i3n_0, i3n_1, i3n_5, l6n_0, l6n_1, l6n_10, am_kf_s, am_km_s, am_kn_s, am_k_v, am_k_0, am_isr_r, am_isr_n, am_isr_v, am_sw_0, am_sw_i, am_sw_l, am_sw_r, am_sw_n, am_sw_v, am_ct_i, am_ct_r, am_ct_n, am_c1_o, am_c1_n, am_c1_i, am_c1_r, am_c1_v, am_mk_1, lc_lt, lc_gt, lc_eq, lc_le, lc_ge, i01_eq, i01_ok, ite_not, true_or, or_true, true_and, and_true, false_or, or_false, false_and, and_false, if_true, if_false, not_true_eq_false, not_false_eq_true, eq_self, Nat.reduceAdd, Nat.reduceLeDiff, Nat.reduceLT, Nat.reduceEqDiff, Nat.reduceMul, Nat.reduceSub, Nat.reduceDiv, Nat.reduceMod, reduceCtorEq, Nat.zero_le, i3_le, i3_lt, i3_eq, i3_eqN, i3_leN, i3_Nle, i3_ltN, i3_NleN, i3_NeqN, i3_Neq, i3_NltN, i3_Nlt, l6_le, l6_lt, l6_eq, l6_leN, l6_Nle, l6_ltN, l6_Nlt, l6_eqN, l6_Neq, g0, s5, bn, bk, hk2, ka, e, ↓reduceIte]
  | succ r ih =>
    intro k es c g d o hk hes hc ho
    have hkn : k < N 40 i := by omega
    have bk : k < 2147483648 := by omega
    have hk2 : ¬ N 40 i ≤ k := by omega
    have hk5 : k < 5 := by omega
    have hk6 : k < 6 := by omega
    obtain ⟨-, ⟨f1, f2, f3⟩⟩ := y13 k hkn
    have bf : N 42 (6 * i + k) < 2147483648 := by omega
    have s4r := fun (o : Option (Nat × Nat)) => (ly_dr4 (C := C) (L := aL L t o) (R := R) (D := D) y4 hk6 bk).trans (by rw [f1])
    -- the loop over the STUFFS
    have loop : ∀ (m a : Nat) (o' : Option (Nat × Nat)) (l9 l10 l11 : Option Value), N 31 13 - a = m → a ≤ N 31 13 → o' = it (aW N i p B tm s (r + 1) k es c g) (a * N 31 13 ^ r) o → oB o' → am_run G (d + 3 + r) K_H_tryStuffs (29, [some (.ref q), some (.int (Int32.ofNat k)), some (.long (Int64.ofNat (B + es))), none, some (.long (Int64.ofNat c)), none, some (.long (Int64.ofNat g)), none, some (.int (Int32.ofNat a)), l9, l10, l11], [], am_mk x true Z C (aL L t o') R D) = some (none, am_mk x true Z C (aL L t (it (aW N i p B tm s (r + 1) k es c g) (N 31 13 ^ (r + 1)) o)) R D) ∧ oB (it (aW N i p B tm s (r + 1) k es c g) (N 31 13 ^ (r + 1)) o) := by
      intro m
      induction m with
      | zero =>
        intro a o' l9 l10 l11 hm ha2 ho' hb'
        have e : a = N 31 13 := by omega
        subst e
        rw [Nat.pow_succ, Nat.mul_comm, ← ho']
        refine ⟨?_, hb'⟩
        rw [r_H_tryStuffs_29]
        simp only [r_H_tryStuffs_31, r_H_tryStuffs_32, r_H_tryStuffs_35, r_H_tryStuffs_124, i3n_0, i3n_1, i3n_5, l6n_0, l6n_1, l6n_10, am_kf_s, am_km_s, am_kn_s, am_k_v, am_k_0, am_isr_r, am_isr_n, am_isr_v, am_sw_0, am_sw_i, am_sw_l, am_sw_r, am_sw_n, am_sw_v, am_ct_i, am_ct_r, am_ct_n, am_c1_o, am_c1_n, am_c1_i, am_c1_r, am_c1_v, am_mk_1, lc_lt, lc_gt, lc_eq, lc_le, lc_ge, i01_eq, i01_ok, ite_not, true_or, or_true, true_and, and_true, false_or, or_false, false_and, and_false, if_true, if_false, not_true_eq_false, not_false_eq_true, eq_self, Nat.reduceAdd, Nat.reduceLeDiff, Nat.reduceLT, Nat.reduceEqDiff, Nat.reduceMul, Nat.reduceSub, Nat.reduceDiv, Nat.reduceMod, reduceCtorEq, Nat.zero_le, i3_le, i3_lt, i3_eq, i3_eqN, i3_leN, i3_Nle, i3_ltN, i3_NleN, i3_NeqN, i3_Neq, i3_NltN, i3_Nlt, l6_le, l6_lt, l6_eq, l6_leN, l6_Nle, l6_ltN, l6_Nlt, l6_eqN, l6_Neq, gn, bS, Nat.le_refl, ↓reduceIte]
      | succ m ihm =>
        intro a o' l9 l10 l11 hm ha2 ho' hb'
        have haS : a < N 31 13 := by omega
        have ba : a < 2147483648 := by omega
        have c1 : ¬ N 31 13 ≤ a := by omega
        have c2 : ¬ 8 ≤ a := by omega
        have c3 : a < 8 := by omega
        obtain ⟨z1, z2, z3, -, z5, z6, -⟩ := h.2.1 a haS
        have e2 := x_Su_eatsBy (G := G) (L := aL L t o') (d := d + 2 + r) h haS (show p < 3 by omega)
        rw [show d + 2 + r + 1 = d + 3 + r by omega] at e2
        have e3 := (ly_dg1_1 (C := C) (L := aL L t o') (R := R) (D := D) z2).trans (by rw [z6])
        have k1 := ly_dk1 (C := C) (L := aL L t o') (R := R) (D := D) z2
        obtain ⟨-, z3⟩ := z3 p (by omega)
        have m1 := Nat.mul_le_mul f3 z3
        have m2 := Nat.mul_le_mul f3 z5
        have b1 : N 35 (3 * a + p) < 2147483648 := by omega
        have b2 : N 36 a < 2147483648 := by omega
        obtain ⟨w1, w2⟩ := ih (k + 1) (es + N 42 (6 * i + k) * N 35 (3 * a + p)) (c + N 42 (6 * i + k) * N 36 a) (g * 10 + a) d o' (by omega) (by omega) (by omega) hb'
        have en : it (aW N i p B tm s r (k + 1) (es + N 42 (6 * i + k) * N 35 (3 * a + p)) (c + N 42 (6 * i + k) * N 36 a) (g * 10 + a)) (N 31 13 ^ r) o' = it (aW N i p B tm s (r + 1) k es c g) ((a + 1) * N 31 13 ^ r) o := by
          have es : (a + 1) * N 31 13 ^ r = a * N 31 13 ^ r + N 31 13 ^ r := Nat.succ_mul a _
          rw [es, it_add, ← ho']
          exact it_eq (fun l o2 hl => (aW_split hl).symm)
        rw [en] at w1 w2
        obtain ⟨v1, v2⟩ := ihm (a + 1) _ (some (.ref (Z.2 (a + 1000)))) (some (.long (Int64.ofNat (N 42 (6 * i + k))))) none (by omega) (by omega) rfl w2
        refine ⟨?_, v2⟩
        rw [← v1, r_H_tryStuffs_29]
        have eB : B + es + N 42 (6 * i + k) * N 35 (3 * a + p) = B + (es + N 42 (6 * i + k) * N 35 (3 * a + p)) := Nat.add_assoc _ _ _
        simp only [r_H_tryStuffs_31, r_H_tryStuffs_32, r_H_tryStuffs_35, r_H_tryStuffs_38, r_H_tryStuffs_40, r_H_tryStuffs_41, r_H_tryStuffs_44, r_H_tryStuffs_45, r_H_tryStuffs_48, r_H_tryStuffs_49, r_H_tryStuffs_52, r_H_tryStuffs_54, r_H_tryStuffs_55, r_H_tryStuffs_55_k, r_H_tryStuffs_57, r_H_tryStuffs_59, r_H_tryStuffs_62, r_H_tryStuffs_63, r_H_tryStuffs_66, r_H_tryStuffs_69, r_H_tryStuffs_70, r_H_tryStuffs_71, r_H_tryStuffs_72, r_H_tryStuffs_72_k, r_H_tryStuffs_74, r_H_tryStuffs_75, r_H_tryStuffs_76, r_H_tryStuffs_77, r_H_tryStuffs_78, r_H_tryStuffs_79, r_H_tryStuffs_81, r_H_tryStuffs_83, r_H_tryStuffs_84, r_H_tryStuffs_87, r_H_tryStuffs_90, r_H_tryStuffs_91, r_H_tryStuffs_92, r_H_tryStuffs_93, r_H_tryStuffs_95, r_H_tryStuffs_97, r_H_tryStuffs_99, r_H_tryStuffs_102, r_H_tryStuffs_103, r_H_tryStuffs_104, r_H_tryStuffs_105, r_H_tryStuffs_107, r_H_tryStuffs_110, r_H_tryStuffs_111, r_H_tryStuffs_113, r_H_tryStuffs_114, r_H_tryStuffs_115, r_H_tryStuffs_118, r_H_tryStuffs_118_k, r_H_tryStuffs_121, i3n_0, i3n_1, i3n_5, l6n_0, l6n_1, l6n_10, am_kf_s, am_km_s, am_kn_s, am_k_v, am_k_0, am_isr_r, am_isr_n, am_isr_v, am_sw_0, am_sw_i, am_sw_l, am_sw_r, am_sw_n, am_sw_v, am_ct_i, am_ct_r, am_ct_n, am_c1_o, am_c1_n, am_c1_i, am_c1_r, am_c1_v, am_mk_1, lc_lt, lc_gt, lc_eq, lc_le, lc_ge, i01_eq, i01_ok, ite_not, true_or, or_true, true_and, and_true, false_or, or_false, false_and, and_false, if_true, if_false, not_true_eq_false, not_false_eq_true, eq_self, Nat.reduceAdd, Nat.reduceLeDiff, Nat.reduceLT, Nat.reduceEqDiff, Nat.reduceMul, Nat.reduceSub, Nat.reduceDiv, Nat.reduceMod, reduceCtorEq, Nat.zero_le, i3_le, i3_lt, i3_eq, i3_eqN, i3_leN, i3_Nle, i3_ltN, i3_NleN, i3_NeqN, i3_Neq, i3_NltN, i3_Nlt, l6_le, l6_lt, l6_eq, l6_leN, l6_Nle, l6_ltN, l6_Nlt, l6_eqN, l6_Neq, gn, gr, ly_n1, ly_r1, z1, va_rf_s, bS, ba, bf, b1, b2, c1, c2, c3, g0, g1, s4, s4r, e2, e3, k1, i3_long, l6_mul, l6_add, i3_add, eB, w1, ↓reduceIte]
    obtain ⟨v1, v2⟩ := loop (N 31 13) 0 o none none none rfl (Nat.zero_le _) (by rw [Nat.zero_mul]; rfl) ho
    refine ⟨?_, v2⟩
    rw [← v1]
    have ed : d + 3 + (r + 1) = d + 3 + r + 1 := by omega
    rw [ed]
    simp only [e_H_tryStuffs, r_H_tryStuffs_0, r_H_tryStuffs_1, r_H_tryStuffs_2, r_H_tryStuffs_5, r_H_tryStuffs_8, r_H_tryStuffs_11, r_H_tryStuffs_12, r_H_tryStuffs_13, r_H_tryStuffs_16, r_H_tryStuffs_17, r_H_tryStuffs_18, r_H_tryStuffs_20, r_H_tryStuffs_22, r_H_tryStuffs_25, r_H_tryStuffs_26, r_H_tryStuffs_27, r_H_tryStuffs_27_k, r_H_tryStuffs_31, r_H_tryStuffs_32, r_H_tryStuffs_35, r_H_tryStuffs_38, r_H_tryStuffs_40, r_H_tryStuffs_41, r_H_tryStuffs_44, r_H_tryStuffs_45, r_H_tryStuffs_48, r_H_tryStuffs_49, r_H_tryStuffs_52, r_H_tryStuffs_54, r_H_tryStuffs_55, r_H_tryStuffs_55_k, r_H_tryStuffs_57, r_H_tryStuffs_59, r_H_tryStuffs_62, r_H_tryStuffs_63, r_H_tryStuffs_66, r_H_tryStuffs_69, r_H_tryStuffs_70, r_H_tryStuffs_71, r_H_tryStuffs_72, r_H_tryStuffs_72_k, r_H_tryStuffs_74, r_H_tryStuffs_75, r_H_tryStuffs_76, r_H_tryStuffs_77, r_H_tryStuffs_78, r_H_tryStuffs_79, r_H_tryStuffs_81, r_H_tryStuffs_83, r_H_tryStuffs_84, r_H_tryStuffs_87, r_H_tryStuffs_90, r_H_tryStuffs_91, r_H_tryStuffs_92, r_H_tryStuffs_93, r_H_tryStuffs_95, r_H_tryStuffs_97, r_H_tryStuffs_99, r_H_tryStuffs_102, r_H_tryStuffs_103, r_H_tryStuffs_104, r_H_tryStuffs_105, r_H_tryStuffs_107, r_H_tryStuffs_110, r_H_tryStuffs_111, r_H_tryStuffs_113, r_H_tryStuffs_114, r_H_tryStuffs_115, r_H_tryStuffs_118, r_H_tryStuffs_118_k, r_H_tryStuffs_121, r_H_tryStuffs_124, i3n_0, i3n_1, i3n_5, l6n_0, l6n_1, l6n_10, am_kf_s, am_km_s, am_kn_s, am_k_v, am_k_0, am_isr_r, am_isr_n, am_isr_v, am_sw_0, am_sw_i, am_sw_l, am_sw_r, am_sw_n, am_sw_v, am_ct_i, am_ct_r, am_ct_n, am_c1_o, am_c1_n, am_c1_i, am_c1_r, am_c1_v, am_mk_1, lc_lt, lc_gt, lc_eq, lc_le, lc_ge, i01_eq, i01_ok, ite_not, true_or, or_true, true_and, and_true, false_or, or_false, false_and, and_false, if_true, if_false, not_true_eq_false, not_false_eq_true, eq_self, Nat.reduceAdd, Nat.reduceLeDiff, Nat.reduceLT, Nat.reduceEqDiff, Nat.reduceMul, Nat.reduceSub, Nat.reduceDiv, Nat.reduceMod, reduceCtorEq, Nat.zero_le, i3_le, i3_lt, i3_eq, i3_eqN, i3_leN, i3_Nle, i3_ltN, i3_NleN, i3_NeqN, i3_Neq, i3_NltN, i3_Nlt, l6_le, l6_lt, l6_eq, l6_leN, l6_Nle, l6_ltN, l6_Nlt, l6_eqN, l6_Neq, g0, s5, bn, bk, hk2, hk5, ↓reduceIte]
end
