/-! OFF of a NIGHT by a pair, and sums of it -/
def mA (N : Nat → Nat → Nat) (i c : Nat) : Nat := mE N (N 44 i) (N 45 i) + mM N i c
def mO (N : Nat → Nat → Nat) (c l i : Nat) : Nat := (N 47 i - (mT (N 37 (N 44 i)) l (mA N i c) + mL N i)) + (mT (N 37 (N 44 i)) l (mA N i c) + mL N i - N 47 i)
def su (N : Nat → Nat → Nat) (c l : Nat) : List Nat → Nat
  | [] => 0
  | i :: t => mO N c l i + su N c l t
theorem su_app {N : Nat → Nat → Nat} {c l : Nat} : ∀ {a b : List Nat}, su N c l (a ++ b) = su N c l a + su N c l b
  | [], b => by rw [List.nil_append, su, Nat.zero_add]
  | i :: t, b => by rw [List.cons_append, su, su, su_app, Nat.add_assoc]
theorem su_one {N : Nat → Nat → Nat} {c l i : Nat} : su N c l [i] = mO N c l i := by rw [su, su, Nat.add_zero]
theorem su_take {N : Nat → Nat → Nat} {c l k i : Nat} {a : List Nat} (h : a[k]? = some i) : su N c l (a.take (k + 1)) = su N c l (a.take k) + mO N c l i := by
  rw [List.take_add_one, h, su_app]
  show _ + su N c l [i] = _
  rw [su_one]
theorem su_take_le {N : Nat → Nat → Nat} {c l k : Nat} {a : List Nat} : su N c l (a.take k) ≤ su N c l a := by
  have e : su N c l a = su N c l (a.take k) + su N c l (a.drop k) := by rw [← su_app, List.take_append_drop]
  omega
theorem l6_abs {a : Int64} {v : Int} (ha : a.toInt = v) (h1 : -4611686018427387904 < v) (h2 : v < 4611686018427387904) : (if Int64.ofNat 0 < a then a else -a) = Int64.ofNat v.natAbs := by
  have hn : (Int64.ofNat v.natAbs).toInt = v.natAbs := Int64.toInt_ofNat_of_lt (by omega)
  have h0 : (Int64.ofNat 0).toInt = 0 := rfl
  apply Int64.toInt_inj.mp
  rw [hn]
  by_cases h : Int64.ofNat 0 < a
  · rw [if_pos h, ha]
    have := Int64.lt_iff_toInt_lt.mp h
    omega
  · rw [if_neg h, Int64.toInt_neg, ha]
    have := mt Int64.lt_iff_toInt_lt.mpr h
    rw [h0, ha] at this
    simp only [Int.bmod_def]
    omega
theorem l6_plain {a : Int64} {v : Int} (ha : a.toInt = v) (h1 : -4611686018427387904 < v) (h2 : v < 4611686018427387904) : (if a < Int64.ofNat 0 then -a else a) = Int64.ofNat v.natAbs := by
  have hn : (Int64.ofNat v.natAbs).toInt = v.natAbs := Int64.toInt_ofNat_of_lt (by omega)
  have h0 : (Int64.ofNat 0).toInt = 0 := rfl
  apply Int64.toInt_inj.mp
  rw [hn]
  by_cases h : a < Int64.ofNat 0
  · rw [if_pos h, Int64.toInt_neg, ha]
    have := Int64.lt_iff_toInt_lt.mp h
    rw [h0, ha] at this
    simp only [Int.bmod_def]
    omega
  · rw [if_neg h, ha]
    have := mt Int64.lt_iff_toInt_lt.mpr h
    rw [h0, ha] at this
    omega
theorem l6_sub2 {p q r : Nat} (hp : p < 1000000000000000) (hq : q < 1000000000000000) (hr : r < 1000000000000000) : (Int64.ofNat p - Int64.ofNat q - Int64.ofNat r).toInt = (p : Int) - q - r := by
  rw [Int64.toInt_sub, Int64.toInt_sub, Int64.toInt_ofNat_of_lt (by omega), Int64.toInt_ofNat_of_lt (by omega), Int64.toInt_ofNat_of_lt (by omega)]
  simp only [Int.bmod_def]
  omega
section
variable {G : Nat → Value} {x : Nat} {N : Nat → Nat → Nat} {Z : ly_Z} {C : Nat → Nat → Int32} {L : Nat → Nat → Int64} {R : Nat → Nat → Option Nat} {D : am_M}
theorem mA_lt (h : rl G N x Z C R D) {i c : Nat} (hi : i < N 31 27) (hc : c ≤ 999) : 100 ≤ mA N i c ∧ mA N i c ≤ 8000000 := by
  obtain ⟨-, n2, r1, a4, a5, a6, -⟩ := h.2.2.2.1 i hi
  have h1 := mE_lt h a5.2.2 (show N 45 i < 3 by omega)
  have h2 := mM_le h hi hc
  unfold mA
  omega
theorem mO_le (h : rl G N x Z C R D) {i c l : Nat} (hi : i < N 31 27) (hl : l ≤ 999) : mO N c l i ≤ 10000000000 := by
  obtain ⟨-, n2, r1, a4, a5, a6, a7, a8, -⟩ := h.2.2.2.1 i hi
  have hs := (h.2.2.1 _ a5.2.2).2.2.2.2.2.2.2.2.1
  have h1 := mT_le (s := N 37 (N 44 i)) (l := l) (e := mA N i c) hs.2.2.2 hl
  have h2 := mL_le (N := N) (i := i)
  unfold mO
  omega
theorem su_le (h : rl G N x Z C R D) {c l : Nat} (hl : l ≤ 999) : ∀ {a : List Nat}, (∀ i, i ∈ a → i < N 31 27) → su N c l a ≤ a.length * 10000000000
  | [], _ => Nat.zero_le _
  | i :: t, ha => by
    have h1 := mO_le h (c := c) (ha i List.mem_cons_self) hl
    have h2 := su_le h (c := c) hl (fun j hj => ha j (List.mem_cons_of_mem _ hj))
    rw [su, List.length_cons, Nat.add_mul]
    omega
theorem spl_all {hl : Option Nat} {n : Nat} : ∀ i, i ∈ spl N hl n → i < n := fun i hi => List.mem_range.mp (List.mem_filter.mp hi).1
theorem x_Sp_speakerAt {l : List Nat} (h : sp_ok N Z C L R l) (hl : l.length ≤ 40) {d k i : Nat} (hk : l[k]? = some i) : am_ex G (d + 1) K_Sp_speakerAt [.ref (x + 10), .int (Int32.ofNat k)] (am_mk x true Z C L R D) = some (some (.ref (Z.2 (i + 6000))), am_mk x true Z C L R D) := by
  have k1 := (List.getElem?_eq_some_iff.mp hk).1
  have r1 := (h.2 k i hk).1
  have b0 : ¬ k < 0 := Nat.not_lt_zero _
  have b1 : k < 2147483648 := by omega
  have b2 : l.length < 2147483648 := by omega
  have b3 : ¬ l.length ≤ k := by omega
  have b4 : ¬ 40 ≤ k := by omega
  have b5 : k < 40 := by omega
  simp only [e_Sp_speakerAt, r_Sp_speakerAt_0, r_Sp_speakerAt_1, r_Sp_speakerAt_4, r_Sp_speakerAt_5, r_Sp_speakerAt_6, r_Sp_speakerAt_9, r_Sp_speakerAt_12, r_Sp_speakerAt_13, r_Sp_speakerAt_14, r_Sp_speakerAt_17, r_Sp_speakerAt_18, r_Sp_speakerAt_21, r_Sp_speakerAt_22, r_Sp_speakerAt_25, r_Sp_speakerAt_26, r_Sp_speakerAt_27, r_Sp_speakerAt_30, r_Sp_speakerAt_31, ly_g10_0, ly_g10_1, ly_n11, ly_r11, ly_w11, i3n_0, i3n_1, l6n_0, l6n_1, am_kf_s, am_km_s, am_kn_s, am_k_v, am_k_0, am_isr_r, am_isr_n, am_isr_v, am_sw_0, am_sw_i, am_sw_l, am_sw_r, am_sw_n, am_sw_v, am_ct_i, am_ct_r, am_ct_n, am_c1_o, am_c1_n, am_c1_i, am_c1_r, am_c1_v, am_mk_1, lc_lt, lc_gt, lc_eq, lc_le, lc_ge, i01_eq, i01_ok, ite_not, true_or, or_true, true_and, and_true, false_or, or_false, false_and, and_false, if_true, if_false, not_true_eq_false, not_false_eq_true, eq_self, Nat.reduceAdd, Nat.reduceLeDiff, Nat.reduceLT, Nat.reduceEqDiff, Nat.reduceMul, Nat.reduceSub, Nat.reduceDiv, Nat.reduceMod, reduceCtorEq, Nat.zero_le, i3_le, i3_lt, i3_eq, i3_eqN, i3_leN, i3_Nle, i3_ltN, i3_NleN, i3_NeqN, i3_Neq, i3_NltN, i3_Nlt, l6_le, l6_lt, l6_eq, l6_leN, l6_Nle, l6_ltN, l6_Nlt, l6_eqN, l6_Neq, h.1, r1, va_rf_s, b0, b1, b2, b3, b4, b5, ↓reduceIte]
theorem x_Sp_eatAlso {d k e m : Nat} (hk : k < 40) (he : L 14 k = Int64.ofNat e) : am_ex G (d + 1) K_Sp_eatAlso [.ref (x + 10), .int (Int32.ofNat k), .long (Int64.ofNat m)] (am_mk x true Z C L R D) = some (none, am_mk x true Z C (ux L 15 k (Int64.ofNat (e + m))) R D) := by
  have b0 : ¬ k < 0 := Nat.not_lt_zero _
  have b1 : k < 2147483648 := by omega
  have b3 : ¬ 40 ≤ k := by omega
  simp only [e_Sp_eatAlso, r_Sp_eatAlso_0, r_Sp_eatAlso_1, r_Sp_eatAlso_4, r_Sp_eatAlso_5, r_Sp_eatAlso_6, r_Sp_eatAlso_9, r_Sp_eatAlso_10, r_Sp_eatAlso_13, r_Sp_eatAlso_14, r_Sp_eatAlso_17, r_Sp_eatAlso_18, r_Sp_eatAlso_19, r_Sp_eatAlso_22, r_Sp_eatAlso_23, r_Sp_eatAlso_24, r_Sp_eatAlso_25, r_Sp_eatAlso_26, r_Sp_eatAlso_27, ly_g10_5, ly_n15, ly_r15, ly_w15, ly_g10_4, ly_n14, ly_r14, ly_w14, i3n_0, i3n_1, l6n_0, l6n_1, am_kf_s, am_km_s, am_kn_s, am_k_v, am_k_0, am_isr_r, am_isr_n, am_isr_v, am_sw_0, am_sw_i, am_sw_l, am_sw_r, am_sw_n, am_sw_v, am_ct_i, am_ct_r, am_ct_n, am_c1_o, am_c1_n, am_c1_i, am_c1_r, am_c1_v, am_mk_1, lc_lt, lc_gt, lc_eq, lc_le, lc_ge, i01_eq, i01_ok, ite_not, true_or, or_true, true_and, and_true, false_or, or_false, false_and, and_false, if_true, if_false, not_true_eq_false, not_false_eq_true, eq_self, Nat.reduceAdd, Nat.reduceLeDiff, Nat.reduceLT, Nat.reduceEqDiff, Nat.reduceMul, Nat.reduceSub, Nat.reduceDiv, Nat.reduceMod, reduceCtorEq, Nat.zero_le, i3_le, i3_lt, i3_eq, i3_eqN, i3_leN, i3_Nle, i3_ltN, i3_NleN, i3_NeqN, i3_Neq, i3_NltN, i3_Nlt, l6_le, l6_lt, l6_eq, l6_leN, l6_Nle, l6_ltN, l6_Nlt, l6_eqN, l6_Neq, he, hk, b0, b1, b3, l6_add, ↓reduceIte]
theorem sp_ok_15 {l : List Nat} {L' : Nat → Nat → Int64} (h : sp_ok N Z C L R l) (f : ∀ a b, ¬ a = 15 → L' a b = L a b) : sp_ok N Z C L' R l := by
  refine ⟨h.1, fun k i hk => ?_⟩
  obtain ⟨a1, a2, a3, a4, a5⟩ := h.2 k i hk
  exact ⟨a1, a2, by rw [f _ _ (by decide)]; exact a3, by rw [f _ _ (by decide)]; exact a4, by rw [f _ _ (by decide)]; exact a5⟩
theorem l_H_tryCushion (h : rl G N x Z C R D) {l : List Nat} (hs : sp_ok N Z C L R l) (hl : l.length ≤ 40) (hv : ∀ i, i ∈ l → i < N 31 27) {d c : Nat} (hc : c ≤ 999) : ∀ (r k : Nat) (L1 : Nat → Nat → Int64) (l3 : Option Value), l.length - k = r → k ≤ l.length → am_c1 l3 = true → (∀ a b, ¬ a = 15 → L1 a b = L a b) → (∀ k' i, k' < k → l[k']? = some i → L1 15 k' = Int64.ofNat (mA N i c)) → ∃ L', am_run G (d + 2) K_H_tryCushion (2, [some (.ref x), some (.int (Int32.ofNat c)), some (.int (Int32.ofNat k)), l3], [], am_mk x true Z C L1 R D) = some (none, am_mk x true Z C L' R D) ∧ (∀ a b, ¬ a = 15 → L' a b = L a b) ∧ (∀ k' i, l[k']? = some i → L' 15 k' = Int64.ofNat (mA N i c)) := by
  intro r
  induction r with
  | zero =>
    intro k L1 l3 hr hk h3 hf ha
    have e : k = l.length := by omega
    subst e
    have b1 : l.length < 2147483648 := by omega
    refine ⟨L1, ?_, hf, fun k' i hk' => ha k' i (List.getElem?_eq_some_iff.mp hk').1 hk'⟩
    rw [r_H_tryCushion_2]
    simp only [r_H_tryCushion_3, r_H_tryCushion_4, r_H_tryCushion_7, r_H_tryCushion_10, r_H_tryCushion_13, r_H_tryCushion_14, r_H_tryCushion_17, r_H_tryCushion_18, r_H_tryCushion_21, r_H_tryCushion_21_k, r_H_tryCushion_22, r_H_tryCushion_23, r_H_tryCushion_26, r_H_tryCushion_27, r_H_tryCushion_30, r_H_tryCushion_31, r_H_tryCushion_32, r_H_tryCushion_33, r_H_tryCushion_34, r_H_tryCushion_37, r_H_tryCushion_40, r_H_tryCushion_40_k, r_H_tryCushion_43, r_H_tryCushion_46, ly_g0_12, ly_k10, ly_g10_0, ly_k0, i3n_0, i3n_1, l6n_0, l6n_1, am_kf_s, am_km_s, am_kn_s, am_k_v, am_k_0, am_isr_r, am_isr_n, am_isr_v, am_sw_0, am_sw_i, am_sw_l, am_sw_r, am_sw_n, am_sw_v, am_ct_i, am_ct_r, am_ct_n, am_c1_o, am_c1_n, am_c1_i, am_c1_r, am_c1_v, am_mk_1, lc_lt, lc_gt, lc_eq, lc_le, lc_ge, i01_eq, i01_ok, ite_not, true_or, or_true, true_and, and_true, false_or, or_false, false_and, and_false, if_true, if_false, not_true_eq_false, not_false_eq_true, eq_self, Nat.reduceAdd, Nat.reduceLeDiff, Nat.reduceLT, Nat.reduceEqDiff, Nat.reduceMul, Nat.reduceSub, Nat.reduceDiv, Nat.reduceMod, reduceCtorEq, Nat.zero_le, i3_le, i3_lt, i3_eq, i3_eqN, i3_leN, i3_Nle, i3_ltN, i3_NleN, i3_NeqN, i3_Neq, i3_NltN, i3_Nlt, l6_le, l6_lt, l6_eq, l6_leN, l6_Nle, l6_ltN, l6_Nlt, l6_eqN, l6_Neq, hs.1, b1, h3, Nat.le_refl, ↓reduceIte]
  | succ r ih =>
    intro k L1 l3 hr hk h3 hf ha
    have hkl : k < l.length := by omega
    obtain ⟨i, hi⟩ : ∃ i, l[k]? = some i := ⟨l[k], List.getElem?_eq_getElem hkl⟩
    have hin := hv i (List.mem_of_getElem? hi)
    have b1 : l.length < 2147483648 := by omega
    have b2 : k < 2147483648 := by omega
    have b3 : ¬ l.length ≤ k := by omega
    have hs1 := sp_ok_15 hs hf
    have e1 := x_Sp_speakerAt (G := G) (x := x) (D := D) (d := d + 1) hs1 hl hi
    have e2 := x_H_moreOf (L := L1) (d := d + 1) (c := c) h hin hc
    have e3 := x_Sp_eatAlso (G := G) (x := x) (Z := Z) (C := C) (R := R) (D := D) (d := d + 1) (m := mM N i c) (show k < 40 by omega) (hs1.2 k i hi).2.2.2.1
    obtain ⟨L', w1, w2, w3⟩ := ih (k + 1) (ux L1 15 k (Int64.ofNat (mA N i c))) (some (.ref (Z.2 (i + 6000)))) (by omega) (by omega) am_c1_r (fun a b q => by rw [ux_ne (by omega)]; exact hf a b q) (fun k' i' hk' hi' => by
      by_cases e : k' = k
      · subst e
        rw [hi] at hi'
        cases hi'
        rw [ux_at]
      · rw [ux_ne (by omega)]
        exact ha k' i' (by omega) hi')
    refine ⟨L', ?_, w2, w3⟩
    rw [← w1, r_H_tryCushion_2]
    have em : mE N (N 44 i) (N 45 i) + mM N i c = mA N i c := rfl
    rw [em] at e3
    simp only [r_H_tryCushion_3, r_H_tryCushion_4, r_H_tryCushion_7, r_H_tryCushion_10, r_H_tryCushion_13, r_H_tryCushion_14, r_H_tryCushion_17, r_H_tryCushion_18, r_H_tryCushion_21, r_H_tryCushion_21_k, r_H_tryCushion_22, r_H_tryCushion_23, r_H_tryCushion_26, r_H_tryCushion_27, r_H_tryCushion_30, r_H_tryCushion_31, r_H_tryCushion_32, r_H_tryCushion_33, r_H_tryCushion_34, r_H_tryCushion_37, r_H_tryCushion_40, r_H_tryCushion_40_k, r_H_tryCushion_43, ly_g0_12, ly_k10, ly_g10_0, ly_k0, i3n_0, i3n_1, l6n_0, l6n_1, am_kf_s, am_km_s, am_kn_s, am_k_v, am_k_0, am_isr_r, am_isr_n, am_isr_v, am_sw_0, am_sw_i, am_sw_l, am_sw_r, am_sw_n, am_sw_v, am_ct_i, am_ct_r, am_ct_n, am_c1_o, am_c1_n, am_c1_i, am_c1_r, am_c1_v, am_mk_1, lc_lt, lc_gt, lc_eq, lc_le, lc_ge, i01_eq, i01_ok, ite_not, true_or, or_true, true_and, and_true, false_or, or_false, false_and, and_false, if_true, if_false, not_true_eq_false, not_false_eq_true, eq_self, Nat.reduceAdd, Nat.reduceLeDiff, Nat.reduceLT, Nat.reduceEqDiff, Nat.reduceMul, Nat.reduceSub, Nat.reduceDiv, Nat.reduceMod, reduceCtorEq, Nat.zero_le, i3_le, i3_lt, i3_eq, i3_eqN, i3_leN, i3_Nle, i3_ltN, i3_NleN, i3_NeqN, i3_Neq, i3_NltN, i3_Nlt, l6_le, l6_lt, l6_eq, l6_leN, l6_Nle, l6_ltN, l6_Nlt, l6_eqN, l6_Neq, hs.1, b1, b2, b3, h3, e1, e2, e3, i3_add, ↓reduceIte]
theorem x_H_tryCushion (h : rl G N x Z C R D) {l : List Nat} (hs : sp_ok N Z C L R l) (hl : l.length ≤ 40) (hv : ∀ i, i ∈ l → i < N 31 27) {d c : Nat} (hc : c ≤ 999) : ∃ L', am_ex G (d + 3) K_H_tryCushion [.ref x, .int (Int32.ofNat c)] (am_mk x true Z C L R D) = some (none, am_mk x true Z C L' R D) ∧ (∀ a b, ¬ a = 15 → L' a b = L a b) ∧ (∀ k' i, l[k']? = some i → L' 15 k' = Int64.ofNat (mA N i c)) := by
  obtain ⟨L', w1, w2, w3⟩ := l_H_tryCushion h hs hl hv (d := d) hc l.length 0 L none rfl (Nat.zero_le _) am_c1_n (fun _ _ _ => rfl) (fun k' i hk' _ => absurd hk' (Nat.not_lt_zero _))
  refine ⟨L', ?_, w2, w3⟩
  rw [← w1]
  simp only [e_H_tryCushion, r_H_tryCushion_0, r_H_tryCushion_1, r_H_tryCushion_1_k, r_H_tryCushion_3, r_H_tryCushion_4, r_H_tryCushion_7, r_H_tryCushion_10, r_H_tryCushion_13, r_H_tryCushion_14, r_H_tryCushion_17, r_H_tryCushion_18, r_H_tryCushion_21, r_H_tryCushion_21_k, r_H_tryCushion_22, r_H_tryCushion_23, r_H_tryCushion_26, r_H_tryCushion_27, r_H_tryCushion_30, r_H_tryCushion_31, r_H_tryCushion_32, r_H_tryCushion_33, r_H_tryCushion_34, r_H_tryCushion_37, r_H_tryCushion_40, r_H_tryCushion_40_k, r_H_tryCushion_43, r_H_tryCushion_46, ly_g0_12, ly_k10, ly_g10_0, ly_k0, i3n_0, i3n_1, l6n_0, l6n_1, am_kf_s, am_km_s, am_kn_s, am_k_v, am_k_0, am_isr_r, am_isr_n, am_isr_v, am_sw_0, am_sw_i, am_sw_l, am_sw_r, am_sw_n, am_sw_v, am_ct_i, am_ct_r, am_ct_n, am_c1_o, am_c1_n, am_c1_i, am_c1_r, am_c1_v, am_mk_1, lc_lt, lc_gt, lc_eq, lc_le, lc_ge, i01_eq, i01_ok, ite_not, true_or, or_true, true_and, and_true, false_or, or_false, false_and, and_false, if_true, if_false, not_true_eq_false, not_false_eq_true, eq_self, Nat.reduceAdd, Nat.reduceLeDiff, Nat.reduceLT, Nat.reduceEqDiff, Nat.reduceMul, Nat.reduceSub, Nat.reduceDiv, Nat.reduceMod, reduceCtorEq, Nat.zero_le, i3_le, i3_lt, i3_eq, i3_eqN, i3_leN, i3_Nle, i3_ltN, i3_NleN, i3_NeqN, i3_Neq, i3_NltN, i3_Nlt, l6_le, l6_lt, l6_eq, l6_leN, l6_Nle, l6_ltN, l6_Nlt, l6_eqN, l6_Neq, ↓reduceIte]
theorem x_Sp_offBy (h : rl G N x Z C R D) {l : List Nat} (hs : sp_ok N Z C L R l) (hl : l.length ≤ 40) (hv : ∀ i, i ∈ l → i < N 31 27) {d c k i law : Nat} (hc : c ≤ 999) (hlaw : law ≤ 999) (ha : ∀ k' i, l[k']? = some i → L 15 k' = Int64.ofNat (mA N i c)) (hk : l[k]? = some i) : am_ex G (d + 2) K_Sp_offBy [.ref (x + 10), .int (Int32.ofNat k), .int (Int32.ofNat law)] (am_mk x true Z C L R D) = some (some (.long (Int64.ofNat (mO N c law i))), am_mk x true Z C L R D) := by
  have hin := hv i (List.mem_of_getElem? hk)
  have k1 := (List.getElem?_eq_some_iff.mp hk).1
  obtain ⟨-, -, s3, -, s5⟩ := hs.2 k i hk
  obtain ⟨-, n2, r1, a4, a5, a6, a7, a8, -⟩ := h.2.2.2.1 i hin
  have hsz := (h.2.2.1 _ a5.2.2).2.2.2.2.2.2.2.2.1.2.2.2
  have h1 := mT_le (s := N 37 (N 44 i)) (l := law) (e := mA N i c) hsz hlaw
  have h2 := mL_le (N := N) (i := i)
  have h3 := mA_lt h hin hc
  have b1 : k < 2147483648 := by omega
  have b2 : law < 2147483648 := by omega
  have b3 : ¬ 40 ≤ k := by omega
  have b4 : k < 40 := by omega
  have m1 := Nat.mul_le_mul (Nat.mul_le_mul_right 100 hsz) hlaw
  have b5 : N 37 (N 44 i) * 100 * law < 9223372036854775808 := by omega
  have b6 : mA N i c < 9223372036854775808 := by omega
  have eq := x_H_quotient (G := G) (d := d) (a := Int64.ofNat (N 37 (N 44 i) * 100 * law)) (b := Int64.ofNat (mA N i c)) (M := am_mk x true Z C L R D) (l6_ne0 (by omega) b6)
  rw [l6_div b5 b6] at eq
  have em : N 37 (N 44 i) * 100 * law / mA N i c = mT (N 37 (N 44 i)) law (mA N i c) := rfl
  rw [em] at eq
  have e := l6_abs (l6_sub2 (p := N 47 i) (q := mL N i) (r := mT (N 37 (N 44 i)) law (mA N i c)) (by omega) (by omega) (by omega)) (by omega) (by omega)
  have e2 : ((N 47 i : Int) - mL N i - mT (N 37 (N 44 i)) law (mA N i c)).natAbs = mO N c law i := by unfold mO; omega
  rw [e2] at e
  simp only [e_Sp_offBy, r_Sp_offBy_0, r_Sp_offBy_1, r_Sp_offBy_3, r_Sp_offBy_6, r_Sp_offBy_7, r_Sp_offBy_10, r_Sp_offBy_11, r_Sp_offBy_12, r_Sp_offBy_13, r_Sp_offBy_16, r_Sp_offBy_17, r_Sp_offBy_18, r_Sp_offBy_19, r_Sp_offBy_20, r_Sp_offBy_21, r_Sp_offBy_22, r_Sp_offBy_25, r_Sp_offBy_26, r_Sp_offBy_27, r_Sp_offBy_30, r_Sp_offBy_31, r_Sp_offBy_34, r_Sp_offBy_37, r_Sp_offBy_38, ly_g10_6, ly_n16, ly_r16, ly_w16, ly_g10_3, ly_n13, ly_r13, ly_w13, ly_g10_5, ly_n15, ly_r15, ly_w15, i3n_0, i3n_1, i3n_40, l6n_0, l6n_1, am_kf_s, am_km_s, am_kn_s, am_k_v, am_k_0, am_isr_r, am_isr_n, am_isr_v, am_sw_0, am_sw_i, am_sw_l, am_sw_r, am_sw_n, am_sw_v, am_ct_i, am_ct_r, am_ct_n, am_c1_o, am_c1_n, am_c1_i, am_c1_r, am_c1_v, am_mk_1, lc_lt, lc_gt, lc_eq, lc_le, lc_ge, i01_eq, i01_ok, ite_not, true_or, or_true, true_and, and_true, false_or, or_false, false_and, and_false, if_true, if_false, not_true_eq_false, not_false_eq_true, eq_self, Nat.reduceAdd, Nat.reduceLeDiff, Nat.reduceLT, Nat.reduceEqDiff, Nat.reduceMul, Nat.reduceSub, Nat.reduceDiv, Nat.reduceMod, reduceCtorEq, Nat.zero_le, i3_le, i3_lt, i3_eq, i3_eqN, i3_leN, i3_Nle, i3_ltN, i3_NleN, i3_NeqN, i3_Neq, i3_NltN, i3_Nlt, l6_le, l6_lt, l6_eq, l6_leN, l6_Nle, l6_ltN, l6_Nlt, l6_eqN, l6_Neq, b1, b2, b3, b4, s3, s5, ha k i hk, i3_long, l6_mul, eq, e, ↓reduceIte]
theorem l_Sp_sumUpTo (h : rl G N x Z C R D) {l : List Nat} (hs : sp_ok N Z C L R l) (hl : l.length ≤ 40) (hv : ∀ i, i ∈ l → i < N 31 27) {d c law m : Nat} (hc : c ≤ 999) (hlaw : law ≤ 999) (hm : m < 9223372036854775808) (ha : ∀ k' i, l[k']? = some i → L 15 k' = Int64.ofNat (mA N i c)) : ∀ (r k : Nat), l.length - k = r → k ≤ l.length → ∃ s, am_run G (d + 2) K_Sp_sumUpTo (6, [some (.ref (x + 10)), some (.int (Int32.ofNat law)), some (.long (Int64.ofNat m)), none, some (.long (Int64.ofNat (su N c law (l.take k)))), none, some (.int (Int32.ofNat k))], [], am_mk x true Z C L R D) = some (some (.long (Int64.ofNat s)), am_mk x true Z C L R D) ∧ s < 9223372036854775808 ∧ (su N c law l ≤ m → s = su N c law l) ∧ (m < su N c law l → m < s) := by
  have hsu := su_le h (c := c) hlaw hv
  have hsu2 : su N c law l < 1000000000000 := by omega
  intro r
  induction r with
  | zero =>
    intro k hr hk
    have e : k = l.length := by omega
    subst e
    have b1 : l.length < 2147483648 := by omega
    refine ⟨su N c law l, ?_, by omega, fun _ => rfl, fun q => q⟩
    rw [List.take_length, r_Sp_sumUpTo_6]
    simp only [r_Sp_sumUpTo_8, r_Sp_sumUpTo_9, r_Sp_sumUpTo_12, r_Sp_sumUpTo_15, r_Sp_sumUpTo_17, r_Sp_sumUpTo_18, r_Sp_sumUpTo_19, r_Sp_sumUpTo_22, r_Sp_sumUpTo_24, r_Sp_sumUpTo_25, r_Sp_sumUpTo_27, r_Sp_sumUpTo_28, r_Sp_sumUpTo_31, r_Sp_sumUpTo_32, r_Sp_sumUpTo_32_k, r_Sp_sumUpTo_34, r_Sp_sumUpTo_34_k, r_Sp_sumUpTo_37, r_Sp_sumUpTo_40, r_Sp_sumUpTo_42, ly_g10_0, ly_k10, i3n_0, i3n_1, l6n_0, l6n_1, am_kf_s, am_km_s, am_kn_s, am_k_v, am_k_0, am_isr_r, am_isr_n, am_isr_v, am_sw_0, am_sw_i, am_sw_l, am_sw_r, am_sw_n, am_sw_v, am_ct_i, am_ct_r, am_ct_n, am_c1_o, am_c1_n, am_c1_i, am_c1_r, am_c1_v, am_mk_1, lc_lt, lc_gt, lc_eq, lc_le, lc_ge, i01_eq, i01_ok, ite_not, true_or, or_true, true_and, and_true, false_or, or_false, false_and, and_false, if_true, if_false, not_true_eq_false, not_false_eq_true, eq_self, Nat.reduceAdd, Nat.reduceLeDiff, Nat.reduceLT, Nat.reduceEqDiff, Nat.reduceMul, Nat.reduceSub, Nat.reduceDiv, Nat.reduceMod, reduceCtorEq, Nat.zero_le, i3_le, i3_lt, i3_eq, i3_eqN, i3_leN, i3_Nle, i3_ltN, i3_NleN, i3_NeqN, i3_Neq, i3_NltN, i3_Nlt, l6_le, l6_lt, l6_eq, l6_leN, l6_Nle, l6_ltN, l6_Nlt, l6_eqN, l6_Neq, hs.1, b1, Nat.le_refl, ↓reduceIte]
  | succ r ih =>
    intro k hr hk
    have hkl : k < l.length := by omega
    obtain ⟨i, hi⟩ : ∃ i, l[k]? = some i := ⟨l[k], List.getElem?_eq_getElem hkl⟩
    have b1 : l.length < 2147483648 := by omega
    have b2 : k < 2147483648 := by omega
    have b3 : ¬ l.length ≤ k := by omega
    have hle := su_take_le (N := N) (c := c) (l := law) (k := k) (a := l)
    have b4 : su N c law (l.take k) < 9223372036854775808 := by omega
    by_cases hgt : m < su N c law (l.take k)
    · refine ⟨su N c law (l.take k), ?_, b4, fun q => by omega, fun _ => hgt⟩
      rw [r_Sp_sumUpTo_6]
      simp only [r_Sp_sumUpTo_8, r_Sp_sumUpTo_9, r_Sp_sumUpTo_12, r_Sp_sumUpTo_15, r_Sp_sumUpTo_17, r_Sp_sumUpTo_18, r_Sp_sumUpTo_19, r_Sp_sumUpTo_22, r_Sp_sumUpTo_24, r_Sp_sumUpTo_25, r_Sp_sumUpTo_27, r_Sp_sumUpTo_28, r_Sp_sumUpTo_31, r_Sp_sumUpTo_32, r_Sp_sumUpTo_32_k, r_Sp_sumUpTo_34, r_Sp_sumUpTo_34_k, r_Sp_sumUpTo_37, r_Sp_sumUpTo_40, r_Sp_sumUpTo_42, ly_g10_0, ly_k10, i3n_0, i3n_1, l6n_0, l6n_1, am_kf_s, am_km_s, am_kn_s, am_k_v, am_k_0, am_isr_r, am_isr_n, am_isr_v, am_sw_0, am_sw_i, am_sw_l, am_sw_r, am_sw_n, am_sw_v, am_ct_i, am_ct_r, am_ct_n, am_c1_o, am_c1_n, am_c1_i, am_c1_r, am_c1_v, am_mk_1, lc_lt, lc_gt, lc_eq, lc_le, lc_ge, i01_eq, i01_ok, ite_not, true_or, or_true, true_and, and_true, false_or, or_false, false_and, and_false, if_true, if_false, not_true_eq_false, not_false_eq_true, eq_self, Nat.reduceAdd, Nat.reduceLeDiff, Nat.reduceLT, Nat.reduceEqDiff, Nat.reduceMul, Nat.reduceSub, Nat.reduceDiv, Nat.reduceMod, reduceCtorEq, Nat.zero_le, i3_le, i3_lt, i3_eq, i3_eqN, i3_leN, i3_Nle, i3_ltN, i3_NleN, i3_NeqN, i3_Neq, i3_NltN, i3_Nlt, l6_le, l6_lt, l6_eq, l6_leN, l6_Nle, l6_ltN, l6_Nlt, l6_eqN, l6_Neq, hs.1, b1, b2, b3, b4, hm, hgt, ↓reduceIte]
    · obtain ⟨s, w1, w2⟩ := ih (k + 1) (by omega) (by omega)
      refine ⟨s, ?_, w2⟩
      have e1 := x_Sp_offBy h hs hl hv (d := d) hc hlaw ha hi
      rw [su_take hi] at w1
      rw [← w1, r_Sp_sumUpTo_6]
      simp only [r_Sp_sumUpTo_8, r_Sp_sumUpTo_9, r_Sp_sumUpTo_12, r_Sp_sumUpTo_15, r_Sp_sumUpTo_17, r_Sp_sumUpTo_18, r_Sp_sumUpTo_19, r_Sp_sumUpTo_22, r_Sp_sumUpTo_24, r_Sp_sumUpTo_25, r_Sp_sumUpTo_27, r_Sp_sumUpTo_28, r_Sp_sumUpTo_31, r_Sp_sumUpTo_32, r_Sp_sumUpTo_32_k, r_Sp_sumUpTo_34, r_Sp_sumUpTo_34_k, r_Sp_sumUpTo_37, ly_g10_0, ly_k10, i3n_0, i3n_1, l6n_0, l6n_1, am_kf_s, am_km_s, am_kn_s, am_k_v, am_k_0, am_isr_r, am_isr_n, am_isr_v, am_sw_0, am_sw_i, am_sw_l, am_sw_r, am_sw_n, am_sw_v, am_ct_i, am_ct_r, am_ct_n, am_c1_o, am_c1_n, am_c1_i, am_c1_r, am_c1_v, am_mk_1, lc_lt, lc_gt, lc_eq, lc_le, lc_ge, i01_eq, i01_ok, ite_not, true_or, or_true, true_and, and_true, false_or, or_false, false_and, and_false, if_true, if_false, not_true_eq_false, not_false_eq_true, eq_self, Nat.reduceAdd, Nat.reduceLeDiff, Nat.reduceLT, Nat.reduceEqDiff, Nat.reduceMul, Nat.reduceSub, Nat.reduceDiv, Nat.reduceMod, reduceCtorEq, Nat.zero_le, i3_le, i3_lt, i3_eq, i3_eqN, i3_leN, i3_Nle, i3_ltN, i3_NleN, i3_NeqN, i3_Neq, i3_NltN, i3_Nlt, l6_le, l6_lt, l6_eq, l6_leN, l6_Nle, l6_ltN, l6_Nlt, l6_eqN, l6_Neq, hs.1, b1, b2, b3, b4, hm, hgt, e1, l6_add, i3_add, ↓reduceIte]
theorem x_Sp_sumUpTo (h : rl G N x Z C R D) {l : List Nat} (hs : sp_ok N Z C L R l) (hl : l.length ≤ 40) (hv : ∀ i, i ∈ l → i < N 31 27) {d c law m : Nat} (hc : c ≤ 999) (hlaw : law ≤ 999) (hm : m < 9223372036854775808) (ha : ∀ k' i, l[k']? = some i → L 15 k' = Int64.ofNat (mA N i c)) : ∃ s, am_ex G (d + 3) K_Sp_sumUpTo [.ref (x + 10), .int (Int32.ofNat law), .long (Int64.ofNat m)] (am_mk x true Z C L R D) = some (some (.long (Int64.ofNat s)), am_mk x true Z C L R D) ∧ s < 9223372036854775808 ∧ (su N c law l ≤ m → s = su N c law l) ∧ (m < su N c law l → m < s) := by
  obtain ⟨s, w1, w2⟩ := l_Sp_sumUpTo h hs hl hv (d := d) hc hlaw hm ha l.length 0 rfl (Nat.zero_le _)
  refine ⟨s, ?_, w2⟩
  rw [← w1]
  simp only [e_Sp_sumUpTo, r_Sp_sumUpTo_0, r_Sp_sumUpTo_1, r_Sp_sumUpTo_1_k, r_Sp_sumUpTo_3, r_Sp_sumUpTo_4, r_Sp_sumUpTo_4_k, r_Sp_sumUpTo_8, r_Sp_sumUpTo_9, r_Sp_sumUpTo_12, r_Sp_sumUpTo_15, r_Sp_sumUpTo_17, r_Sp_sumUpTo_18, r_Sp_sumUpTo_19, r_Sp_sumUpTo_22, r_Sp_sumUpTo_24, r_Sp_sumUpTo_25, r_Sp_sumUpTo_27, r_Sp_sumUpTo_28, r_Sp_sumUpTo_31, r_Sp_sumUpTo_32, r_Sp_sumUpTo_32_k, r_Sp_sumUpTo_34, r_Sp_sumUpTo_34_k, r_Sp_sumUpTo_37, r_Sp_sumUpTo_40, r_Sp_sumUpTo_42, ly_g10_0, ly_k10, i3n_0, i3n_1, l6n_0, l6n_1, am_kf_s, am_km_s, am_kn_s, am_k_v, am_k_0, am_isr_r, am_isr_n, am_isr_v, am_sw_0, am_sw_i, am_sw_l, am_sw_r, am_sw_n, am_sw_v, am_ct_i, am_ct_r, am_ct_n, am_c1_o, am_c1_n, am_c1_i, am_c1_r, am_c1_v, am_mk_1, lc_lt, lc_gt, lc_eq, lc_le, lc_ge, i01_eq, i01_ok, ite_not, true_or, or_true, true_and, and_true, false_or, or_false, false_and, and_false, if_true, if_false, not_true_eq_false, not_false_eq_true, eq_self, Nat.reduceAdd, Nat.reduceLeDiff, Nat.reduceLT, Nat.reduceEqDiff, Nat.reduceMul, Nat.reduceSub, Nat.reduceDiv, Nat.reduceMod, reduceCtorEq, Nat.zero_le, i3_le, i3_lt, i3_eq, i3_eqN, i3_leN, i3_Nle, i3_ltN, i3_NleN, i3_NeqN, i3_Neq, i3_NltN, i3_Nlt, l6_le, l6_lt, l6_eq, l6_leN, l6_Nle, l6_ltN, l6_Nlt, l6_eqN, l6_Neq, List.take_zero, su, ↓reduceIte]
theorem x_Sp_sumUpTo_n {l : List Nat} (hs : sp_ok N Z C L R l) (hl : l.length ≤ 40) {d law : Nat} : am_ex G (d + 3) K_Sp_sumUpTo [.ref (x + 10), .int (Int32.ofNat law), .long (-Int64.ofNat 1)] (am_mk x true Z C L R D) = some (some (.long (Int64.ofNat 0)), am_mk x true Z C L R D) := by
  have b1 : l.length < 2147483648 := by omega
  by_cases h0 : l.length ≤ 0
  · simp only [e_Sp_sumUpTo, r_Sp_sumUpTo_0, r_Sp_sumUpTo_1, r_Sp_sumUpTo_1_k, r_Sp_sumUpTo_3, r_Sp_sumUpTo_4, r_Sp_sumUpTo_4_k, r_Sp_sumUpTo_8, r_Sp_sumUpTo_9, r_Sp_sumUpTo_12, r_Sp_sumUpTo_15, r_Sp_sumUpTo_17, r_Sp_sumUpTo_18, r_Sp_sumUpTo_19, r_Sp_sumUpTo_22, r_Sp_sumUpTo_24, r_Sp_sumUpTo_25, r_Sp_sumUpTo_27, r_Sp_sumUpTo_28, r_Sp_sumUpTo_31, r_Sp_sumUpTo_32, r_Sp_sumUpTo_32_k, r_Sp_sumUpTo_34, r_Sp_sumUpTo_34_k, r_Sp_sumUpTo_37, r_Sp_sumUpTo_40, r_Sp_sumUpTo_42, ly_g10_0, ly_k10, i3n_0, i3n_1, l6n_0, l6n_1, r_Sp_sumUpTo_6, am_kf_s, am_km_s, am_kn_s, am_k_v, am_k_0, am_isr_r, am_isr_n, am_isr_v, am_sw_0, am_sw_i, am_sw_l, am_sw_r, am_sw_n, am_sw_v, am_ct_i, am_ct_r, am_ct_n, am_c1_o, am_c1_n, am_c1_i, am_c1_r, am_c1_v, am_mk_1, lc_lt, lc_gt, lc_eq, lc_le, lc_ge, i01_eq, i01_ok, ite_not, true_or, or_true, true_and, and_true, false_or, or_false, false_and, and_false, if_true, if_false, not_true_eq_false, not_false_eq_true, eq_self, Nat.reduceAdd, Nat.reduceLeDiff, Nat.reduceLT, Nat.reduceEqDiff, Nat.reduceMul, Nat.reduceSub, Nat.reduceDiv, Nat.reduceMod, reduceCtorEq, Nat.zero_le, i3_le, i3_lt, i3_eq, i3_eqN, i3_leN, i3_Nle, i3_ltN, i3_NleN, i3_NeqN, i3_Neq, i3_NltN, i3_Nlt, l6_le, l6_lt, l6_eq, l6_leN, l6_Nle, l6_ltN, l6_Nlt, l6_eqN, l6_Neq, hs.1, b1, h0, ↓reduceIte]
  · simp only [e_Sp_sumUpTo, r_Sp_sumUpTo_0, r_Sp_sumUpTo_1, r_Sp_sumUpTo_1_k, r_Sp_sumUpTo_3, r_Sp_sumUpTo_4, r_Sp_sumUpTo_4_k, r_Sp_sumUpTo_8, r_Sp_sumUpTo_9, r_Sp_sumUpTo_12, r_Sp_sumUpTo_15, r_Sp_sumUpTo_17, r_Sp_sumUpTo_18, r_Sp_sumUpTo_19, r_Sp_sumUpTo_22, r_Sp_sumUpTo_24, r_Sp_sumUpTo_25, r_Sp_sumUpTo_27, r_Sp_sumUpTo_28, r_Sp_sumUpTo_31, r_Sp_sumUpTo_32, r_Sp_sumUpTo_32_k, r_Sp_sumUpTo_34, r_Sp_sumUpTo_34_k, r_Sp_sumUpTo_37, r_Sp_sumUpTo_40, r_Sp_sumUpTo_42, ly_g10_0, ly_k10, i3n_0, i3n_1, l6n_0, l6n_1, r_Sp_sumUpTo_6, am_kf_s, am_km_s, am_kn_s, am_k_v, am_k_0, am_isr_r, am_isr_n, am_isr_v, am_sw_0, am_sw_i, am_sw_l, am_sw_r, am_sw_n, am_sw_v, am_ct_i, am_ct_r, am_ct_n, am_c1_o, am_c1_n, am_c1_i, am_c1_r, am_c1_v, am_mk_1, lc_lt, lc_gt, lc_eq, lc_le, lc_ge, i01_eq, i01_ok, ite_not, true_or, or_true, true_and, and_true, false_or, or_false, false_and, and_false, if_true, if_false, not_true_eq_false, not_false_eq_true, eq_self, Nat.reduceAdd, Nat.reduceLeDiff, Nat.reduceLT, Nat.reduceEqDiff, Nat.reduceMul, Nat.reduceSub, Nat.reduceDiv, Nat.reduceMod, reduceCtorEq, Nat.zero_le, i3_le, i3_lt, i3_eq, i3_eqN, i3_leN, i3_Nle, i3_ltN, i3_NleN, i3_NeqN, i3_Neq, i3_NltN, i3_Nlt, l6_le, l6_lt, l6_eq, l6_leN, l6_Nle, l6_ltN, l6_Nlt, l6_eqN, l6_Neq, hs.1, b1, h0, ↓reduceIte]
end
