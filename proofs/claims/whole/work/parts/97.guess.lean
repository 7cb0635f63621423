/-! wrong: a number that is looked for by halving -/
def ab (p q : Nat) : Nat := (p - q) + (q - p)
theorem pl_D {p q : Nat} (hp : p < 1000000000000000) (hq : q < 1000000000000000) : pl (Int64.ofNat p - Int64.ofNat q) = Int64.ofNat (ab p q) := by
  have e : (Int64.ofNat p - Int64.ofNat q).toInt = (p : Int) - q := by
    rw [Int64.toInt_sub, Int64.toInt_ofNat_of_lt (by omega), Int64.toInt_ofNat_of_lt (by omega)]
    simp only [Int.bmod_def]
    omega
  unfold pl
  rw [l6_plain e (by omega) (by omega)]
  congr 1
  unfold ab
  omega
section
variable {G : Nat → Value} {x : Nat} {N : Nat → Nat → Nat} {Z : ly_Z} {C : Nat → Nat → Int32} {L : Nat → Nat → Int64} {R : Nat → Nat → Option Nat} {D : am_M}
/-- a new cell of a kind that the relation doesn't look at -/
theorem rl_new (h : rl G N x Z C R D) {t : Nat} (ht : 11000 ≤ t) {C' : Nat → Nat → Int32} {R' : Nat → Nat → Option Nat} (hC : ∀ k j, ¬ k = t → C' k j = C k j) (hR : ∀ k j, ¬ k = t → R' k j = R k j) : rl G N x (ly_new Z D.1 t) C' R' (ly_fz x Z C L R D t) := by
  have hz := h.2.2.2.2.2.2.2.2.1
  have hF := ly_fr_new (t := t) (C := C) (L := L) (R := R) (f := fun _ => Int32.ofNat 0) (g := fun _ => Int64.ofNat 0) (r := fun _ => none) hz
  have hZ1 := tp_Z_new (t := t) (C := C) (L := L) (R := R) hz
  have c2 : ∀ k j, ¬ k = t → C' k j = C k j := hC
  have rr : ∀ k j, ¬ k = t → R' k j = R k j := hR
  have zt : ∀ lo hi : Nat, t < lo ∨ hi ≤ t → rl_zt x Z (ly_new Z D.1 t) lo hi := fun lo hi hh => rl_zt_fr hz hF (fun t q1 q2 => by omega)
  obtain ⟨hs, hst, hha, hni, hte, htp, him, hsh, -, hS, h58, hu⟩ := h
  refine ⟨?_, ?_, ?_, ?_, ?_, ?_, ?_, ?_, hZ1, tp_S_fr hS hF hZ1, ?_, rl_u_fr hu hF.2.2.2⟩
  · exact by
          obtain ⟨q1, q2, q3, q4, q5, q6, q7, q8, q9, q10⟩ := hs
          exact ⟨by rw [c2 0 5 (by omega), c2 31 13 (by omega)]; exact q1, by rw [c2 0 6 (by omega), c2 31 17 (by omega)]; exact q2, by rw [c2 0 7 (by omega), c2 31 27 (by omega)]; exact q3, by rw [c2 0 8 (by omega), c2 31 3 (by omega)]; exact q4, by rw [c2 0 10 (by omega), c2 31 4 (by omega)]; exact q5, by rw [c2 7 1 (by omega), c2 31 6 (by omega)]; exact q6, by rw [c2 6 0 (by omega), c2 31 7 (by omega)]; exact q7, by rw [c2 6 1 (by omega), c2 31 8 (by omega)]; exact q8, by rw [c2 6 2 (by omega), c2 31 9 (by omega)]; exact q9, by rw [c2 6 3 (by omega), c2 31 10 (by omega)]; exact q10⟩
  · exact rl_st_fr hst hs.1.2.2 (rfl) (fun j => ⟨rfl, rfl⟩) (fun j => ⟨c2 _ _ (by omega), c2 _ _ (by omega)⟩) (fun k j q1 q2 => c2 _ _ (by omega)) (fun j => rr _ _ (by omega)) (zt _ _ (by omega))
  · exact rl_ha_fr hha hs.2.1.2.2 (rfl) (Nat.le_refl _) (fun k j q1 q2 => rfl) (fun k j q1 q2 => c2 _ _ (by omega)) (fun k j q1 q2 q3 => c2 _ _ (by omega)) (fun j => rr _ _ (by omega)) (fun k j q1 q2 => rr _ _ (by omega)) (zt _ _ (by omega))
  · exact rl_ni_fr hni hs.2.2.1.2.2 hs.2.1.2.2 (rfl) (Nat.le_refl _) (fun k j q1 q2 => rfl) (fun k j q1 q2 => c2 _ _ (by omega)) (fun k j q1 q2 => c2 _ _ (by omega)) (fun j => rr _ _ (by omega)) (fun k j q1 q2 => rr _ _ (by omega)) (zt _ _ (by omega)) (fun t ht => (zt 2000 6000 (by omega) _ (by omega) (by have := hs.2.1.2.2; omega)).1)
  · exact rl_te_fr hte hs.2.2.2.1.2.2 (rfl) (fun j => ⟨rfl, rfl⟩) (fun j => ⟨c2 _ _ (by omega), c2 _ _ (by omega)⟩) (fun k j q1 q2 => c2 _ _ (by omega)) (fun j => rr _ _ (by omega)) (fun k j q1 q2 => rr _ _ (by omega)) (zt _ _ (by omega))
  · exact rl_tp_fr htp (rfl) (fun j => rfl) (fun j => ⟨c2 _ _ (by omega), c2 _ _ (by omega)⟩)
  · exact rl_im_fr him hs.2.1.2.2 (fun j q1 q2 => rfl) (fun j => rfl) (fun i q => (Nat.le_refl _)) (fun i k q1 q2 => rfl) (Nat.le_refl _) (Nat.le_refl _) (Nat.le_refl _) (Nat.le_refl _) (fun j q1 q2 => c2 _ _ (by omega)) (fun j q1 q2 => c2 _ _ (by omega)) (fun j => ⟨c2 _ _ (by omega), c2 _ _ (by omega)⟩) (fun i q => by have := hs.2.1.2.2; exact c2 _ _ (by omega)) (fun i j q => by have := hs.2.1.2.2; exact c2 _ _ (by omega))
  · exact rl_sh_fr hsh (fun k j q1 q2 => c2 _ _ (by omega)) (fun k j q1 q2 => c2 _ _ (by omega)) (fun j => rr _ _ (by omega))
  · show x + 58 ≤ D.1 + 1
    omega
/-- a Guess -/
def gu_ok (C : Nat → Nat → Int32) (L : Nat → Nat → Int64) (t lo hi top rise bot sink : Nat) : Prop := C t 0 = Int32.ofNat lo ∧ C t 1 = Int32.ofNat hi ∧ L t 2 = Int64.ofNat top ∧ L t 3 = Int64.ofNat rise ∧ L t 4 = Int64.ofNat bot ∧ L t 5 = Int64.ofNat sink ∧ lo ≤ 1 ∧ hi ≤ 99999 ∧ lo ≤ hi ∧ top ≤ 10000000000 ∧ rise ≤ 10000000 ∧ 0 < bot ∧ bot ≤ 10000000 ∧ sink ≤ 999 ∧ (sink = 0 ∨ rise = 0)
def gT (top rise bot sink v : Nat) : Nat := (top + rise * v) / (bot + sink * v)
def gR (top rise bot sink v tm : Nat) : Bool := if 0 < sink then decide (gT top rise bot sink v ≤ tm) else decide (tm ≤ gT top rise bot sink v)
variable {t lo hi top rise bot sink : Nat}
theorem gT_mono {v w : Nat} (h : v ≤ w) : gT top rise bot 0 v ≤ gT top rise bot 0 w := by
  unfold gT
  rw [Nat.zero_mul, Nat.zero_mul]
  exact Nat.div_le_div_right (Nat.add_le_add_left (Nat.mul_le_mul_left _ h) _)
theorem gT_anti {v w : Nat} (h : v ≤ w) (hb : 0 < bot) : gT top 0 bot sink w ≤ gT top 0 bot sink v := by
  unfold gT
  rw [Nat.zero_mul, Nat.zero_mul]
  exact Nat.div_le_div_left (Nat.add_le_add_left (Nat.mul_le_mul_left _ h) _) (by omega)
theorem gT_le (hg : gu_ok C L t lo hi top rise bot sink) {v : Nat} (hv : v ≤ 100000) : gT top rise bot sink v ≤ 2000000000000 := by
  obtain ⟨-, -, -, -, -, -, -, -, -, q4, q5, -⟩ := hg
  have m := Nat.mul_le_mul q5 hv
  exact Nat.le_trans (Nat.div_le_self _ _) (by omega)
theorem gR_mono (hg : gu_ok C L t lo hi top rise bot sink) {v w tm : Nat} (h : v ≤ w) (hR : gR top rise bot sink v tm = true) : gR top rise bot sink w tm = true := by
  obtain ⟨-, -, -, -, -, -, -, -, -, -, -, q6, -, -, q8⟩ := hg
  unfold gR at hR ⊢
  by_cases hs : 0 < sink
  · rw [if_pos hs] at hR ⊢
    have : rise = 0 := by omega
    subst this
    have := gT_anti (top := top) (sink := sink) h q6
    have := of_decide_eq_true hR
    exact decide_eq_true (by omega)
  · rw [if_neg hs] at hR ⊢
    have : sink = 0 := by omega
    subst this
    have := gT_mono (top := top) (rise := rise) (bot := bot) h
    have := of_decide_eq_true hR
    exact decide_eq_true (by omega)
theorem x_Gu_timeBy {d q v : Nat} (hi' : ly_is x true Z q t 12) (hg : gu_ok C L t lo hi top rise bot sink) (hv : v ≤ 100000) : am_ex G (d + 2) K_Gu_timeBy [.ref q, .int (Int32.ofNat v)] (am_mk x true Z C L R D) = some (some (.long (Int64.ofNat (gT top rise bot sink v))), am_mk x true Z C L R D) := by
  obtain ⟨-, -, g2, g3, g4, g5, -, -, -, q4, q5, q6, q6', q7, -⟩ := hg
  have m := Nat.mul_le_mul q5 hv
  have m2 := Nat.mul_le_mul q7 hv
  have b1 : v < 2147483648 := by omega
  have eq := x_H_quotient (G := G) (d := d) (a := Int64.ofNat (top + rise * v)) (b := Int64.ofNat (bot + sink * v)) (M := am_mk x true Z C L R D) (l6_ne0 (by omega) (by omega))
  rw [l6_div (by omega) (by omega)] at eq
  have e : (top + rise * v) / (bot + sink * v) = gT top rise bot sink v := rfl
  rw [e] at eq
  simp only [e_Gu_timeBy, r_Gu_timeBy_0, r_Gu_timeBy_1, r_Gu_timeBy_4, r_Gu_timeBy_5, r_Gu_timeBy_8, r_Gu_timeBy_9, r_Gu_timeBy_10, r_Gu_timeBy_11, r_Gu_timeBy_12, r_Gu_timeBy_13, r_Gu_timeBy_16, r_Gu_timeBy_17, r_Gu_timeBy_20, r_Gu_timeBy_21, r_Gu_timeBy_22, r_Gu_timeBy_23, r_Gu_timeBy_24, r_Gu_timeBy_27, i3n_0, i3n_1, l6n_0, l6n_1, am_kf_s, am_km_s, am_kn_s, am_k_v, am_k_0, am_isr_r, am_isr_n, am_isr_v, am_sw_0, am_sw_i, am_sw_l, am_sw_r, am_sw_n, am_sw_v, am_ct_i, am_ct_r, am_ct_n, am_c1_o, am_c1_n, am_c1_i, am_c1_r, am_c1_v, am_mk_1, lc_lt, lc_gt, lc_eq, lc_le, lc_ge, i01_eq, i01_ok, ite_not, true_or, or_true, true_and, and_true, false_or, or_false, false_and, and_false, if_true, if_false, not_true_eq_false, not_false_eq_true, eq_self, Nat.reduceAdd, Nat.reduceLeDiff, Nat.reduceLT, Nat.reduceEqDiff, Nat.reduceMul, Nat.reduceSub, Nat.reduceDiv, Nat.reduceMod, reduceCtorEq, Nat.zero_le, i3_le, i3_lt, i3_eq, i3_eqN, i3_leN, i3_Nle, i3_ltN, i3_NleN, i3_NeqN, i3_Neq, i3_NltN, i3_Nlt, l6_le, l6_lt, l6_eq, l6_leN, l6_Nle, l6_ltN, l6_Nlt, l6_eqN, l6_Neq, ly_dg12_2 hi', ly_dg12_3 hi', ly_dg12_4 hi', ly_dg12_5 hi', g2, g3, g4, g5, b1, i3_long, l6_mul, l6_add, eq, ↓reduceIte]
theorem x_Gu_reaches {d q v tm : Nat} (hi' : ly_is x true Z q t 12) (hg : gu_ok C L t lo hi top rise bot sink) (hv : v ≤ 100000) (htm : tm < 9223372036854775808) : am_ex G (d + 3) K_Gu_reaches [.ref q, .int (Int32.ofNat v), .long (Int64.ofNat tm)] (am_mk x true Z C L R D) = some (some (.int (Int32.ofNat (ib (gR top rise bot sink v tm)))), am_mk x true Z C L R D) := by
  have e1 := x_Gu_timeBy (G := G) (x := x) (R := R) (D := D) (d := d) hi' hg hv
  have k1 := ly_dk12 (C := C) (L := L) (R := R) (D := D) hi'
  have hT := gT_le hg hv
  have b1 : gT top rise bot sink v < 9223372036854775808 := by omega
  have g5 := hg.2.2.2.2.2.1
  have b2 : sink < 9223372036854775808 := by have := hg.2.2.2.2.2.2.2.2.2.2.2.2.2.1; omega
  unfold gR
  generalize gT top rise bot sink v = T at *
  by_cases hs : 0 < sink
  · have hs2 : ¬ sink ≤ 0 := by omega
    rw [if_pos hs]
    by_cases h : T ≤ tm
    · have h2 : ¬ tm < T := by omega
      rw [decide_eq_true h]
      simp only [e_Gu_reaches, r_Gu_reaches_0, r_Gu_reaches_1, r_Gu_reaches_4, r_Gu_reaches_5, r_Gu_reaches_6, r_Gu_reaches_9, r_Gu_reaches_10, r_Gu_reaches_11, r_Gu_reaches_14, r_Gu_reaches_15, r_Gu_reaches_16, r_Gu_reaches_19, r_Gu_reaches_20, r_Gu_reaches_23, r_Gu_reaches_24, r_Gu_reaches_27, r_Gu_reaches_28, r_Gu_reaches_29, r_Gu_reaches_32, r_Gu_reaches_33, r_Gu_reaches_34, r_Gu_reaches_37, r_Gu_reaches_38, r_Gu_reaches_41, r_Gu_reaches_42, i3n_0, i3n_1, l6n_0, l6n_1, am_kf_s, am_km_s, am_kn_s, am_k_v, am_k_0, am_isr_r, am_isr_n, am_isr_v, am_sw_0, am_sw_i, am_sw_l, am_sw_r, am_sw_n, am_sw_v, am_ct_i, am_ct_r, am_ct_n, am_c1_o, am_c1_n, am_c1_i, am_c1_r, am_c1_v, am_mk_1, lc_lt, lc_gt, lc_eq, lc_le, lc_ge, i01_eq, i01_ok, ite_not, true_or, or_true, true_and, and_true, false_or, or_false, false_and, and_false, if_true, if_false, not_true_eq_false, not_false_eq_true, eq_self, Nat.reduceAdd, Nat.reduceLeDiff, Nat.reduceLT, Nat.reduceEqDiff, Nat.reduceMul, Nat.reduceSub, Nat.reduceDiv, Nat.reduceMod, reduceCtorEq, Nat.zero_le, i3_le, i3_lt, i3_eq, i3_eqN, i3_leN, i3_Nle, i3_ltN, i3_NleN, i3_NeqN, i3_Neq, i3_NltN, i3_Nlt, l6_le, l6_lt, l6_eq, l6_leN, l6_Nle, l6_ltN, l6_Nlt, l6_eqN, l6_Neq, ly_dg12_5 hi', g5, b1, b2, htm, hs, hs2, h, h2, k1, e1, ib, ↓reduceIte]
    · have h2 : tm < T := by omega
      rw [decide_eq_false h]
      simp only [e_Gu_reaches, r_Gu_reaches_0, r_Gu_reaches_1, r_Gu_reaches_4, r_Gu_reaches_5, r_Gu_reaches_6, r_Gu_reaches_9, r_Gu_reaches_10, r_Gu_reaches_11, r_Gu_reaches_14, r_Gu_reaches_15, r_Gu_reaches_16, r_Gu_reaches_19, r_Gu_reaches_20, r_Gu_reaches_23, r_Gu_reaches_24, r_Gu_reaches_27, r_Gu_reaches_28, r_Gu_reaches_29, r_Gu_reaches_32, r_Gu_reaches_33, r_Gu_reaches_34, r_Gu_reaches_37, r_Gu_reaches_38, r_Gu_reaches_41, r_Gu_reaches_42, i3n_0, i3n_1, l6n_0, l6n_1, am_kf_s, am_km_s, am_kn_s, am_k_v, am_k_0, am_isr_r, am_isr_n, am_isr_v, am_sw_0, am_sw_i, am_sw_l, am_sw_r, am_sw_n, am_sw_v, am_ct_i, am_ct_r, am_ct_n, am_c1_o, am_c1_n, am_c1_i, am_c1_r, am_c1_v, am_mk_1, lc_lt, lc_gt, lc_eq, lc_le, lc_ge, i01_eq, i01_ok, ite_not, true_or, or_true, true_and, and_true, false_or, or_false, false_and, and_false, if_true, if_false, not_true_eq_false, not_false_eq_true, eq_self, Nat.reduceAdd, Nat.reduceLeDiff, Nat.reduceLT, Nat.reduceEqDiff, Nat.reduceMul, Nat.reduceSub, Nat.reduceDiv, Nat.reduceMod, reduceCtorEq, Nat.zero_le, i3_le, i3_lt, i3_eq, i3_eqN, i3_leN, i3_Nle, i3_ltN, i3_NleN, i3_NeqN, i3_Neq, i3_NltN, i3_Nlt, l6_le, l6_lt, l6_eq, l6_leN, l6_Nle, l6_ltN, l6_Nlt, l6_eqN, l6_Neq, ly_dg12_5 hi', g5, b1, b2, htm, hs, hs2, h, h2, k1, e1, ib, Bool.false_eq_true, ↓reduceIte]
  · have hs2 : sink ≤ 0 := by omega
    rw [if_neg hs]
    by_cases h : tm ≤ T
    · have h2 : ¬ T < tm := by omega
      rw [decide_eq_true h]
      simp only [e_Gu_reaches, r_Gu_reaches_0, r_Gu_reaches_1, r_Gu_reaches_4, r_Gu_reaches_5, r_Gu_reaches_6, r_Gu_reaches_9, r_Gu_reaches_10, r_Gu_reaches_11, r_Gu_reaches_14, r_Gu_reaches_15, r_Gu_reaches_16, r_Gu_reaches_19, r_Gu_reaches_20, r_Gu_reaches_23, r_Gu_reaches_24, r_Gu_reaches_27, r_Gu_reaches_28, r_Gu_reaches_29, r_Gu_reaches_32, r_Gu_reaches_33, r_Gu_reaches_34, r_Gu_reaches_37, r_Gu_reaches_38, r_Gu_reaches_41, r_Gu_reaches_42, i3n_0, i3n_1, l6n_0, l6n_1, am_kf_s, am_km_s, am_kn_s, am_k_v, am_k_0, am_isr_r, am_isr_n, am_isr_v, am_sw_0, am_sw_i, am_sw_l, am_sw_r, am_sw_n, am_sw_v, am_ct_i, am_ct_r, am_ct_n, am_c1_o, am_c1_n, am_c1_i, am_c1_r, am_c1_v, am_mk_1, lc_lt, lc_gt, lc_eq, lc_le, lc_ge, i01_eq, i01_ok, ite_not, true_or, or_true, true_and, and_true, false_or, or_false, false_and, and_false, if_true, if_false, not_true_eq_false, not_false_eq_true, eq_self, Nat.reduceAdd, Nat.reduceLeDiff, Nat.reduceLT, Nat.reduceEqDiff, Nat.reduceMul, Nat.reduceSub, Nat.reduceDiv, Nat.reduceMod, reduceCtorEq, Nat.zero_le, i3_le, i3_lt, i3_eq, i3_eqN, i3_leN, i3_Nle, i3_ltN, i3_NleN, i3_NeqN, i3_Neq, i3_NltN, i3_Nlt, l6_le, l6_lt, l6_eq, l6_leN, l6_Nle, l6_ltN, l6_Nlt, l6_eqN, l6_Neq, ly_dg12_5 hi', g5, b1, b2, htm, hs, hs2, h, h2, k1, e1, ib, ↓reduceIte]
    · have h2 : T < tm := by omega
      rw [decide_eq_false h]
      simp only [e_Gu_reaches, r_Gu_reaches_0, r_Gu_reaches_1, r_Gu_reaches_4, r_Gu_reaches_5, r_Gu_reaches_6, r_Gu_reaches_9, r_Gu_reaches_10, r_Gu_reaches_11, r_Gu_reaches_14, r_Gu_reaches_15, r_Gu_reaches_16, r_Gu_reaches_19, r_Gu_reaches_20, r_Gu_reaches_23, r_Gu_reaches_24, r_Gu_reaches_27, r_Gu_reaches_28, r_Gu_reaches_29, r_Gu_reaches_32, r_Gu_reaches_33, r_Gu_reaches_34, r_Gu_reaches_37, r_Gu_reaches_38, r_Gu_reaches_41, r_Gu_reaches_42, i3n_0, i3n_1, l6n_0, l6n_1, am_kf_s, am_km_s, am_kn_s, am_k_v, am_k_0, am_isr_r, am_isr_n, am_isr_v, am_sw_0, am_sw_i, am_sw_l, am_sw_r, am_sw_n, am_sw_v, am_ct_i, am_ct_r, am_ct_n, am_c1_o, am_c1_n, am_c1_i, am_c1_r, am_c1_v, am_mk_1, lc_lt, lc_gt, lc_eq, lc_le, lc_ge, i01_eq, i01_ok, ite_not, true_or, or_true, true_and, and_true, false_or, or_false, false_and, and_false, if_true, if_false, not_true_eq_false, not_false_eq_true, eq_self, Nat.reduceAdd, Nat.reduceLeDiff, Nat.reduceLT, Nat.reduceEqDiff, Nat.reduceMul, Nat.reduceSub, Nat.reduceDiv, Nat.reduceMod, reduceCtorEq, Nat.zero_le, i3_le, i3_lt, i3_eq, i3_eqN, i3_leN, i3_Nle, i3_ltN, i3_NleN, i3_NeqN, i3_Neq, i3_NltN, i3_Nlt, l6_le, l6_lt, l6_eq, l6_leN, l6_Nle, l6_ltN, l6_Nlt, l6_eqN, l6_Neq, ly_dg12_5 hi', g5, b1, b2, htm, hs, hs2, h, h2, k1, e1, ib, Bool.false_eq_true, ↓reduceIte]
theorem l_Gu_first {d q tm : Nat} (hi' : ly_is x true Z q t 12) (hg : gu_ok C L t lo hi top rise bot sink) (htm : tm < 9223372036854775808) : ∀ (r i a b : Nat) (l6 : Option Value), i + r ≤ 31 → a ≤ b → b - a < 2 ^ r → lo ≤ a → b ≤ hi + 1 → (∀ v, lo ≤ v → v < a → ¬ gR top rise bot sink v tm = true) → (∀ v, b ≤ v → v ≤ hi → gR top rise bot sink v tm = true) → ∃ c, lo ≤ c ∧ c ≤ hi + 1 ∧ (∀ v, lo ≤ v → v < c → ¬ gR top rise bot sink v tm = true) ∧ (∀ v, c ≤ v → v ≤ hi → gR top rise bot sink v tm = true) ∧ am_run G (d + 3) K_Gu_firstReaching (16, [some (.ref q), some (.long (Int64.ofNat tm)), none, some (.int (Int32.ofNat a)), some (.int (Int32.ofNat b)), some (.int (Int32.ofNat i)), l6], [], am_mk x true Z C L R D) = some (some (.int (Int32.ofNat c)), am_mk x true Z C L R D) := by
  obtain ⟨-, -, -, -, -, -, q1, q2, q3, -⟩ := id hg
  have k1 := ly_dk12 (C := C) (L := L) (R := R) (D := D) hi'
  intro r
  induction r with
  | zero =>
    intro i a b l6 hir hab hlt hla hbh hn hy
    have e : b = a := by omega
    subst e
    refine ⟨b, hla, hbh, hn, hy, ?_⟩
    have b1 : b < 2147483648 := by omega
    rw [r_Gu_firstReaching_16]
    simp only [r_Gu_firstReaching_17, r_Gu_firstReaching_19, r_Gu_firstReaching_67, r_Gu_firstReaching_68, i3n_0, i3n_1, i3n_2, i3n_32, l6n_0, l6n_1, am_kf_s, am_km_s, am_kn_s, am_k_v, am_k_0, am_isr_r, am_isr_n, am_isr_v, am_sw_0, am_sw_i, am_sw_l, am_sw_r, am_sw_n, am_sw_v, am_ct_i, am_ct_r, am_ct_n, am_c1_o, am_c1_n, am_c1_i, am_c1_r, am_c1_v, am_mk_1, lc_lt, lc_gt, lc_eq, lc_le, lc_ge, i01_eq, i01_ok, ite_not, true_or, or_true, true_and, and_true, false_or, or_false, false_and, and_false, if_true, if_false, not_true_eq_false, not_false_eq_true, eq_self, Nat.reduceAdd, Nat.reduceLeDiff, Nat.reduceLT, Nat.reduceEqDiff, Nat.reduceMul, Nat.reduceSub, Nat.reduceDiv, Nat.reduceMod, reduceCtorEq, Nat.zero_le, i3_le, i3_lt, i3_eq, i3_eqN, i3_leN, i3_Nle, i3_ltN, i3_NleN, i3_NeqN, i3_Neq, i3_NltN, i3_Nlt, l6_le, l6_lt, l6_eq, l6_leN, l6_Nle, l6_ltN, l6_Nlt, l6_eqN, l6_Neq, b1, Nat.le_refl, ↓reduceIte]
  | succ r ih =>
    intro i a b l6 hir hab hlt hla hbh hn hy
    have b1 : a < 2147483648 := by omega
    have b2 : b < 2147483648 := by omega
    have b3 : i < 2147483648 := by omega
    by_cases hc : b ≤ a
    · have e : b = a := by omega
      subst e
      refine ⟨b, hla, hbh, hn, hy, ?_⟩
      rw [r_Gu_firstReaching_16]
      simp only [r_Gu_firstReaching_17, r_Gu_firstReaching_19, r_Gu_firstReaching_67, r_Gu_firstReaching_68, i3n_0, i3n_1, i3n_2, i3n_32, l6n_0, l6n_1, am_kf_s, am_km_s, am_kn_s, am_k_v, am_k_0, am_isr_r, am_isr_n, am_isr_v, am_sw_0, am_sw_i, am_sw_l, am_sw_r, am_sw_n, am_sw_v, am_ct_i, am_ct_r, am_ct_n, am_c1_o, am_c1_n, am_c1_i, am_c1_r, am_c1_v, am_mk_1, lc_lt, lc_gt, lc_eq, lc_le, lc_ge, i01_eq, i01_ok, ite_not, true_or, or_true, true_and, and_true, false_or, or_false, false_and, and_false, if_true, if_false, not_true_eq_false, not_false_eq_true, eq_self, Nat.reduceAdd, Nat.reduceLeDiff, Nat.reduceLT, Nat.reduceEqDiff, Nat.reduceMul, Nat.reduceSub, Nat.reduceDiv, Nat.reduceMod, reduceCtorEq, Nat.zero_le, i3_le, i3_lt, i3_eq, i3_eqN, i3_leN, i3_Nle, i3_ltN, i3_NleN, i3_NeqN, i3_Neq, i3_NltN, i3_Nlt, l6_le, l6_lt, l6_eq, l6_leN, l6_Nle, l6_ltN, l6_Nlt, l6_eqN, l6_Neq, b1, Nat.le_refl, ↓reduceIte]
    · have hp : 2 ^ (r + 1) = 2 ^ r * 2 := Nat.pow_succ 2 r
      have b4 : ¬ 32 ≤ i := by omega
      have e1 := x_Gu_reaches (G := G) (x := x) (R := R) (D := D) (d := d) (v := a + (b - a) / 2) (tm := tm) hi' hg (by omega) htm
      have es : Int32.ofNat b - Int32.ofNat a = Int32.ofNat (b - a) := i3_sub hab
      have ed : Int32.ofNat (b - a) / Int32.ofNat 2 = Int32.ofNat ((b - a) / 2) := i3_div (by omega) (by decide)
      by_cases hR : gR top rise bot sink (a + (b - a) / 2) tm = true
      · obtain ⟨c, c1, c2, c3, c4, c5⟩ := ih (i + 1) a (a + (b - a) / 2) (some (.int (Int32.ofNat (a + (b - a) / 2)))) (by omega) (by omega) (by omega) hla (by omega) hn (fun v v1 v2 => gR_mono hg v1 hR)
        refine ⟨c, c1, c2, c3, c4, ?_⟩
        rw [← c5, r_Gu_firstReaching_16]
        rw [show ib (gR top rise bot sink (a + (b - a) / 2) tm) = 1 by rw [hR]; rfl] at e1
        simp only [r_Gu_firstReaching_17, r_Gu_firstReaching_19, r_Gu_firstReaching_22, r_Gu_firstReaching_24, r_Gu_firstReaching_26, r_Gu_firstReaching_29, r_Gu_firstReaching_30, r_Gu_firstReaching_32, r_Gu_firstReaching_33, r_Gu_firstReaching_34, r_Gu_firstReaching_35, r_Gu_firstReaching_36, r_Gu_firstReaching_37, r_Gu_firstReaching_37_k, r_Gu_firstReaching_39, r_Gu_firstReaching_40, r_Gu_firstReaching_42, r_Gu_firstReaching_43, r_Gu_firstReaching_46, r_Gu_firstReaching_49, r_Gu_firstReaching_51, r_Gu_firstReaching_51_k, r_Gu_firstReaching_53, r_Gu_firstReaching_56, r_Gu_firstReaching_58, r_Gu_firstReaching_59, r_Gu_firstReaching_60, r_Gu_firstReaching_60_k, r_Gu_firstReaching_61, r_Gu_firstReaching_61_k, r_Gu_firstReaching_64, i3n_0, i3n_1, i3n_2, i3n_32, l6n_0, l6n_1, am_kf_s, am_km_s, am_kn_s, am_k_v, am_k_0, am_isr_r, am_isr_n, am_isr_v, am_sw_0, am_sw_i, am_sw_l, am_sw_r, am_sw_n, am_sw_v, am_ct_i, am_ct_r, am_ct_n, am_c1_o, am_c1_n, am_c1_i, am_c1_r, am_c1_v, am_mk_1, lc_lt, lc_gt, lc_eq, lc_le, lc_ge, i01_eq, i01_ok, ite_not, true_or, or_true, true_and, and_true, false_or, or_false, false_and, and_false, if_true, if_false, not_true_eq_false, not_false_eq_true, eq_self, Nat.reduceAdd, Nat.reduceLeDiff, Nat.reduceLT, Nat.reduceEqDiff, Nat.reduceMul, Nat.reduceSub, Nat.reduceDiv, Nat.reduceMod, reduceCtorEq, Nat.zero_le, i3_le, i3_lt, i3_eq, i3_eqN, i3_leN, i3_Nle, i3_ltN, i3_NleN, i3_NeqN, i3_Neq, i3_NltN, i3_Nlt, l6_le, l6_lt, l6_eq, l6_leN, l6_Nle, l6_ltN, l6_Nlt, l6_eqN, l6_Neq, b1, b2, b3, b4, hc, es, ed, i3_add, k1, e1, Nat.zero_lt_one, ↓reduceIte]
      · obtain ⟨c, c1, c2, c3, c4, c5⟩ := ih (i + 1) (a + (b - a) / 2 + 1) b (some (.int (Int32.ofNat (a + (b - a) / 2)))) (by omega) (by omega) (by omega) (by omega) hbh (fun v v1 v2 hv => by
          by_cases hva : v < a
          · exact hn v v1 hva hv
          · exact hR (gR_mono hg (by omega) hv)) hy
        refine ⟨c, c1, c2, c3, c4, ?_⟩
        rw [← c5, r_Gu_firstReaching_16]
        rw [show ib (gR top rise bot sink (a + (b - a) / 2) tm) = 0 from ib_0.mpr hR] at e1
        simp only [r_Gu_firstReaching_17, r_Gu_firstReaching_19, r_Gu_firstReaching_22, r_Gu_firstReaching_24, r_Gu_firstReaching_26, r_Gu_firstReaching_29, r_Gu_firstReaching_30, r_Gu_firstReaching_32, r_Gu_firstReaching_33, r_Gu_firstReaching_34, r_Gu_firstReaching_35, r_Gu_firstReaching_36, r_Gu_firstReaching_37, r_Gu_firstReaching_37_k, r_Gu_firstReaching_39, r_Gu_firstReaching_40, r_Gu_firstReaching_42, r_Gu_firstReaching_43, r_Gu_firstReaching_46, r_Gu_firstReaching_49, r_Gu_firstReaching_51, r_Gu_firstReaching_51_k, r_Gu_firstReaching_53, r_Gu_firstReaching_56, r_Gu_firstReaching_58, r_Gu_firstReaching_59, r_Gu_firstReaching_60, r_Gu_firstReaching_60_k, r_Gu_firstReaching_61, r_Gu_firstReaching_61_k, r_Gu_firstReaching_64, i3n_0, i3n_1, i3n_2, i3n_32, l6n_0, l6n_1, am_kf_s, am_km_s, am_kn_s, am_k_v, am_k_0, am_isr_r, am_isr_n, am_isr_v, am_sw_0, am_sw_i, am_sw_l, am_sw_r, am_sw_n, am_sw_v, am_ct_i, am_ct_r, am_ct_n, am_c1_o, am_c1_n, am_c1_i, am_c1_r, am_c1_v, am_mk_1, lc_lt, lc_gt, lc_eq, lc_le, lc_ge, i01_eq, i01_ok, ite_not, true_or, or_true, true_and, and_true, false_or, or_false, false_and, and_false, if_true, if_false, not_true_eq_false, not_false_eq_true, eq_self, Nat.reduceAdd, Nat.reduceLeDiff, Nat.reduceLT, Nat.reduceEqDiff, Nat.reduceMul, Nat.reduceSub, Nat.reduceDiv, Nat.reduceMod, reduceCtorEq, Nat.zero_le, i3_le, i3_lt, i3_eq, i3_eqN, i3_leN, i3_Nle, i3_ltN, i3_NleN, i3_NeqN, i3_Neq, i3_NltN, i3_Nlt, l6_le, l6_lt, l6_eq, l6_leN, l6_Nle, l6_ltN, l6_Nlt, l6_eqN, l6_Neq, b1, b2, b3, b4, hc, es, ed, i3_add, k1, e1, ↓reduceIte]
theorem x_Gu_first {d q tm : Nat} (hi' : ly_is x true Z q t 12) (hg : gu_ok C L t lo hi top rise bot sink) (htm : tm < 9223372036854775808) : ∃ c, lo ≤ c ∧ c ≤ hi + 1 ∧ (∀ v, lo ≤ v → v < c → ¬ gR top rise bot sink v tm = true) ∧ (∀ v, c ≤ v → v ≤ hi → gR top rise bot sink v tm = true) ∧ am_ex G (d + 4) K_Gu_firstReaching [.ref q, .long (Int64.ofNat tm)] (am_mk x true Z C L R D) = some (some (.int (Int32.ofNat c)), am_mk x true Z C L R D) := by
  have g0 := hg.1
  have g1 := hg.2.1
  have q1 := hg.2.2.2.2.2.2
  obtain ⟨c, c1, c2, c3, c4, c5⟩ := l_Gu_first (G := G) (x := x) (R := R) (D := D) (d := d) hi' hg htm 17 0 lo (hi + 1) none (by omega) (by omega) (by rw [show (2 : Nat) ^ 17 = 131072 from rfl]; omega) (Nat.le_refl _) (Nat.le_refl _) (fun v v1 v2 => by omega) (fun v v1 v2 => by omega)
  refine ⟨c, c1, c2, c3, c4, ?_⟩
  rw [← c5]
  simp only [e_Gu_firstReaching, r_Gu_firstReaching_0, r_Gu_firstReaching_1, r_Gu_firstReaching_4, r_Gu_firstReaching_4_k, r_Gu_firstReaching_5, r_Gu_firstReaching_6, r_Gu_firstReaching_9, r_Gu_firstReaching_10, r_Gu_firstReaching_11, r_Gu_firstReaching_11_k, r_Gu_firstReaching_13, r_Gu_firstReaching_14, r_Gu_firstReaching_14_k, r_Gu_firstReaching_17, r_Gu_firstReaching_19, r_Gu_firstReaching_22, r_Gu_firstReaching_24, r_Gu_firstReaching_26, r_Gu_firstReaching_29, r_Gu_firstReaching_30, r_Gu_firstReaching_32, r_Gu_firstReaching_33, r_Gu_firstReaching_34, r_Gu_firstReaching_35, r_Gu_firstReaching_36, r_Gu_firstReaching_37, r_Gu_firstReaching_37_k, r_Gu_firstReaching_39, r_Gu_firstReaching_40, r_Gu_firstReaching_42, r_Gu_firstReaching_43, r_Gu_firstReaching_46, r_Gu_firstReaching_49, r_Gu_firstReaching_51, r_Gu_firstReaching_51_k, r_Gu_firstReaching_53, r_Gu_firstReaching_56, r_Gu_firstReaching_58, r_Gu_firstReaching_59, r_Gu_firstReaching_60, r_Gu_firstReaching_60_k, r_Gu_firstReaching_61, r_Gu_firstReaching_61_k, r_Gu_firstReaching_64, r_Gu_firstReaching_67, r_Gu_firstReaching_68, i3n_0, i3n_1, i3n_2, i3n_32, l6n_0, l6n_1, am_kf_s, am_km_s, am_kn_s, am_k_v, am_k_0, am_isr_r, am_isr_n, am_isr_v, am_sw_0, am_sw_i, am_sw_l, am_sw_r, am_sw_n, am_sw_v, am_ct_i, am_ct_r, am_ct_n, am_c1_o, am_c1_n, am_c1_i, am_c1_r, am_c1_v, am_mk_1, lc_lt, lc_gt, lc_eq, lc_le, lc_ge, i01_eq, i01_ok, ite_not, true_or, or_true, true_and, and_true, false_or, or_false, false_and, and_false, if_true, if_false, not_true_eq_false, not_false_eq_true, eq_self, Nat.reduceAdd, Nat.reduceLeDiff, Nat.reduceLT, Nat.reduceEqDiff, Nat.reduceMul, Nat.reduceSub, Nat.reduceDiv, Nat.reduceMod, reduceCtorEq, Nat.zero_le, i3_le, i3_lt, i3_eq, i3_eqN, i3_leN, i3_Nle, i3_ltN, i3_NleN, i3_NeqN, i3_Neq, i3_NltN, i3_Nlt, l6_le, l6_lt, l6_eq, l6_leN, l6_Nle, l6_ltN, l6_Nlt, l6_eqN, l6_Neq, ly_dg12_0 hi', ly_dg12_1 hi', g0, g1, i3_add, ↓reduceIte]
/-- the nearest number -/
def gO (top rise bot sink tm v : Nat) : Nat := ab (gT top rise bot sink v) tm
def gN (f : Nat → Nat) (lo hi n : Nat) : Prop := lo ≤ n ∧ n ≤ hi ∧ ∀ v, lo ≤ v → v ≤ hi → f n < f v ∨ (f n = f v ∧ n ≤ v)
theorem gN_uniq {f : Nat → Nat} {a b : Nat} (h : gN f lo hi a) (h' : gN f lo hi b) : a = b := by
  have q1 := h.2.2 b h'.1 h'.2.1
  have q2 := h'.2.2 a h.1 h.2.1
  omega
theorem x_Gu_nearest {d q tm : Nat} (hi' : ly_is x true Z q t 12) (hg : gu_ok C L t lo hi top rise bot sink) (htm : tm ≤ 99999) : ∃ n, gN (gO top rise bot sink tm) lo hi n ∧ am_ex G (d + 5) K_Gu_nearest [.ref q, .long (Int64.ofNat tm)] (am_mk x true Z C L R D) = some (some (.int (Int32.ofNat n)), am_mk x true Z C L R D) := by
  obtain ⟨g0, g1, -, -, -, -, q1, q2, q3, -, -, q6, -, -, q8⟩ := id hg
  have k1 := ly_dk12 (C := C) (L := L) (R := R) (D := D) hi'
  obtain ⟨b, b1, b2, b3, b4, b5⟩ := x_Gu_first (G := G) (x := x) (R := R) (D := D) (d := d) (tm := tm) hi' hg (by omega)
  have lb : b < 2147483648 := by omega
  have ll : lo < 2147483648 := by omega
  have lh : hi < 2147483648 := by omega
  -- what reaching says
  have up : ∀ v w, v ≤ w → gR top rise bot sink v tm = true → gO top rise bot sink tm v ≤ gO top rise bot sink tm w := by
    intro v w hvw hv
    unfold gR at hv
    unfold gO ab
    by_cases hs : 0 < sink
    · rw [if_pos hs] at hv
      have : rise = 0 := by omega
      subst this
      have := gT_anti (top := top) (sink := sink) hvw q6
      have := of_decide_eq_true hv
      omega
    · rw [if_neg hs] at hv
      have : sink = 0 := by omega
      subst this
      have := gT_mono (top := top) (rise := rise) (bot := bot) hvw
      have := of_decide_eq_true hv
      omega
  by_cases hbl : b ≤ lo
  · have e : b = lo := by omega
    subst e
    refine ⟨b, ⟨Nat.le_refl _, q3, fun v v1 v2 => ?_⟩, ?_⟩
    · have := up b v v1 (b4 b (Nat.le_refl _) q3)
      omega
    · simp only [e_Gu_nearest, r_Gu_nearest_0, r_Gu_nearest_1, r_Gu_nearest_2, r_Gu_nearest_5, r_Gu_nearest_5_k, r_Gu_nearest_6, r_Gu_nearest_7, r_Gu_nearest_8, r_Gu_nearest_11, r_Gu_nearest_14, r_Gu_nearest_15, r_Gu_nearest_18, r_Gu_nearest_19, r_Gu_nearest_20, r_Gu_nearest_21, r_Gu_nearest_22, r_Gu_nearest_23, r_Gu_nearest_24, r_Gu_nearest_27, r_Gu_nearest_30, r_Gu_nearest_30_k, r_Gu_nearest_32, r_Gu_nearest_33, r_Gu_nearest_34, r_Gu_nearest_37, r_Gu_nearest_40, r_Gu_nearest_42, r_Gu_nearest_43, r_Gu_nearest_44, r_Gu_nearest_46, r_Gu_nearest_49, r_Gu_nearest_50, r_Gu_nearest_51, r_Gu_nearest_54, r_Gu_nearest_55, r_Gu_nearest_56, r_Gu_nearest_59, r_Gu_nearest_60, r_Gu_nearest_61, r_Gu_nearest_64, r_Gu_nearest_65, r_Gu_nearest_68, r_Gu_nearest_70, r_Gu_nearest_73, r_Gu_nearest_74, i3n_0, i3n_1, l6n_0, l6n_1, am_kf_s, am_km_s, am_kn_s, am_k_v, am_k_0, am_isr_r, am_isr_n, am_isr_v, am_sw_0, am_sw_i, am_sw_l, am_sw_r, am_sw_n, am_sw_v, am_ct_i, am_ct_r, am_ct_n, am_c1_o, am_c1_n, am_c1_i, am_c1_r, am_c1_v, am_mk_1, lc_lt, lc_gt, lc_eq, lc_le, lc_ge, i01_eq, i01_ok, ite_not, true_or, or_true, true_and, and_true, false_or, or_false, false_and, and_false, if_true, if_false, not_true_eq_false, not_false_eq_true, eq_self, Nat.reduceAdd, Nat.reduceLeDiff, Nat.reduceLT, Nat.reduceEqDiff, Nat.reduceMul, Nat.reduceSub, Nat.reduceDiv, Nat.reduceMod, reduceCtorEq, Nat.zero_le, i3_le, i3_lt, i3_eq, i3_eqN, i3_leN, i3_Nle, i3_ltN, i3_NleN, i3_NeqN, i3_Neq, i3_NltN, i3_Nlt, l6_le, l6_lt, l6_eq, l6_leN, l6_Nle, l6_ltN, l6_Nlt, l6_eqN, l6_Neq, k1, ly_dg12_0 hi', g0, b5, lb, Nat.lt_irrefl, ↓reduceIte]
  · have hnb := b3 (b - 1) (by omega) (by omega)
    have e2 := x_Gu_timeBy (G := G) (x := x) (R := R) (D := D) (d := d + 2) (v := b - 1) hi' hg (by omega)
    have hu := gT_le hg (v := b - 1) (by omega)
    obtain ⟨a, a1, a2, a3, a4, a5⟩ := x_Gu_first (G := G) (x := x) (R := R) (D := D) (d := d) (tm := gT top rise bot sink (b - 1)) hi' hg (by omega)
    have hself : gR top rise bot sink (b - 1) (gT top rise bot sink (b - 1)) = true := by
      unfold gR
      split <;> exact decide_eq_true (Nat.le_refl _)
    have hab : a ≤ b - 1 := Classical.byContradiction fun q => a3 (b - 1) (by omega) (by omega) hself
    have eb : Int32.ofNat b - Int32.ofNat 1 = Int32.ofNat (b - 1) := i3_sub (by omega)
    -- below b: a is the best, and the least such
    have low : ∀ v, lo ≤ v → v < b → gO top rise bot sink tm a < gO top rise bot sink tm v ∨ (gO top rise bot sink tm a = gO top rise bot sink tm v ∧ a ≤ v) := by
      intro v v1 v2
      have rA := a4 a (Nat.le_refl _) (by omega)
      unfold gR at rA hnb
      unfold gO ab
      by_cases hs : 0 < sink
      · rw [if_pos hs] at rA hnb
        have e0 : rise = 0 := by omega
        subst e0
        have m1 := gT_anti (top := top) (sink := sink) hab q6
        have m2 := gT_anti (top := top) (sink := sink) (show v ≤ b - 1 by omega) q6
        have rA := of_decide_eq_true rA
        have hnb : ¬ gT top 0 bot sink (b - 1) ≤ tm := fun q => hnb (decide_eq_true q)
        by_cases hva : v < a
        · have h3 := a3 v v1 hva
          unfold gR at h3
          rw [if_pos hs] at h3
          have h3 : ¬ gT top 0 bot sink v ≤ gT top 0 bot sink (b - 1) := fun q => h3 (decide_eq_true q)
          omega
        · have h3 := a4 v (by omega) (by omega)
          unfold gR at h3
          rw [if_pos hs] at h3
          have h3 := of_decide_eq_true h3
          omega
      · rw [if_neg hs] at rA hnb
        have e0 : sink = 0 := by omega
        subst e0
        have m1 := gT_mono (top := top) (rise := rise) (bot := bot) hab
        have m2 := gT_mono (top := top) (rise := rise) (bot := bot) (show v ≤ b - 1 by omega)
        have rA := of_decide_eq_true rA
        have hnb : ¬ tm ≤ gT top rise bot 0 (b - 1) := fun q => hnb (decide_eq_true q)
        by_cases hva : v < a
        · have h3 := a3 v v1 hva
          unfold gR at h3
          rw [if_neg hs] at h3
          have h3 : ¬ gT top rise bot 0 (b - 1) ≤ gT top rise bot 0 v := fun q => h3 (decide_eq_true q)
          omega
        · have h3 := a4 v (by omega) (by omega)
          unfold gR at h3
          rw [if_neg hs] at h3
          have h3 := of_decide_eq_true h3
          omega
    by_cases hbh : b ≤ hi
    · have hbh2 : ¬ hi < b := by omega
      have hbl2 : lo < b := by omega
      have e3 := x_Gu_timeBy (G := G) (x := x) (R := R) (D := D) (d := d + 2) (v := a) hi' hg (by omega)
      have e4 := x_Gu_timeBy (G := G) (x := x) (R := R) (D := D) (d := d + 2) (v := b) hi' hg (by omega)
      have t3 := gT_le hg (v := a) (by omega)
      have t4 := gT_le hg (v := b) (by omega)
      have d3 : pl (Int64.ofNat (gT top rise bot sink a) - Int64.ofNat tm) = Int64.ofNat (gO top rise bot sink tm a) := pl_D (by omega) (by omega)
      have d4 : pl (Int64.ofNat (gT top rise bot sink b) - Int64.ofNat tm) = Int64.ofNat (gO top rise bot sink tm b) := pl_D (by omega) (by omega)
      have o3 : gO top rise bot sink tm a < 9223372036854775808 := by unfold gO ab; omega
      have o4 : gO top rise bot sink tm b < 9223372036854775808 := by unfold gO ab; omega
      by_cases hc : gO top rise bot sink tm a ≤ gO top rise bot sink tm b
      · have hc2 : ¬ gO top rise bot sink tm b < gO top rise bot sink tm a := by omega
        refine ⟨a, ⟨a1, by omega, fun v v1 v2 => ?_⟩, ?_⟩
        · by_cases hvb : v < b
          · exact low v v1 hvb
          · have := up b v (by omega) (b4 b (Nat.le_refl _) hbh)
            omega
        · simp only [e_Gu_nearest, r_Gu_nearest_0, r_Gu_nearest_1, r_Gu_nearest_2, r_Gu_nearest_5, r_Gu_nearest_5_k, r_Gu_nearest_6, r_Gu_nearest_7, r_Gu_nearest_8, r_Gu_nearest_11, r_Gu_nearest_14, r_Gu_nearest_15, r_Gu_nearest_18, r_Gu_nearest_19, r_Gu_nearest_20, r_Gu_nearest_21, r_Gu_nearest_22, r_Gu_nearest_23, r_Gu_nearest_24, r_Gu_nearest_27, r_Gu_nearest_30, r_Gu_nearest_30_k, r_Gu_nearest_32, r_Gu_nearest_33, r_Gu_nearest_34, r_Gu_nearest_37, r_Gu_nearest_40, r_Gu_nearest_42, r_Gu_nearest_43, r_Gu_nearest_44, r_Gu_nearest_46, r_Gu_nearest_49, r_Gu_nearest_50, r_Gu_nearest_51, r_Gu_nearest_54, r_Gu_nearest_55, r_Gu_nearest_56, r_Gu_nearest_59, r_Gu_nearest_60, r_Gu_nearest_61, r_Gu_nearest_64, r_Gu_nearest_65, r_Gu_nearest_68, r_Gu_nearest_70, r_Gu_nearest_73, r_Gu_nearest_74, i3n_0, i3n_1, l6n_0, l6n_1, am_kf_s, am_km_s, am_kn_s, am_k_v, am_k_0, am_isr_r, am_isr_n, am_isr_v, am_sw_0, am_sw_i, am_sw_l, am_sw_r, am_sw_n, am_sw_v, am_ct_i, am_ct_r, am_ct_n, am_c1_o, am_c1_n, am_c1_i, am_c1_r, am_c1_v, am_mk_1, lc_lt, lc_gt, lc_eq, lc_le, lc_ge, i01_eq, i01_ok, ite_not, true_or, or_true, true_and, and_true, false_or, or_false, false_and, and_false, if_true, if_false, not_true_eq_false, not_false_eq_true, eq_self, Nat.reduceAdd, Nat.reduceLeDiff, Nat.reduceLT, Nat.reduceEqDiff, Nat.reduceMul, Nat.reduceSub, Nat.reduceDiv, Nat.reduceMod, reduceCtorEq, Nat.zero_le, i3_le, i3_lt, i3_eq, i3_eqN, i3_leN, i3_Nle, i3_ltN, i3_NleN, i3_NeqN, i3_Neq, i3_NltN, i3_Nlt, l6_le, l6_lt, l6_eq, l6_leN, l6_Nle, l6_ltN, l6_Nlt, l6_eqN, l6_Neq, k1, ly_dg12_0 hi', ly_dg12_1 hi', g0, g1, b5, lb, ll, lh, hbl, hbl2, eb, e2, a5, hbh, hbh2, e3, e4, pl_abs, d3, d4, o3, o4, hc, hc2, ↓reduceIte]
      · have hc2 : gO top rise bot sink tm b < gO top rise bot sink tm a := by omega
        refine ⟨b, ⟨by omega, hbh, fun v v1 v2 => ?_⟩, ?_⟩
        · by_cases hvb : v < b
          · have := low v v1 hvb
            omega
          · have := up b v (by omega) (b4 b (Nat.le_refl _) hbh)
            omega
        · simp only [e_Gu_nearest, r_Gu_nearest_0, r_Gu_nearest_1, r_Gu_nearest_2, r_Gu_nearest_5, r_Gu_nearest_5_k, r_Gu_nearest_6, r_Gu_nearest_7, r_Gu_nearest_8, r_Gu_nearest_11, r_Gu_nearest_14, r_Gu_nearest_15, r_Gu_nearest_18, r_Gu_nearest_19, r_Gu_nearest_20, r_Gu_nearest_21, r_Gu_nearest_22, r_Gu_nearest_23, r_Gu_nearest_24, r_Gu_nearest_27, r_Gu_nearest_30, r_Gu_nearest_30_k, r_Gu_nearest_32, r_Gu_nearest_33, r_Gu_nearest_34, r_Gu_nearest_37, r_Gu_nearest_40, r_Gu_nearest_42, r_Gu_nearest_43, r_Gu_nearest_44, r_Gu_nearest_46, r_Gu_nearest_49, r_Gu_nearest_50, r_Gu_nearest_51, r_Gu_nearest_54, r_Gu_nearest_55, r_Gu_nearest_56, r_Gu_nearest_59, r_Gu_nearest_60, r_Gu_nearest_61, r_Gu_nearest_64, r_Gu_nearest_65, r_Gu_nearest_68, r_Gu_nearest_70, r_Gu_nearest_73, r_Gu_nearest_74, i3n_0, i3n_1, l6n_0, l6n_1, am_kf_s, am_km_s, am_kn_s, am_k_v, am_k_0, am_isr_r, am_isr_n, am_isr_v, am_sw_0, am_sw_i, am_sw_l, am_sw_r, am_sw_n, am_sw_v, am_ct_i, am_ct_r, am_ct_n, am_c1_o, am_c1_n, am_c1_i, am_c1_r, am_c1_v, am_mk_1, lc_lt, lc_gt, lc_eq, lc_le, lc_ge, i01_eq, i01_ok, ite_not, true_or, or_true, true_and, and_true, false_or, or_false, false_and, and_false, if_true, if_false, not_true_eq_false, not_false_eq_true, eq_self, Nat.reduceAdd, Nat.reduceLeDiff, Nat.reduceLT, Nat.reduceEqDiff, Nat.reduceMul, Nat.reduceSub, Nat.reduceDiv, Nat.reduceMod, reduceCtorEq, Nat.zero_le, i3_le, i3_lt, i3_eq, i3_eqN, i3_leN, i3_Nle, i3_ltN, i3_NleN, i3_NeqN, i3_Neq, i3_NltN, i3_Nlt, l6_le, l6_lt, l6_eq, l6_leN, l6_Nle, l6_ltN, l6_Nlt, l6_eqN, l6_Neq, k1, ly_dg12_0 hi', ly_dg12_1 hi', g0, g1, b5, lb, ll, lh, hbl, hbl2, eb, e2, a5, hbh, hbh2, e3, e4, pl_abs, d3, d4, o3, o4, hc, hc2, ↓reduceIte]
    · have hbh2 : hi < b := by omega
      have hbl2 : lo < b := by omega
      refine ⟨a, ⟨a1, by omega, fun v v1 v2 => low v v1 (by omega)⟩, ?_⟩
      simp only [e_Gu_nearest, r_Gu_nearest_0, r_Gu_nearest_1, r_Gu_nearest_2, r_Gu_nearest_5, r_Gu_nearest_5_k, r_Gu_nearest_6, r_Gu_nearest_7, r_Gu_nearest_8, r_Gu_nearest_11, r_Gu_nearest_14, r_Gu_nearest_15, r_Gu_nearest_18, r_Gu_nearest_19, r_Gu_nearest_20, r_Gu_nearest_21, r_Gu_nearest_22, r_Gu_nearest_23, r_Gu_nearest_24, r_Gu_nearest_27, r_Gu_nearest_30, r_Gu_nearest_30_k, r_Gu_nearest_32, r_Gu_nearest_33, r_Gu_nearest_34, r_Gu_nearest_37, r_Gu_nearest_40, r_Gu_nearest_42, r_Gu_nearest_43, r_Gu_nearest_44, r_Gu_nearest_46, r_Gu_nearest_49, r_Gu_nearest_50, r_Gu_nearest_51, r_Gu_nearest_54, r_Gu_nearest_55, r_Gu_nearest_56, r_Gu_nearest_59, r_Gu_nearest_60, r_Gu_nearest_61, r_Gu_nearest_64, r_Gu_nearest_65, r_Gu_nearest_68, r_Gu_nearest_70, r_Gu_nearest_73, r_Gu_nearest_74, i3n_0, i3n_1, l6n_0, l6n_1, am_kf_s, am_km_s, am_kn_s, am_k_v, am_k_0, am_isr_r, am_isr_n, am_isr_v, am_sw_0, am_sw_i, am_sw_l, am_sw_r, am_sw_n, am_sw_v, am_ct_i, am_ct_r, am_ct_n, am_c1_o, am_c1_n, am_c1_i, am_c1_r, am_c1_v, am_mk_1, lc_lt, lc_gt, lc_eq, lc_le, lc_ge, i01_eq, i01_ok, ite_not, true_or, or_true, true_and, and_true, false_or, or_false, false_and, and_false, if_true, if_false, not_true_eq_false, not_false_eq_true, eq_self, Nat.reduceAdd, Nat.reduceLeDiff, Nat.reduceLT, Nat.reduceEqDiff, Nat.reduceMul, Nat.reduceSub, Nat.reduceDiv, Nat.reduceMod, reduceCtorEq, Nat.zero_le, i3_le, i3_lt, i3_eq, i3_eqN, i3_leN, i3_Nle, i3_ltN, i3_NleN, i3_NeqN, i3_Neq, i3_NltN, i3_Nlt, l6_le, l6_lt, l6_eq, l6_leN, l6_Nle, l6_ltN, l6_Nlt, l6_eqN, l6_Neq, k1, ly_dg12_0 hi', ly_dg12_1 hi', g0, g1, b5, lb, ll, lh, hbl, hbl2, eb, e2, a5, hbh, hbh2, ↓reduceIte]
end
