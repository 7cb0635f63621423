/-! FIT: the reference's loops -/
section
variable {G : Nat → Value} {x : Nat} {N : Nat → Nat → Nat} {Z : ly_Z} {C : Nat → Nat → Int32} {L : Nat → Nat → Int64} {R : Nat → Nat → Option Nat} {D : am_M}
theorem x_M_plain {d : Nat} {a : Int64} {M : am_M} : am_ex G (d + 1) K_M_plain [.long a] M = some (some (.long (if a < Int64.ofNat 0 then -a else a)), M) := by
  by_cases h : a < Int64.ofNat 0
  · have h2 : ¬ Int64.ofNat 0 ≤ a := Int64.not_le.mpr h
    simp only [e_M_plain, r_M_plain_0, r_M_plain_1, r_M_plain_2, r_M_plain_3, r_M_plain_6, r_M_plain_7, r_M_plain_8, r_M_plain_11, r_M_plain_12, i3n_0, i3n_1, l6n_0, l6n_1, am_kf_s, am_km_s, am_kn_s, am_k_v, am_k_0, am_isr_r, am_isr_n, am_isr_v, am_sw_0, am_sw_i, am_sw_l, am_sw_r, am_sw_n, am_sw_v, am_ct_i, am_ct_r, am_ct_n, am_c1_o, am_c1_n, am_c1_i, am_c1_r, am_c1_v, am_mk_1, lc_lt, lc_gt, lc_eq, lc_le, lc_ge, i01_eq, i01_ok, ite_not, true_or, or_true, true_and, and_true, false_or, or_false, false_and, and_false, if_true, if_false, not_true_eq_false, not_false_eq_true, eq_self, Nat.reduceAdd, Nat.reduceLeDiff, Nat.reduceLT, Nat.reduceEqDiff, Nat.reduceMul, Nat.reduceSub, Nat.reduceDiv, Nat.reduceMod, reduceCtorEq, Nat.zero_le, i3_le, i3_lt, i3_eq, i3_eqN, i3_leN, i3_Nle, i3_ltN, i3_NleN, i3_NeqN, i3_Neq, i3_NltN, i3_Nlt, l6_le, l6_lt, l6_eq, l6_leN, l6_Nle, l6_ltN, l6_Nlt, l6_eqN, l6_Neq, h, h2, ↓reduceIte]
  · have h2 : Int64.ofNat 0 ≤ a := Int64.not_lt.mp h
    simp only [e_M_plain, r_M_plain_0, r_M_plain_1, r_M_plain_2, r_M_plain_3, r_M_plain_6, r_M_plain_7, r_M_plain_8, r_M_plain_11, r_M_plain_12, i3n_0, i3n_1, l6n_0, l6n_1, am_kf_s, am_km_s, am_kn_s, am_k_v, am_k_0, am_isr_r, am_isr_n, am_isr_v, am_sw_0, am_sw_i, am_sw_l, am_sw_r, am_sw_n, am_sw_v, am_ct_i, am_ct_r, am_ct_n, am_c1_o, am_c1_n, am_c1_i, am_c1_r, am_c1_v, am_mk_1, lc_lt, lc_gt, lc_eq, lc_le, lc_ge, i01_eq, i01_ok, ite_not, true_or, or_true, true_and, and_true, false_or, or_false, false_and, and_false, if_true, if_false, not_true_eq_false, not_false_eq_true, eq_self, Nat.reduceAdd, Nat.reduceLeDiff, Nat.reduceLT, Nat.reduceEqDiff, Nat.reduceMul, Nat.reduceSub, Nat.reduceDiv, Nat.reduceMod, reduceCtorEq, Nat.zero_le, i3_le, i3_lt, i3_eq, i3_eqN, i3_leN, i3_Nle, i3_ltN, i3_NleN, i3_NeqN, i3_Neq, i3_NltN, i3_Nlt, l6_le, l6_lt, l6_eq, l6_leN, l6_Nle, l6_ltN, l6_Nlt, l6_eqN, l6_Neq, h, h2, ↓reduceIte]
theorem x_M_offBy (h : rl G N x Z C R D) (hs : la_ok N C L (N 31 27)) {d i law c : Nat} (hi : i < N 31 27) (hc : c ≤ 999) (hlaw : law ≤ 999) : am_ex G (d + 2) K_M_offBy [.ref (x + 31), .int (Int32.ofNat i), .int (Int32.ofNat law), .int (Int32.ofNat c)] (am_mk x true Z C L R D) = some (some (.long (Int64.ofNat (mO N c law i))), am_mk x true Z C L R D) := by
  obtain ⟨-, s2, s3⟩ := hs i hi
  obtain ⟨-, n2, r1, a4, a5, a6, a7, a8, -⟩ := h.2.2.2.1 i hi
  have hsz := (h.2.2.1 _ a5.2.2).2.2.2.2.2.2.2.2.1
  have h1 := mT_le (s := N 37 (N 44 i)) (l := law) (e := mA N i c) hsz.2.2.2 hlaw
  have h2 := mL_le (N := N) (i := i)
  have h3 := mA_lt h hi hc
  have h40 := h.1.2.2.1.2.2
  have i40 : i < 40 := by omega
  have j6 : N 44 i < 6 := by have := a5.2.2; have := h.1.2.1.2.2; omega
  have b1 : N 47 i < 2147483648 := by omega
  have b2 : law < 2147483648 := by omega
  have b3 : N 37 (N 44 i) < 2147483648 := by omega
  have et := x_M_timeBy (G := G) (d := d) (M := am_mk x true Z C L R D) (e := mA N i c) hsz.2.2.2 hlaw (by omega) (by omega)
  have em : mE N (N 44 i) (N 45 i) + mM N i c = mA N i c := rfl
  have e := l6_plain (l6_sub2 (p := N 47 i) (q := mT (N 37 (N 44 i)) law (mA N i c)) (r := mL N i) (by omega) (by omega) (by omega)) (by omega) (by omega)
  have e2 : ((N 47 i : Int) - mT (N 37 (N 44 i)) law (mA N i c) - mL N i).natAbs = mO N c law i := by unfold mO; omega
  rw [e2] at e
  simp only [e_M_offBy, r_M_offBy_0, r_M_offBy_1, r_M_offBy_4, r_M_offBy_5, r_M_offBy_6, r_M_offBy_7, r_M_offBy_8, r_M_offBy_11, r_M_offBy_12, r_M_offBy_15, r_M_offBy_16, r_M_offBy_17, r_M_offBy_18, r_M_offBy_19, r_M_offBy_20, r_M_offBy_21, r_M_offBy_22, r_M_offBy_25, r_M_offBy_26, r_M_offBy_27, r_M_offBy_28, r_M_offBy_29, r_M_offBy_30, r_M_offBy_33, r_M_offBy_34, r_M_offBy_37, r_M_offBy_38, r_M_offBy_39, r_M_offBy_42, r_M_offBy_43, r_M_offBy_44, r_M_offBy_45, r_M_offBy_48, ly_g31_25, ly_n47, ly_r47, ly_w47, ly_g31_14, ly_n37, ly_r37, ly_w37, ly_g31_22, ly_n44, ly_r44, ly_w44, ly_g31_40, ly_n51, ly_r51, ly_w51, ly_k31, ly_g31_39, ly_n50, ly_r50, ly_w50, i3n_0, i3n_1, l6n_0, l6n_1, am_kf_s, am_km_s, am_kn_s, am_k_v, am_k_0, am_isr_r, am_isr_n, am_isr_v, am_sw_0, am_sw_i, am_sw_l, am_sw_r, am_sw_n, am_sw_v, am_ct_i, am_ct_r, am_ct_n, am_c1_o, am_c1_n, am_c1_i, am_c1_r, am_c1_v, am_mk_1, lc_lt, lc_gt, lc_eq, lc_le, lc_ge, i01_eq, i01_ok, ite_not, true_or, or_true, true_and, and_true, false_or, or_false, false_and, and_false, if_true, if_false, not_true_eq_false, not_false_eq_true, eq_self, Nat.reduceAdd, Nat.reduceLeDiff, Nat.reduceLT, Nat.reduceEqDiff, Nat.reduceMul, Nat.reduceSub, Nat.reduceDiv, Nat.reduceMod, reduceCtorEq, Nat.zero_le, i3_le, i3_lt, i3_eq, i3_eqN, i3_leN, i3_Nle, i3_ltN, i3_NleN, i3_NeqN, i3_Neq, i3_NltN, i3_Nlt, l6_le, l6_lt, l6_eq, l6_leN, l6_Nle, l6_ltN, l6_Nlt, l6_eqN, l6_Neq, i40, j6, a5.2.1, a8.2.1, hsz.2.1, s2, s3, b1, b2, b3, x_M_moreBy (d := d) h hi hc, i3_long, l6_add, em, et, x_M_plain, e, ↓reduceIte]
theorem l_M_fit2 (h : rl G N x Z C R D) (hs : la_ok N C L (N 31 27)) {d law c : Nat} (hc : c ≤ 999) (hlaw : law ≤ 999) {l1 l2 l3 l4 l5 l6 l7 : Option Value} (c7 : am_c1 l7 = true) : ∀ (r j : Nat), N 31 27 - j = r → j ≤ N 31 27 → am_run G (d + 2) K_M_fit (65, [some (.ref (x + 31)), l1, l2, l3, l4, l5, l6, l7, some (.int (Int32.ofNat law)), some (.int (Int32.ofNat c)), some (.long (Int64.ofNat (su N c law (spl N none j)))), none, some (.int (Int32.ofNat j))], [], am_mk x true Z C L R D) = am_run G (d + 2) K_M_fit (109, [some (.ref (x + 31)), l1, l2, l3, l4, l5, l6, l7, some (.int (Int32.ofNat law)), some (.int (Int32.ofNat c)), some (.long (Int64.ofNat (su N c law (spl N none (N 31 27))))), none, some (.int (Int32.ofNat (N 31 27)))], [], am_mk x true Z C L R D) := by
  have h27 := h.1.2.2.1
  have b1 : N 31 27 < 2147483648 := by omega
  intro r
  induction r with
  | zero =>
    intro j hr hj
    have e : j = N 31 27 := by omega
    subst e
    rw [r_M_fit_65]
    simp only [r_M_fit_67, r_M_fit_68, r_M_fit_71, ly_k31, ly_g31_27, ly_g31_38, ly_n49, ly_r49, ly_w49, i3n_0, i3n_1, i3n_10, i3n_1000, l6n_0, l6n_1, l6n_2, l6n_4611686018427387904, am_kf_s, am_km_s, am_kn_s, am_k_v, am_k_0, am_isr_r, am_isr_n, am_isr_v, am_sw_0, am_sw_i, am_sw_l, am_sw_r, am_sw_n, am_sw_v, am_ct_i, am_ct_r, am_ct_n, am_c1_o, am_c1_n, am_c1_i, am_c1_r, am_c1_v, am_mk_1, lc_lt, lc_gt, lc_eq, lc_le, lc_ge, i01_eq, i01_ok, ite_not, true_or, or_true, true_and, and_true, false_or, or_false, false_and, and_false, if_true, if_false, not_true_eq_false, not_false_eq_true, eq_self, Nat.reduceAdd, Nat.reduceLeDiff, Nat.reduceLT, Nat.reduceEqDiff, Nat.reduceMul, Nat.reduceSub, Nat.reduceDiv, Nat.reduceMod, reduceCtorEq, Nat.zero_le, i3_le, i3_lt, i3_eq, i3_eqN, i3_leN, i3_Nle, i3_ltN, i3_NleN, i3_NeqN, i3_Neq, i3_NltN, i3_Nlt, l6_le, l6_lt, l6_eq, l6_leN, l6_Nle, l6_ltN, l6_Nlt, l6_eqN, l6_Neq, h27.2.1, b1, Nat.le_refl, ↓reduceIte]
  | succ r ih =>
    intro j hr hj
    have hjn : j < N 31 27 := by omega
    have b2 : j < 2147483648 := by omega
    have b3 : ¬ N 31 27 ≤ j := by omega
    have j40 : j < 40 := by omega
    have s1 := (hs j hjn).1
    rw [← ih (j + 1) (by omega) (by omega), spl_s, r_M_fit_65]
    by_cases hv : ve N j = Int32.ofNat 0
    · rw [if_pos (show spk N none j = true by unfold spk; rw [decide_eq_true hv]; rfl), su_app, su_one]
      rw [if_pos hv] at s1
      simp only [r_M_fit_67, r_M_fit_68, r_M_fit_71, r_M_fit_74, r_M_fit_76, r_M_fit_77, r_M_fit_80, r_M_fit_82, r_M_fit_83, r_M_fit_86, r_M_fit_87, r_M_fit_90, r_M_fit_91, r_M_fit_93, r_M_fit_95, r_M_fit_97, r_M_fit_100, r_M_fit_101, r_M_fit_101_k, r_M_fit_103, r_M_fit_103_k, r_M_fit_106, ly_k31, ly_g31_27, ly_g31_38, ly_n49, ly_r49, ly_w49, i3n_0, i3n_1, i3n_10, i3n_1000, l6n_0, l6n_1, l6n_2, l6n_4611686018427387904, am_kf_s, am_km_s, am_kn_s, am_k_v, am_k_0, am_isr_r, am_isr_n, am_isr_v, am_sw_0, am_sw_i, am_sw_l, am_sw_r, am_sw_n, am_sw_v, am_ct_i, am_ct_r, am_ct_n, am_c1_o, am_c1_n, am_c1_i, am_c1_r, am_c1_v, am_mk_1, lc_lt, lc_gt, lc_eq, lc_le, lc_ge, i01_eq, i01_ok, ite_not, true_or, or_true, true_and, and_true, false_or, or_false, false_and, and_false, if_true, if_false, not_true_eq_false, not_false_eq_true, eq_self, Nat.reduceAdd, Nat.reduceLeDiff, Nat.reduceLT, Nat.reduceEqDiff, Nat.reduceMul, Nat.reduceSub, Nat.reduceDiv, Nat.reduceMod, reduceCtorEq, Nat.zero_le, i3_le, i3_lt, i3_eq, i3_eqN, i3_leN, i3_Nle, i3_ltN, i3_NleN, i3_NeqN, i3_Neq, i3_NltN, i3_Nlt, l6_le, l6_lt, l6_eq, l6_leN, l6_Nle, l6_ltN, l6_Nlt, l6_eqN, l6_Neq, h27.2.1, b1, b2, b3, j40, s1, x_M_offBy (d := d) h hs hjn hc hlaw, l6_add, i3_add, ↓reduceIte]
    · rw [if_neg (show ¬ spk N none j = true by unfold spk; rw [decide_eq_false hv, Bool.false_and]; decide)]
      rw [if_neg hv] at s1
      simp only [r_M_fit_67, r_M_fit_68, r_M_fit_71, r_M_fit_74, r_M_fit_76, r_M_fit_77, r_M_fit_80, r_M_fit_82, r_M_fit_83, r_M_fit_86, r_M_fit_87, r_M_fit_90, r_M_fit_91, r_M_fit_93, r_M_fit_95, r_M_fit_97, r_M_fit_100, r_M_fit_101, r_M_fit_101_k, r_M_fit_103, r_M_fit_103_k, r_M_fit_106, ly_k31, ly_g31_27, ly_g31_38, ly_n49, ly_r49, ly_w49, i3n_0, i3n_1, i3n_10, i3n_1000, l6n_0, l6n_1, l6n_2, l6n_4611686018427387904, am_kf_s, am_km_s, am_kn_s, am_k_v, am_k_0, am_isr_r, am_isr_n, am_isr_v, am_sw_0, am_sw_i, am_sw_l, am_sw_r, am_sw_n, am_sw_v, am_ct_i, am_ct_r, am_ct_n, am_c1_o, am_c1_n, am_c1_i, am_c1_r, am_c1_v, am_mk_1, lc_lt, lc_gt, lc_eq, lc_le, lc_ge, i01_eq, i01_ok, ite_not, true_or, or_true, true_and, and_true, false_or, or_false, false_and, and_false, if_true, if_false, not_true_eq_false, not_false_eq_true, eq_self, Nat.reduceAdd, Nat.reduceLeDiff, Nat.reduceLT, Nat.reduceEqDiff, Nat.reduceMul, Nat.reduceSub, Nat.reduceDiv, Nat.reduceMod, reduceCtorEq, Nat.zero_le, i3_le, i3_lt, i3_eq, i3_eqN, i3_leN, i3_Nle, i3_ltN, i3_NleN, i3_NeqN, i3_Neq, i3_NltN, i3_Nlt, l6_le, l6_lt, l6_eq, l6_leN, l6_Nle, l6_ltN, l6_Nlt, l6_eqN, l6_Neq, h27.2.1, b1, b2, b3, j40, s1, l6_add, i3_add, Nat.add_zero, ↓reduceIte]
/-- the pairs of a part, LAW by LAW -/
def fi_Q (lo q c : Nat) : Nat → Nat → Prop := fun a e => lo ≤ a ∧ e % 10 = 0 ∧ ((a < q ∧ e ≤ 990) ∨ (a = q ∧ e < c))
theorem l_M_fit1 (h : rl G N x Z C R D) (hs : la_ok N C L (N 31 27)) {d law lo hi : Nat} (hlaw : law ≤ 999) (hlo : lo ≤ law) {l3 : Option Value} (c3 : am_c1 l3 = true) : ∀ (r n : Nat) (o : Option Nat) (bl be : Nat) (l10 l11 l12 : Option Value), 100 - n = r → n ≤ 100 → bl ≤ 999 → be ≤ 999 → fi_st (fun a e => su N e a (spl N none (N 31 27))) (fi_Q lo law (10 * n)) o bl be → ∃ (o' : Option Nat) (bl' be' : Nat) (m10 m11 m12 : Option Value), am_run G (d + 2) K_M_fit (51, [some (.ref (x + 31)), some (.int (Int32.ofNat lo)), some (.int (Int32.ofNat hi)), l3, some (.long (fi_v o)), none, some (.int (Int32.ofNat bl)), some (.int (Int32.ofNat be)), some (.int (Int32.ofNat law)), some (.int (Int32.ofNat (10 * n))), l10, l11, l12], [], am_mk x true Z C L R D) = am_run G (d + 2) K_M_fit (145, [some (.ref (x + 31)), some (.int (Int32.ofNat lo)), some (.int (Int32.ofNat hi)), l3, some (.long (fi_v o')), none, some (.int (Int32.ofNat bl')), some (.int (Int32.ofNat be')), some (.int (Int32.ofNat law)), some (.int (Int32.ofNat 1000)), m10, m11, m12], [], am_mk x true Z C L R D) ∧ bl' ≤ 999 ∧ be' ≤ 999 ∧ fi_st (fun a e => su N e a (spl N none (N 31 27))) (fi_Q lo law 1000) o' bl' be' := by
  intro r
  induction r with
  | zero =>
    intro n o bl be l10 l11 l12 hr hn hbl hbe hst
    have e : n = 100 := by omega
    subst e
    refine ⟨o, bl, be, l10, l11, l12, ?_, hbl, hbe, hst⟩
    rw [r_M_fit_51]
    simp only [r_M_fit_53, r_M_fit_56, ly_k31, ly_g31_27, ly_g31_38, ly_n49, ly_r49, ly_w49, i3n_0, i3n_1, i3n_10, i3n_1000, l6n_0, l6n_1, l6n_2, l6n_4611686018427387904, am_kf_s, am_km_s, am_kn_s, am_k_v, am_k_0, am_isr_r, am_isr_n, am_isr_v, am_sw_0, am_sw_i, am_sw_l, am_sw_r, am_sw_n, am_sw_v, am_ct_i, am_ct_r, am_ct_n, am_c1_o, am_c1_n, am_c1_i, am_c1_r, am_c1_v, am_mk_1, lc_lt, lc_gt, lc_eq, lc_le, lc_ge, i01_eq, i01_ok, ite_not, true_or, or_true, true_and, and_true, false_or, or_false, false_and, and_false, if_true, if_false, not_true_eq_false, not_false_eq_true, eq_self, Nat.reduceAdd, Nat.reduceLeDiff, Nat.reduceLT, Nat.reduceEqDiff, Nat.reduceMul, Nat.reduceSub, Nat.reduceDiv, Nat.reduceMod, reduceCtorEq, Nat.zero_le, i3_le, i3_lt, i3_eq, i3_eqN, i3_leN, i3_Nle, i3_ltN, i3_NleN, i3_NeqN, i3_Neq, i3_NltN, i3_Nlt, l6_le, l6_lt, l6_eq, l6_leN, l6_Nle, l6_ltN, l6_Nlt, l6_eqN, l6_Neq, ↓reduceIte]
  | succ r ih =>
    intro n o bl be l10 l11 l12 hr hn hbl hbe hst
    have hn1 : n < 100 := by omega
    have b1 : 10 * n < 2147483648 := by omega
    have b2 : ¬ 1000 ≤ 10 * n := by omega
    have hsu := su_le h (c := 10 * n) (l := law) hlaw (spl_all (N := N) (hl := none) (n := N 31 27))
    have hlen := spl_len (N := N) (hl := none) (n := N 31 27)
    have h40 := h.1.2.2.1.2.2
    have hsu2 : su N (10 * n) law (spl N none (N 31 27)) < 1000000000000 := by omega
    have hP : ∀ a e, fi_Q lo law (10 * (n + 1)) a e ↔ (fi_Q lo law (10 * n) a e ∨ (a = law ∧ e = 10 * n)) := by
      intro a e
      unfold fi_Q
      omega
    have en : 10 * n + 10 = 10 * (n + 1) := by omega
    have e2 := fun l4 l5 l6 l7 c7 => l_M_fit2 (G := G) h hs (d := d) (law := law) (c := 10 * n) (l1 := some (.int (Int32.ofNat lo))) (l2 := some (.int (Int32.ofNat hi))) (l3 := l3) (l4 := l4) (l5 := l5) (l6 := l6) (l7 := l7) (by omega) hlaw c7 (N 31 27) 0 rfl (Nat.zero_le _)
    simp only [spl_0, su] at e2
    generalize hS : su N (10 * n) law (spl N none (N 31 27)) = s at *
    have hs3 : s < 9223372036854775808 := by omega
    cases o with
    | none =>
      have hst : ∀ l' c', ¬ fi_Q lo law (10 * n) l' c' := hst
      have hf := fi_first (S := fun a e => su N e a (spl N none (N 31 27))) (l1 := law) (c1 := 10 * n) hst
      have hf : fi_ok _ _ (su N (10 * n) law (spl N none (N 31 27))) _ _ := hf
      rw [hS] at hf
      obtain ⟨o', bl', be', m10, m11, m12, w1, w2⟩ := ih (n + 1) (some s) law (10 * n) (some (.long (Int64.ofNat s))) none (some (.int (Int32.ofNat (N 31 27)))) (by omega) (by omega) hlaw (by omega) (fi_eq2 hf hP)
      refine ⟨o', bl', be', m10, m11, m12, ?_, w2⟩
      rw [← w1, r_M_fit_51]
      simp only [r_M_fit_53, r_M_fit_56, r_M_fit_59, r_M_fit_60, r_M_fit_60_k, r_M_fit_62, r_M_fit_63, r_M_fit_63_k, ly_k31, ly_g31_27, ly_g31_38, ly_n49, ly_r49, ly_w49, i3n_0, i3n_1, i3n_10, i3n_1000, l6n_0, l6n_1, l6n_2, l6n_4611686018427387904, am_kf_s, am_km_s, am_kn_s, am_k_v, am_k_0, am_isr_r, am_isr_n, am_isr_v, am_sw_0, am_sw_i, am_sw_l, am_sw_r, am_sw_n, am_sw_v, am_ct_i, am_ct_r, am_ct_n, am_c1_o, am_c1_n, am_c1_i, am_c1_r, am_c1_v, am_mk_1, lc_lt, lc_gt, lc_eq, lc_le, lc_ge, i01_eq, i01_ok, ite_not, true_or, or_true, true_and, and_true, false_or, or_false, false_and, and_false, if_true, if_false, not_true_eq_false, not_false_eq_true, eq_self, Nat.reduceAdd, Nat.reduceLeDiff, Nat.reduceLT, Nat.reduceEqDiff, Nat.reduceMul, Nat.reduceSub, Nat.reduceDiv, Nat.reduceMod, reduceCtorEq, Nat.zero_le, i3_le, i3_lt, i3_eq, i3_eqN, i3_leN, i3_Nle, i3_ltN, i3_NleN, i3_NeqN, i3_Neq, i3_NltN, i3_Nlt, l6_le, l6_lt, l6_eq, l6_leN, l6_Nle, l6_ltN, l6_Nlt, l6_eqN, l6_Neq, fi_v, b1, b2, ↓reduceIte]
      rw [e2 _ _ _ _ am_c1_i]
      simp only [r_M_fit_109, r_M_fit_111, r_M_fit_112, r_M_fit_113, r_M_fit_116, r_M_fit_118, r_M_fit_120, r_M_fit_121, r_M_fit_124, r_M_fit_127, r_M_fit_129, r_M_fit_129_k, r_M_fit_131, r_M_fit_133, r_M_fit_133_k, r_M_fit_135, r_M_fit_137, r_M_fit_137_k, r_M_fit_139, r_M_fit_139_k, r_M_fit_142, ly_k31, ly_g31_27, ly_g31_38, ly_n49, ly_r49, ly_w49, i3n_0, i3n_1, i3n_10, i3n_1000, l6n_0, l6n_1, l6n_2, l6n_4611686018427387904, am_kf_s, am_km_s, am_kn_s, am_k_v, am_k_0, am_isr_r, am_isr_n, am_isr_v, am_sw_0, am_sw_i, am_sw_l, am_sw_r, am_sw_n, am_sw_v, am_ct_i, am_ct_r, am_ct_n, am_c1_o, am_c1_n, am_c1_i, am_c1_r, am_c1_v, am_mk_1, lc_lt, lc_gt, lc_eq, lc_le, lc_ge, i01_eq, i01_ok, ite_not, true_or, or_true, true_and, and_true, false_or, or_false, false_and, and_false, if_true, if_false, not_true_eq_false, not_false_eq_true, eq_self, Nat.reduceAdd, Nat.reduceLeDiff, Nat.reduceLT, Nat.reduceEqDiff, Nat.reduceMul, Nat.reduceSub, Nat.reduceDiv, Nat.reduceMod, reduceCtorEq, Nat.zero_le, i3_le, i3_lt, i3_eq, i3_eqN, i3_leN, i3_Nle, i3_ltN, i3_NleN, i3_NeqN, i3_Neq, i3_NltN, i3_Nlt, l6_le, l6_lt, l6_eq, l6_leN, l6_Nle, l6_ltN, l6_Nlt, l6_eqN, l6_Neq, hs3, c3, i3_add, en, ↓reduceIte]
    | some b =>
      have hst : fi_ok (fun a e => su N e a (spl N none (N 31 27))) (fi_Q lo law (10 * n)) b bl be := hst
      have hSb : su N be bl (spl N none (N 31 27)) = b := hst.2.1
      have hsb := su_le h (c := be) (l := bl) hbl (spl_all (N := N) (hl := none) (n := N 31 27))
      have hb : b < 1000000000000 := by omega
      have hb2 : b < 9223372036854775808 := by omega
      have nb : ¬ b < 0 := Nat.not_lt_zero _
      have hin := hst.1
      unfold fi_Q at hin
      by_cases hle : b ≤ s
      · have hk : b < su N (10 * n) law (spl N none (N 31 27)) ∨ (b = su N (10 * n) law (spl N none (N 31 27)) ∧ (bl < law ∨ (bl = law ∧ be ≤ 10 * n))) := by rw [hS]; omega
        have hn := fi_keep (l1 := law) (c1 := 10 * n) hst hk
        obtain ⟨o', bl', be', m10, m11, m12, w1, w2⟩ := ih (n + 1) (some b) bl be (some (.long (Int64.ofNat s))) none (some (.int (Int32.ofNat (N 31 27)))) (by omega) (by omega) hbl hbe (fi_eq2 hn hP)
        refine ⟨o', bl', be', m10, m11, m12, ?_, w2⟩
        have hle2 : ¬ s < b := by omega
        rw [← w1, r_M_fit_51]
        simp only [r_M_fit_53, r_M_fit_56, r_M_fit_59, r_M_fit_60, r_M_fit_60_k, r_M_fit_62, r_M_fit_63, r_M_fit_63_k, ly_k31, ly_g31_27, ly_g31_38, ly_n49, ly_r49, ly_w49, i3n_0, i3n_1, i3n_10, i3n_1000, l6n_0, l6n_1, l6n_2, l6n_4611686018427387904, am_kf_s, am_km_s, am_kn_s, am_k_v, am_k_0, am_isr_r, am_isr_n, am_isr_v, am_sw_0, am_sw_i, am_sw_l, am_sw_r, am_sw_n, am_sw_v, am_ct_i, am_ct_r, am_ct_n, am_c1_o, am_c1_n, am_c1_i, am_c1_r, am_c1_v, am_mk_1, lc_lt, lc_gt, lc_eq, lc_le, lc_ge, i01_eq, i01_ok, ite_not, true_or, or_true, true_and, and_true, false_or, or_false, false_and, and_false, if_true, if_false, not_true_eq_false, not_false_eq_true, eq_self, Nat.reduceAdd, Nat.reduceLeDiff, Nat.reduceLT, Nat.reduceEqDiff, Nat.reduceMul, Nat.reduceSub, Nat.reduceDiv, Nat.reduceMod, reduceCtorEq, Nat.zero_le, i3_le, i3_lt, i3_eq, i3_eqN, i3_leN, i3_Nle, i3_ltN, i3_NleN, i3_NeqN, i3_Neq, i3_NltN, i3_Nlt, l6_le, l6_lt, l6_eq, l6_leN, l6_Nle, l6_ltN, l6_Nlt, l6_eqN, l6_Neq, fi_v, b1, b2, ↓reduceIte]
        rw [e2 _ _ _ _ am_c1_i]
        simp only [r_M_fit_109, r_M_fit_111, r_M_fit_112, r_M_fit_113, r_M_fit_116, r_M_fit_118, r_M_fit_120, r_M_fit_121, r_M_fit_124, r_M_fit_127, r_M_fit_129, r_M_fit_129_k, r_M_fit_131, r_M_fit_133, r_M_fit_133_k, r_M_fit_135, r_M_fit_137, r_M_fit_137_k, r_M_fit_139, r_M_fit_139_k, r_M_fit_142, ly_k31, ly_g31_27, ly_g31_38, ly_n49, ly_r49, ly_w49, i3n_0, i3n_1, i3n_10, i3n_1000, l6n_0, l6n_1, l6n_2, l6n_4611686018427387904, am_kf_s, am_km_s, am_kn_s, am_k_v, am_k_0, am_isr_r, am_isr_n, am_isr_v, am_sw_0, am_sw_i, am_sw_l, am_sw_r, am_sw_n, am_sw_v, am_ct_i, am_ct_r, am_ct_n, am_c1_o, am_c1_n, am_c1_i, am_c1_r, am_c1_v, am_mk_1, lc_lt, lc_gt, lc_eq, lc_le, lc_ge, i01_eq, i01_ok, ite_not, true_or, or_true, true_and, and_true, false_or, or_false, false_and, and_false, if_true, if_false, not_true_eq_false, not_false_eq_true, eq_self, Nat.reduceAdd, Nat.reduceLeDiff, Nat.reduceLT, Nat.reduceEqDiff, Nat.reduceMul, Nat.reduceSub, Nat.reduceDiv, Nat.reduceMod, reduceCtorEq, Nat.zero_le, i3_le, i3_lt, i3_eq, i3_eqN, i3_leN, i3_Nle, i3_ltN, i3_NleN, i3_NeqN, i3_Neq, i3_NltN, i3_Nlt, l6_le, l6_lt, l6_eq, l6_leN, l6_Nle, l6_ltN, l6_Nlt, l6_eqN, l6_Neq, hs3, hb2, nb, hle2, c3, i3_add, en, ↓reduceIte]
      · have hk : su N (10 * n) law (spl N none (N 31 27)) < b ∨ (su N (10 * n) law (spl N none (N 31 27)) = b ∧ law < bl) := by rw [hS]; omega
        have hn := fi_new (l1 := law) (c1 := 10 * n) hst hk
        have hn : fi_ok _ _ (su N (10 * n) law (spl N none (N 31 27))) _ _ := hn
        rw [hS] at hn
        obtain ⟨o', bl', be', m10, m11, m12, w1, w2⟩ := ih (n + 1) (some s) law (10 * n) (some (.long (Int64.ofNat s))) none (some (.int (Int32.ofNat (N 31 27)))) (by omega) (by omega) hlaw (by omega) (fi_eq2 hn hP)
        refine ⟨o', bl', be', m10, m11, m12, ?_, w2⟩
        have hle2 : s < b := by omega
        rw [← w1, r_M_fit_51]
        simp only [r_M_fit_53, r_M_fit_56, r_M_fit_59, r_M_fit_60, r_M_fit_60_k, r_M_fit_62, r_M_fit_63, r_M_fit_63_k, ly_k31, ly_g31_27, ly_g31_38, ly_n49, ly_r49, ly_w49, i3n_0, i3n_1, i3n_10, i3n_1000, l6n_0, l6n_1, l6n_2, l6n_4611686018427387904, am_kf_s, am_km_s, am_kn_s, am_k_v, am_k_0, am_isr_r, am_isr_n, am_isr_v, am_sw_0, am_sw_i, am_sw_l, am_sw_r, am_sw_n, am_sw_v, am_ct_i, am_ct_r, am_ct_n, am_c1_o, am_c1_n, am_c1_i, am_c1_r, am_c1_v, am_mk_1, lc_lt, lc_gt, lc_eq, lc_le, lc_ge, i01_eq, i01_ok, ite_not, true_or, or_true, true_and, and_true, false_or, or_false, false_and, and_false, if_true, if_false, not_true_eq_false, not_false_eq_true, eq_self, Nat.reduceAdd, Nat.reduceLeDiff, Nat.reduceLT, Nat.reduceEqDiff, Nat.reduceMul, Nat.reduceSub, Nat.reduceDiv, Nat.reduceMod, reduceCtorEq, Nat.zero_le, i3_le, i3_lt, i3_eq, i3_eqN, i3_leN, i3_Nle, i3_ltN, i3_NleN, i3_NeqN, i3_Neq, i3_NltN, i3_Nlt, l6_le, l6_lt, l6_eq, l6_leN, l6_Nle, l6_ltN, l6_Nlt, l6_eqN, l6_Neq, fi_v, b1, b2, ↓reduceIte]
        rw [e2 _ _ _ _ am_c1_i]
        simp only [r_M_fit_109, r_M_fit_111, r_M_fit_112, r_M_fit_113, r_M_fit_116, r_M_fit_118, r_M_fit_120, r_M_fit_121, r_M_fit_124, r_M_fit_127, r_M_fit_129, r_M_fit_129_k, r_M_fit_131, r_M_fit_133, r_M_fit_133_k, r_M_fit_135, r_M_fit_137, r_M_fit_137_k, r_M_fit_139, r_M_fit_139_k, r_M_fit_142, ly_k31, ly_g31_27, ly_g31_38, ly_n49, ly_r49, ly_w49, i3n_0, i3n_1, i3n_10, i3n_1000, l6n_0, l6n_1, l6n_2, l6n_4611686018427387904, am_kf_s, am_km_s, am_kn_s, am_k_v, am_k_0, am_isr_r, am_isr_n, am_isr_v, am_sw_0, am_sw_i, am_sw_l, am_sw_r, am_sw_n, am_sw_v, am_ct_i, am_ct_r, am_ct_n, am_c1_o, am_c1_n, am_c1_i, am_c1_r, am_c1_v, am_mk_1, lc_lt, lc_gt, lc_eq, lc_le, lc_ge, i01_eq, i01_ok, ite_not, true_or, or_true, true_and, and_true, false_or, or_false, false_and, and_false, if_true, if_false, not_true_eq_false, not_false_eq_true, eq_self, Nat.reduceAdd, Nat.reduceLeDiff, Nat.reduceLT, Nat.reduceEqDiff, Nat.reduceMul, Nat.reduceSub, Nat.reduceDiv, Nat.reduceMod, reduceCtorEq, Nat.zero_le, i3_le, i3_lt, i3_eq, i3_eqN, i3_leN, i3_Nle, i3_ltN, i3_NleN, i3_NeqN, i3_Neq, i3_NltN, i3_Nlt, l6_le, l6_lt, l6_eq, l6_leN, l6_Nle, l6_ltN, l6_Nlt, l6_eqN, l6_Neq, hs3, hb2, nb, hle2, c3, i3_add, en, ↓reduceIte]
theorem l_M_fit0 (h : rl G N x Z C R D) (hs : la_ok N C L (N 31 27)) {d lo hi w : Nat} (hlo : lo ≤ hi) (hhi : hi ≤ 999) (hw : w ≤ 2) : ∀ (r q : Nat) (o : Option Nat) (bl be : Nat) (l9 l10 l11 l12 : Option Value), hi + 1 - q = r → lo ≤ q → q ≤ hi + 1 → bl ≤ 999 → be ≤ 999 → (lo < q → ∃ b, o = some b) → fi_st (fun a e => su N e a (spl N none (N 31 27))) (fi_Q lo q 0) o bl be → ∃ (b bl' be' : Nat), am_run G (d + 2) K_M_fit (42, [some (.ref (x + 31)), some (.int (Int32.ofNat lo)), some (.int (Int32.ofNat hi)), some (.int (Int32.ofNat w)), some (.long (fi_v o)), none, some (.int (Int32.ofNat bl)), some (.int (Int32.ofNat be)), some (.int (Int32.ofNat q)), l9, l10, l11, l12], [], am_mk x true Z C L R D) = some (some (.long (Int64.ofNat (fi_a w b bl' be'))), am_mk x true Z C L R D) ∧ fi_ok (fun a e => su N e a (spl N none (N 31 27))) (fi_Q lo (hi + 1) 0) b bl' be' := by
  intro r
  induction r with
  | zero =>
    intro q o bl be l9 l10 l11 l12 hr hq1 hq2 hbl hbe ho hst
    have e : q = hi + 1 := by omega
    subst e
    obtain ⟨b, rfl⟩ := ho (by omega)
    have b1 : bl < 2147483648 := by omega
    have b2 : be < 2147483648 := by omega
    have b3 : hi + 1 < 2147483648 := by omega
    have b4 : hi < 2147483648 := by omega
    have b5 : hi < hi + 1 := by omega
    refine ⟨b, bl, be, ?_, hst⟩
    rw [r_M_fit_42]
    have ww : w = 0 ∨ w = 1 ∨ w = 2 := by omega
    rcases ww with rfl | rfl | rfl
    · simp only [r_M_fit_44, r_M_fit_45, r_M_fit_151, r_M_fit_152, r_M_fit_155, r_M_fit_157, r_M_fit_158, r_M_fit_161, r_M_fit_162, r_M_fit_163, r_M_fit_166, r_M_fit_168, r_M_fit_169, r_M_fit_172, r_M_fit_174, ly_k31, ly_g31_27, ly_g31_38, ly_n49, ly_r49, ly_w49, i3n_0, i3n_1, i3n_10, i3n_1000, l6n_0, l6n_1, l6n_2, l6n_4611686018427387904, am_kf_s, am_km_s, am_kn_s, am_k_v, am_k_0, am_isr_r, am_isr_n, am_isr_v, am_sw_0, am_sw_i, am_sw_l, am_sw_r, am_sw_n, am_sw_v, am_ct_i, am_ct_r, am_ct_n, am_c1_o, am_c1_n, am_c1_i, am_c1_r, am_c1_v, am_mk_1, lc_lt, lc_gt, lc_eq, lc_le, lc_ge, i01_eq, i01_ok, ite_not, true_or, or_true, true_and, and_true, false_or, or_false, false_and, and_false, if_true, if_false, not_true_eq_false, not_false_eq_true, eq_self, Nat.reduceAdd, Nat.reduceLeDiff, Nat.reduceLT, Nat.reduceEqDiff, Nat.reduceMul, Nat.reduceSub, Nat.reduceDiv, Nat.reduceMod, reduceCtorEq, Nat.zero_le, i3_le, i3_lt, i3_eq, i3_eqN, i3_leN, i3_Nle, i3_ltN, i3_NleN, i3_NeqN, i3_Neq, i3_NltN, i3_Nlt, l6_le, l6_lt, l6_eq, l6_leN, l6_Nle, l6_ltN, l6_Nlt, l6_eqN, l6_Neq, fi_v, fi_a, b1, b2, b3, b4, b5, i3_long, ↓reduceIte]
    · simp only [r_M_fit_44, r_M_fit_45, r_M_fit_151, r_M_fit_152, r_M_fit_155, r_M_fit_157, r_M_fit_158, r_M_fit_161, r_M_fit_162, r_M_fit_163, r_M_fit_166, r_M_fit_168, r_M_fit_169, r_M_fit_172, r_M_fit_174, ly_k31, ly_g31_27, ly_g31_38, ly_n49, ly_r49, ly_w49, i3n_0, i3n_1, i3n_10, i3n_1000, l6n_0, l6n_1, l6n_2, l6n_4611686018427387904, am_kf_s, am_km_s, am_kn_s, am_k_v, am_k_0, am_isr_r, am_isr_n, am_isr_v, am_sw_0, am_sw_i, am_sw_l, am_sw_r, am_sw_n, am_sw_v, am_ct_i, am_ct_r, am_ct_n, am_c1_o, am_c1_n, am_c1_i, am_c1_r, am_c1_v, am_mk_1, lc_lt, lc_gt, lc_eq, lc_le, lc_ge, i01_eq, i01_ok, ite_not, true_or, or_true, true_and, and_true, false_or, or_false, false_and, and_false, if_true, if_false, not_true_eq_false, not_false_eq_true, eq_self, Nat.reduceAdd, Nat.reduceLeDiff, Nat.reduceLT, Nat.reduceEqDiff, Nat.reduceMul, Nat.reduceSub, Nat.reduceDiv, Nat.reduceMod, reduceCtorEq, Nat.zero_le, i3_le, i3_lt, i3_eq, i3_eqN, i3_leN, i3_Nle, i3_ltN, i3_NleN, i3_NeqN, i3_Neq, i3_NltN, i3_Nlt, l6_le, l6_lt, l6_eq, l6_leN, l6_Nle, l6_ltN, l6_Nlt, l6_eqN, l6_Neq, fi_v, fi_a, b1, b2, b3, b4, b5, i3_long, ↓reduceIte]
    · simp only [r_M_fit_44, r_M_fit_45, r_M_fit_151, r_M_fit_152, r_M_fit_155, r_M_fit_157, r_M_fit_158, r_M_fit_161, r_M_fit_162, r_M_fit_163, r_M_fit_166, r_M_fit_168, r_M_fit_169, r_M_fit_172, r_M_fit_174, ly_k31, ly_g31_27, ly_g31_38, ly_n49, ly_r49, ly_w49, i3n_0, i3n_1, i3n_10, i3n_1000, l6n_0, l6n_1, l6n_2, l6n_4611686018427387904, am_kf_s, am_km_s, am_kn_s, am_k_v, am_k_0, am_isr_r, am_isr_n, am_isr_v, am_sw_0, am_sw_i, am_sw_l, am_sw_r, am_sw_n, am_sw_v, am_ct_i, am_ct_r, am_ct_n, am_c1_o, am_c1_n, am_c1_i, am_c1_r, am_c1_v, am_mk_1, lc_lt, lc_gt, lc_eq, lc_le, lc_ge, i01_eq, i01_ok, ite_not, true_or, or_true, true_and, and_true, false_or, or_false, false_and, and_false, if_true, if_false, not_true_eq_false, not_false_eq_true, eq_self, Nat.reduceAdd, Nat.reduceLeDiff, Nat.reduceLT, Nat.reduceEqDiff, Nat.reduceMul, Nat.reduceSub, Nat.reduceDiv, Nat.reduceMod, reduceCtorEq, Nat.zero_le, i3_le, i3_lt, i3_eq, i3_eqN, i3_leN, i3_Nle, i3_ltN, i3_NleN, i3_NeqN, i3_Neq, i3_NltN, i3_Nlt, l6_le, l6_lt, l6_eq, l6_leN, l6_Nle, l6_ltN, l6_Nlt, l6_eqN, l6_Neq, fi_v, fi_a, b1, b2, b3, b4, b5, i3_long, ↓reduceIte]
  | succ r ih =>
    intro q o bl be l9 l10 l11 l12 hr hq1 hq2 hbl hbe ho hst
    have hqh : q ≤ hi := by omega
    have b1 : q < 2147483648 := by omega
    have b2 : hi < 2147483648 := by omega
    have b3 : ¬ hi < q := by omega
    obtain ⟨o', bl', be', m10, m11, m12, w1, w2, w3, w4⟩ := l_M_fit1 (G := G) h hs (d := d) (law := q) (lo := lo) (hi := hi) (l3 := some (.int (Int32.ofNat w))) (by omega) hq1 am_c1_i 100 0 o bl be l10 l11 l12 rfl (Nat.zero_le _) hbl hbe hst
    have ho' : ∃ b, o' = some b := by
      cases o' with
      | some b => exact ⟨b, rfl⟩
      | none => exact absurd (show fi_Q lo q 1000 q 0 by unfold fi_Q; omega) (w4 q 0)
    have hst2 : fi_st (fun a e => su N e a (spl N none (N 31 27))) (fi_Q lo (q + 1) 0) o' bl' be' := fi_eq w4 (fun a e => by unfold fi_Q; omega)
    obtain ⟨b, bl2, be2, v1, v2⟩ := ih (q + 1) o' bl' be' (some (.int (Int32.ofNat 1000))) m10 m11 m12 (by omega) (by omega) (by omega) w2 w3 (fun _ => ho') hst2
    refine ⟨b, bl2, be2, ?_, v2⟩
    rw [← v1, r_M_fit_42]
    rw [Nat.mul_zero] at w1
    simp only [r_M_fit_44, r_M_fit_45, r_M_fit_48, r_M_fit_49, r_M_fit_49_k, ly_k31, ly_g31_27, ly_g31_38, ly_n49, ly_r49, ly_w49, i3n_0, i3n_1, i3n_10, i3n_1000, l6n_0, l6n_1, l6n_2, l6n_4611686018427387904, am_kf_s, am_km_s, am_kn_s, am_k_v, am_k_0, am_isr_r, am_isr_n, am_isr_v, am_sw_0, am_sw_i, am_sw_l, am_sw_r, am_sw_n, am_sw_v, am_ct_i, am_ct_r, am_ct_n, am_c1_o, am_c1_n, am_c1_i, am_c1_r, am_c1_v, am_mk_1, lc_lt, lc_gt, lc_eq, lc_le, lc_ge, i01_eq, i01_ok, ite_not, true_or, or_true, true_and, and_true, false_or, or_false, false_and, and_false, if_true, if_false, not_true_eq_false, not_false_eq_true, eq_self, Nat.reduceAdd, Nat.reduceLeDiff, Nat.reduceLT, Nat.reduceEqDiff, Nat.reduceMul, Nat.reduceSub, Nat.reduceDiv, Nat.reduceMod, reduceCtorEq, Nat.zero_le, i3_le, i3_lt, i3_eq, i3_eqN, i3_leN, i3_Nle, i3_ltN, i3_NleN, i3_NeqN, i3_Neq, i3_NltN, i3_Nlt, l6_le, l6_lt, l6_eq, l6_leN, l6_Nle, l6_ltN, l6_Nlt, l6_eqN, l6_Neq, b1, b2, b3, ↓reduceIte]
    rw [w1]
    simp only [r_M_fit_145, r_M_fit_145_k, r_M_fit_148, ly_k31, ly_g31_27, ly_g31_38, ly_n49, ly_r49, ly_w49, i3n_0, i3n_1, i3n_10, i3n_1000, l6n_0, l6n_1, l6n_2, l6n_4611686018427387904, am_kf_s, am_km_s, am_kn_s, am_k_v, am_k_0, am_isr_r, am_isr_n, am_isr_v, am_sw_0, am_sw_i, am_sw_l, am_sw_r, am_sw_n, am_sw_v, am_ct_i, am_ct_r, am_ct_n, am_c1_o, am_c1_n, am_c1_i, am_c1_r, am_c1_v, am_mk_1, lc_lt, lc_gt, lc_eq, lc_le, lc_ge, i01_eq, i01_ok, ite_not, true_or, or_true, true_and, and_true, false_or, or_false, false_and, and_false, if_true, if_false, not_true_eq_false, not_false_eq_true, eq_self, Nat.reduceAdd, Nat.reduceLeDiff, Nat.reduceLT, Nat.reduceEqDiff, Nat.reduceMul, Nat.reduceSub, Nat.reduceDiv, Nat.reduceMod, reduceCtorEq, Nat.zero_le, i3_le, i3_lt, i3_eq, i3_eqN, i3_leN, i3_Nle, i3_ltN, i3_NleN, i3_NeqN, i3_Neq, i3_NltN, i3_Nlt, l6_le, l6_lt, l6_eq, l6_leN, l6_Nle, l6_ltN, l6_Nlt, l6_eqN, l6_Neq, i3_add, ↓reduceIte]
end
