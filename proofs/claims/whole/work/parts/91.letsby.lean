/-! LETS: the reference's loops -/
section
variable {G : Nat → Value} {x : Nat} {N : Nat → Nat → Nat} {Z : ly_Z} {R : Nat → Nat → Option Nat} {D : am_M}
theorem l_M_lets3 {C : Nat → Nat → Int32} {L : Nat → Nat → Int64} (h : rl G N x Z C R D) (hs : la_ok N C L (N 31 27)) {d s many q c : Nat} (hc : c ≤ 999) (hq : q ≤ 999) (hs9 : s ≤ 9999) (hm : many ≤ N 31 27) {l1 l4 l5 : Option Value} : ∀ (r j : Nat), many - j = r → j ≤ many → okb N s (spl N none j) q c = true → ∃ l7, am_run G (d + 2) K_M_letsBy (49, [some (.ref (x + 31)), l1, some (.int (Int32.ofNat s)), some (.int (Int32.ofNat many)), some (.int (Int32.ofNat q)), some (.int (Int32.ofNat c)), some (.int (Int32.ofNat 1)), some (.int (Int32.ofNat j))], [], am_mk x true Z C L R D) = am_run G (d + 2) K_M_letsBy (99, [some (.ref (x + 31)), l1, some (.int (Int32.ofNat s)), some (.int (Int32.ofNat many)), some (.int (Int32.ofNat q)), some (.int (Int32.ofNat c)), some (.int (Int32.ofNat (ib (okb N s (spl N none many) q c)))), some (.int (Int32.ofNat l7))], [], am_mk x true Z C L R D) := by
  have h40 := h.1.2.2.1.2.2
  have b1 : many < 2147483648 := by omega
  have b4 : s < 2147483648 := by omega
  intro r
  induction r with
  | zero =>
    intro j hr hj ho
    have e : j = many := by omega
    subst e
    refine ⟨j, ?_⟩
    rw [r_M_letsBy_49, show ib (okb N s (spl N none j) q c) = 1 by rw [ho]; rfl]
    simp only [r_M_letsBy_51, r_M_letsBy_52, r_M_letsBy_55, r_M_letsBy_57, ly_g31_41, ly_p31_41, ly_g31_42, ly_p31_42, ly_g31_43, ly_p31_43, ly_g31_38, ly_n49, ly_r49, ly_w49, ly_k31, i3n_0, i3n_1, i3n_10, i3n_1000, l6n_0, l6n_1, am_kf_s, am_km_s, am_kn_s, am_k_v, am_k_0, am_isr_r, am_isr_n, am_isr_v, am_sw_0, am_sw_i, am_sw_l, am_sw_r, am_sw_n, am_sw_v, am_ct_i, am_ct_r, am_ct_n, am_c1_o, am_c1_n, am_c1_i, am_c1_r, am_c1_v, am_mk_1, lc_lt, lc_gt, lc_eq, lc_le, lc_ge, i01_eq, i01_ok, ite_not, true_or, or_true, true_and, and_true, false_or, or_false, false_and, and_false, if_true, if_false, not_true_eq_false, not_false_eq_true, eq_self, Nat.reduceAdd, Nat.reduceLeDiff, Nat.reduceLT, Nat.reduceEqDiff, Nat.reduceMul, Nat.reduceSub, Nat.reduceDiv, Nat.reduceMod, reduceCtorEq, Nat.zero_le, i3_le, i3_lt, i3_eq, i3_eqN, i3_leN, i3_Nle, i3_ltN, i3_NleN, i3_NeqN, i3_Neq, i3_NltN, i3_Nlt, l6_le, l6_lt, l6_eq, l6_leN, l6_Nle, l6_ltN, l6_Nlt, l6_eqN, l6_Neq, b1, Nat.le_refl, ↓reduceIte]
  | succ r ih =>
    intro j hr hj ho
    have hjm : j < many := by omega
    have hjn : j < N 31 27 := by omega
    have b2 : j < 2147483648 := by omega
    have b3 : ¬ many ≤ j := by omega
    have j40 : j < 40 := by omega
    have s1 := (hs j hjn).1
    by_cases hv : ve N j = Int32.ofNat 0
    · rw [if_pos hv] at s1
      have hsp : spl N none (j + 1) = spl N none j ++ [j] := by rw [spl_s, if_pos (show spk N none j = true by unfold spk; rw [decide_eq_true hv]; rfl)]
      have b5 : mO N c q j < 9223372036854775808 := by have := mO_le h (c := c) (l := q) hjn hq; omega
      have b6 : s < 9223372036854775808 := by omega
      by_cases hle : mO N c q j ≤ s
      · obtain ⟨l7, w1⟩ := ih (j + 1) (by omega) (by omega) (by rw [hsp, okb_app]; exact ⟨ho, hle⟩)
        refine ⟨l7, ?_⟩
        have b7 : ¬ s < mO N c q j := by omega
        rw [← w1, r_M_letsBy_49]
        simp only [r_M_letsBy_51, r_M_letsBy_52, r_M_letsBy_55, r_M_letsBy_57, r_M_letsBy_60, r_M_letsBy_61, r_M_letsBy_64, r_M_letsBy_66, r_M_letsBy_67, r_M_letsBy_70, r_M_letsBy_71, r_M_letsBy_73, r_M_letsBy_75, r_M_letsBy_77, r_M_letsBy_80, r_M_letsBy_81, r_M_letsBy_82, r_M_letsBy_83, r_M_letsBy_86, r_M_letsBy_87, r_M_letsBy_90, r_M_letsBy_91, r_M_letsBy_91_k, r_M_letsBy_93, r_M_letsBy_93_k, r_M_letsBy_96, ly_g31_41, ly_p31_41, ly_g31_42, ly_p31_42, ly_g31_43, ly_p31_43, ly_g31_38, ly_n49, ly_r49, ly_w49, ly_k31, i3n_0, i3n_1, i3n_10, i3n_1000, l6n_0, l6n_1, am_kf_s, am_km_s, am_kn_s, am_k_v, am_k_0, am_isr_r, am_isr_n, am_isr_v, am_sw_0, am_sw_i, am_sw_l, am_sw_r, am_sw_n, am_sw_v, am_ct_i, am_ct_r, am_ct_n, am_c1_o, am_c1_n, am_c1_i, am_c1_r, am_c1_v, am_mk_1, lc_lt, lc_gt, lc_eq, lc_le, lc_ge, i01_eq, i01_ok, ite_not, true_or, or_true, true_and, and_true, false_or, or_false, false_and, and_false, if_true, if_false, not_true_eq_false, not_false_eq_true, eq_self, Nat.reduceAdd, Nat.reduceLeDiff, Nat.reduceLT, Nat.reduceEqDiff, Nat.reduceMul, Nat.reduceSub, Nat.reduceDiv, Nat.reduceMod, reduceCtorEq, Nat.zero_le, i3_le, i3_lt, i3_eq, i3_eqN, i3_leN, i3_Nle, i3_ltN, i3_NleN, i3_NeqN, i3_Neq, i3_NltN, i3_Nlt, l6_le, l6_lt, l6_eq, l6_leN, l6_Nle, l6_ltN, l6_Nlt, l6_eqN, l6_Neq, b1, b2, b3, b4, b5, b6, b7, hle, j40, s1, x_M_offBy (d := d) h hs hjn hc hq, i3_long, i3_add, Nat.zero_lt_one, ↓reduceIte]
      · have hno : ¬ okb N s (spl N none many) q c = true := by
          rw [okb_iff]
          intro hall
          exact hle (hall j (List.mem_filter.mpr ⟨List.mem_range.mpr hjm, by unfold spk; rw [decide_eq_true hv]; rfl⟩))
        have b7 : s < mO N c q j := by omega
        refine ⟨j + 1, ?_⟩
        rw [show ib (okb N s (spl N none many) q c) = 0 from ib_0.mpr hno, r_M_letsBy_49]
        have b8 : j + 1 < 2147483648 := by omega
        by_cases hend : many ≤ j + 1
        · simp only [r_M_letsBy_51, r_M_letsBy_52, r_M_letsBy_55, r_M_letsBy_57, r_M_letsBy_60, r_M_letsBy_61, r_M_letsBy_64, r_M_letsBy_66, r_M_letsBy_67, r_M_letsBy_70, r_M_letsBy_71, r_M_letsBy_73, r_M_letsBy_75, r_M_letsBy_77, r_M_letsBy_80, r_M_letsBy_81, r_M_letsBy_82, r_M_letsBy_83, r_M_letsBy_86, r_M_letsBy_87, r_M_letsBy_90, r_M_letsBy_91, r_M_letsBy_91_k, r_M_letsBy_93, r_M_letsBy_93_k, r_M_letsBy_96, ly_g31_41, ly_p31_41, ly_g31_42, ly_p31_42, ly_g31_43, ly_p31_43, ly_g31_38, ly_n49, ly_r49, ly_w49, ly_k31, i3n_0, i3n_1, i3n_10, i3n_1000, l6n_0, l6n_1, r_M_letsBy_49, am_kf_s, am_km_s, am_kn_s, am_k_v, am_k_0, am_isr_r, am_isr_n, am_isr_v, am_sw_0, am_sw_i, am_sw_l, am_sw_r, am_sw_n, am_sw_v, am_ct_i, am_ct_r, am_ct_n, am_c1_o, am_c1_n, am_c1_i, am_c1_r, am_c1_v, am_mk_1, lc_lt, lc_gt, lc_eq, lc_le, lc_ge, i01_eq, i01_ok, ite_not, true_or, or_true, true_and, and_true, false_or, or_false, false_and, and_false, if_true, if_false, not_true_eq_false, not_false_eq_true, eq_self, Nat.reduceAdd, Nat.reduceLeDiff, Nat.reduceLT, Nat.reduceEqDiff, Nat.reduceMul, Nat.reduceSub, Nat.reduceDiv, Nat.reduceMod, reduceCtorEq, Nat.zero_le, i3_le, i3_lt, i3_eq, i3_eqN, i3_leN, i3_Nle, i3_ltN, i3_NleN, i3_NeqN, i3_Neq, i3_NltN, i3_Nlt, l6_le, l6_lt, l6_eq, l6_leN, l6_Nle, l6_ltN, l6_Nlt, l6_eqN, l6_Neq, b1, b2, b3, b4, b5, b6, b7, b8, hle, hend, j40, s1, x_M_offBy (d := d) h hs hjn hc hq, i3_long, i3_add, ↓reduceIte]
        · simp only [r_M_letsBy_51, r_M_letsBy_52, r_M_letsBy_55, r_M_letsBy_57, r_M_letsBy_60, r_M_letsBy_61, r_M_letsBy_64, r_M_letsBy_66, r_M_letsBy_67, r_M_letsBy_70, r_M_letsBy_71, r_M_letsBy_73, r_M_letsBy_75, r_M_letsBy_77, r_M_letsBy_80, r_M_letsBy_81, r_M_letsBy_82, r_M_letsBy_83, r_M_letsBy_86, r_M_letsBy_87, r_M_letsBy_90, r_M_letsBy_91, r_M_letsBy_91_k, r_M_letsBy_93, r_M_letsBy_93_k, r_M_letsBy_96, ly_g31_41, ly_p31_41, ly_g31_42, ly_p31_42, ly_g31_43, ly_p31_43, ly_g31_38, ly_n49, ly_r49, ly_w49, ly_k31, i3n_0, i3n_1, i3n_10, i3n_1000, l6n_0, l6n_1, r_M_letsBy_49, am_kf_s, am_km_s, am_kn_s, am_k_v, am_k_0, am_isr_r, am_isr_n, am_isr_v, am_sw_0, am_sw_i, am_sw_l, am_sw_r, am_sw_n, am_sw_v, am_ct_i, am_ct_r, am_ct_n, am_c1_o, am_c1_n, am_c1_i, am_c1_r, am_c1_v, am_mk_1, lc_lt, lc_gt, lc_eq, lc_le, lc_ge, i01_eq, i01_ok, ite_not, true_or, or_true, true_and, and_true, false_or, or_false, false_and, and_false, if_true, if_false, not_true_eq_false, not_false_eq_true, eq_self, Nat.reduceAdd, Nat.reduceLeDiff, Nat.reduceLT, Nat.reduceEqDiff, Nat.reduceMul, Nat.reduceSub, Nat.reduceDiv, Nat.reduceMod, reduceCtorEq, Nat.zero_le, i3_le, i3_lt, i3_eq, i3_eqN, i3_leN, i3_Nle, i3_ltN, i3_NleN, i3_NeqN, i3_Neq, i3_NltN, i3_Nlt, l6_le, l6_lt, l6_eq, l6_leN, l6_Nle, l6_ltN, l6_Nlt, l6_eqN, l6_Neq, b1, b2, b3, b4, b5, b6, b7, b8, hle, hend, j40, s1, x_M_offBy (d := d) h hs hjn hc hq, i3_long, i3_add, ↓reduceIte]
    · rw [if_neg hv] at s1
      have hsp : spl N none (j + 1) = spl N none j := by rw [spl_s, if_neg (show ¬ spk N none j = true by unfold spk; rw [decide_eq_false hv, Bool.false_and]; decide)]
      obtain ⟨l7, w1⟩ := ih (j + 1) (by omega) (by omega) (by rw [hsp]; exact ho)
      refine ⟨l7, ?_⟩
      rw [← w1, r_M_letsBy_49]
      simp only [r_M_letsBy_51, r_M_letsBy_52, r_M_letsBy_55, r_M_letsBy_57, r_M_letsBy_60, r_M_letsBy_61, r_M_letsBy_64, r_M_letsBy_66, r_M_letsBy_67, r_M_letsBy_70, r_M_letsBy_71, r_M_letsBy_73, r_M_letsBy_75, r_M_letsBy_77, r_M_letsBy_80, r_M_letsBy_81, r_M_letsBy_82, r_M_letsBy_83, r_M_letsBy_86, r_M_letsBy_87, r_M_letsBy_90, r_M_letsBy_91, r_M_letsBy_91_k, r_M_letsBy_93, r_M_letsBy_93_k, r_M_letsBy_96, ly_g31_41, ly_p31_41, ly_g31_42, ly_p31_42, ly_g31_43, ly_p31_43, ly_g31_38, ly_n49, ly_r49, ly_w49, ly_k31, i3n_0, i3n_1, i3n_10, i3n_1000, l6n_0, l6n_1, am_kf_s, am_km_s, am_kn_s, am_k_v, am_k_0, am_isr_r, am_isr_n, am_isr_v, am_sw_0, am_sw_i, am_sw_l, am_sw_r, am_sw_n, am_sw_v, am_ct_i, am_ct_r, am_ct_n, am_c1_o, am_c1_n, am_c1_i, am_c1_r, am_c1_v, am_mk_1, lc_lt, lc_gt, lc_eq, lc_le, lc_ge, i01_eq, i01_ok, ite_not, true_or, or_true, true_and, and_true, false_or, or_false, false_and, and_false, if_true, if_false, not_true_eq_false, not_false_eq_true, eq_self, Nat.reduceAdd, Nat.reduceLeDiff, Nat.reduceLT, Nat.reduceEqDiff, Nat.reduceMul, Nat.reduceSub, Nat.reduceDiv, Nat.reduceMod, reduceCtorEq, Nat.zero_le, i3_le, i3_lt, i3_eq, i3_eqN, i3_leN, i3_Nle, i3_ltN, i3_NleN, i3_NeqN, i3_Neq, i3_NltN, i3_Nlt, l6_le, l6_lt, l6_eq, l6_leN, l6_Nle, l6_ltN, l6_Nlt, l6_eqN, l6_Neq, b1, b2, b3, j40, s1, i3_add, Nat.zero_lt_one, ↓reduceIte]
/-- the pairs that let all, LAW by LAW -/
def jQ (N : Nat → Nat → Nat) (s lo q c : Nat) (l : List Nat) : Nat → Nat → Prop := fun a e => fi_Q lo q c a e ∧ okb N s l a e = true
def jg (N : Nat → Nat → Nat) (s q n : Nat) (l : List Nat) : Nat := sm n (fun e => ib (okb N s l q (10 * e)))
def lb_st (N : Nat → Nat → Nat) (C : Nat → Nat → Int32) (s lo q c p : Nat) (l : List Nat) : Prop := C 31 41 = Int32.ofNat p ∧ ∃ o1 o2, C 31 42 = jo o1 ∧ C 31 43 = jo o2 ∧ le_st (jQ N s lo q c l) o1 ∧ ge_st (jQ N s lo q c l) o2
theorem rl_31 {C C' : Nat → Nat → Int32} {R : Nat → Nat → Option Nat} (h : rl G N x Z C R D) (f : ∀ k j, ¬ (k = 31 ∧ 41 ≤ j ∧ j ≤ 43) → C' k j = C k j) : rl G N x Z C' R D := rl_keep h (fun k j q => f k j (fun q2 => q (by unfold rl_scr; omega))) (fun _ _ _ => rfl)
theorem la_31 {C C' : Nat → Nat → Int32} {L : Nat → Nat → Int64} {n : Nat} (h : la_ok N C L n) (f : ∀ k j, ¬ (k = 31 ∧ 41 ≤ j ∧ j ≤ 43) → C' k j = C k j) : la_ok N C' L n := by
  intro i hi
  obtain ⟨a1, a2⟩ := h i hi
  exact ⟨by rw [f _ _ (by omega)]; exact a1, a2⟩
theorem l_M_lets2 {L : Nat → Nat → Int64} {d s many q lo p0 : Nat} (hq : q ≤ 999) (hlo : lo ≤ q) (hs9 : s ≤ 9999) (hm : many ≤ N 31 27) (hp0 : p0 ≤ 100000) {l1 : Option Value} : ∀ (r n : Nat) (C : Nat → Nat → Int32) (l6 l7 : Option Value), 100 - n = r → n ≤ 100 → rl G N x Z C R D → la_ok N C L (N 31 27) → lb_st N C s lo q (10 * n) (p0 + jg N s q n (spl N none many)) (spl N none many) → am_c1 l6 = true → ∃ (C' : Nat → Nat → Int32) (l6' l7' : Option Value), am_run G (d + 2) K_M_letsBy (35, [some (.ref (x + 31)), l1, some (.int (Int32.ofNat s)), some (.int (Int32.ofNat many)), some (.int (Int32.ofNat q)), some (.int (Int32.ofNat (10 * n))), l6, l7], [], am_mk x true Z C L R D) = am_run G (d + 2) K_M_letsBy (175, [some (.ref (x + 31)), l1, some (.int (Int32.ofNat s)), some (.int (Int32.ofNat many)), some (.int (Int32.ofNat q)), some (.int (Int32.ofNat 1000)), l6', l7'], [], am_mk x true Z C' L R D) ∧ am_c1 l6' = true ∧ rl G N x Z C' R D ∧ la_ok N C' L (N 31 27) ∧ lb_st N C' s lo q 1000 (p0 + jg N s q 100 (spl N none many)) (spl N none many) := by
  intro r
  induction r with
  | zero =>
    intro n C l6 l7 hr hn h hs hst c6
    have e : n = 100 := by omega
    subst e
    refine ⟨C, l6, l7, ?_, c6, h, hs, hst⟩
    rw [r_M_letsBy_35]
    simp only [r_M_letsBy_37, r_M_letsBy_40, ly_g31_41, ly_p31_41, ly_g31_42, ly_p31_42, ly_g31_43, ly_p31_43, ly_g31_38, ly_n49, ly_r49, ly_w49, ly_k31, i3n_0, i3n_1, i3n_10, i3n_1000, l6n_0, l6n_1, am_kf_s, am_km_s, am_kn_s, am_k_v, am_k_0, am_isr_r, am_isr_n, am_isr_v, am_sw_0, am_sw_i, am_sw_l, am_sw_r, am_sw_n, am_sw_v, am_ct_i, am_ct_r, am_ct_n, am_c1_o, am_c1_n, am_c1_i, am_c1_r, am_c1_v, am_mk_1, lc_lt, lc_gt, lc_eq, lc_le, lc_ge, i01_eq, i01_ok, ite_not, true_or, or_true, true_and, and_true, false_or, or_false, false_and, and_false, if_true, if_false, not_true_eq_false, not_false_eq_true, eq_self, Nat.reduceAdd, Nat.reduceLeDiff, Nat.reduceLT, Nat.reduceEqDiff, Nat.reduceMul, Nat.reduceSub, Nat.reduceDiv, Nat.reduceMod, reduceCtorEq, Nat.zero_le, i3_le, i3_lt, i3_eq, i3_eqN, i3_leN, i3_Nle, i3_ltN, i3_NleN, i3_NeqN, i3_Neq, i3_NltN, i3_Nlt, l6_le, l6_lt, l6_eq, l6_leN, l6_Nle, l6_ltN, l6_Nlt, l6_eqN, l6_Neq, ↓reduceIte]
  | succ r ih =>
    intro n C l6 l7 hr hn h hs hst c6
    have hn1 : n < 100 := by omega
    have b1 : 10 * n < 2147483648 := by omega
    have b2 : ¬ 1000 ≤ 10 * n := by omega
    obtain ⟨k7, w3⟩ := l_M_lets3 (G := G) h hs (d := d) (q := q) (c := 10 * n) (l1 := l1) (l4 := none) (l5 := none) (by omega) hq hs9 hm many 0 rfl (Nat.zero_le _) okb_nil
    obtain ⟨g1, o1, o2, g2, g3, g4, g5⟩ := hst
    have en : 10 * n + 10 = 10 * (n + 1) := by omega
    have hgs : jg N s q (n + 1) (spl N none many) = jg N s q n (spl N none many) + ib (okb N s (spl N none many) q (10 * n)) := rfl
    have hgl := sm_le (n := n) (f := fun e => ib (okb N s (spl N none many) q (10 * e))) (b := 1) (fun i _ => ib_le)
    have hgl : jg N s q n (spl N none many) ≤ n * 1 := hgl
    generalize hp : p0 + jg N s q n (spl N none many) = p at *
    have lt1 := le_lt (m := 999) g4 (fun q e hq => by have := hq.1; unfold fi_Q at this; omega)
    have lt2 := ge_lt (m := 999) g5 (fun q e hq => by have := hq.1; unfold fi_Q at this; omega)
    by_cases hok : okb N s (spl N none many) q (10 * n) = true
    · have hP : ∀ a e, jQ N s lo q (10 * (n + 1)) (spl N none many) a e ↔ (jQ N s lo q (10 * n) (spl N none many) a e ∨ (a = q ∧ e = 10 * n)) := by
        intro a e
        unfold jQ fi_Q
        constructor
        · rintro ⟨p1, p2⟩
          by_cases he : a = q ∧ e = 10 * n
          · exact Or.inr he
          · exact Or.inl ⟨by omega, p2⟩
        · rintro (⟨p1, p2⟩ | ⟨rfl, rfl⟩)
          · exact ⟨by omega, p2⟩
          · exact ⟨by omega, hok⟩
      have hle1 := le_eq (le_add (q := q) (c := 10 * n) g4) hP
      have hge1 := ge_eq (ge_add (q := q) (c := 10 * n) g5) hP
      rw [show ib (okb N s (spl N none many) q (10 * n)) = 1 by rw [hok]; rfl] at hgs w3
      have fr : ∀ k j, ¬ (k = 31 ∧ 41 ≤ j ∧ j ≤ 43) → ux (ux (ux C 31 41 (Int32.ofNat (p + 1))) 31 42 (Int32.ofNat (jmin o1 (10 * n)))) 31 43 (Int32.ofNat (jmax o2 (10 * n))) k j = C k j := fun k j q => by rw [ux_ne (by omega), ux_ne (by omega), ux_ne (by omega)]
      obtain ⟨C', l6', l7', w1, w2⟩ := ih (n + 1) (ux (ux (ux C 31 41 (Int32.ofNat (p + 1))) 31 42 (Int32.ofNat (jmin o1 (10 * n)))) 31 43 (Int32.ofNat (jmax o2 (10 * n)))) (some (.int (Int32.ofNat 1))) (some (.int (Int32.ofNat k7))) (by omega) (by omega) (rl_31 h fr) (la_31 hs fr) ⟨by rw [ux_ne (by omega), ux_ne (by omega), ux_at, hgs]; congr 1; omega, _, _, by rw [ux_ne (by omega), ux_at]; rfl, by rw [ux_at]; rfl, hle1, hge1⟩ am_c1_i
      refine ⟨C', l6', l7', ?_, w2⟩
      rw [← w1, r_M_letsBy_35]
      simp only [r_M_letsBy_37, r_M_letsBy_40, r_M_letsBy_43, r_M_letsBy_44, r_M_letsBy_44_k, r_M_letsBy_46, r_M_letsBy_47, r_M_letsBy_47_k, ly_g31_41, ly_p31_41, ly_g31_42, ly_p31_42, ly_g31_43, ly_p31_43, ly_g31_38, ly_n49, ly_r49, ly_w49, ly_k31, i3n_0, i3n_1, i3n_10, i3n_1000, l6n_0, l6n_1, am_kf_s, am_km_s, am_kn_s, am_k_v, am_k_0, am_isr_r, am_isr_n, am_isr_v, am_sw_0, am_sw_i, am_sw_l, am_sw_r, am_sw_n, am_sw_v, am_ct_i, am_ct_r, am_ct_n, am_c1_o, am_c1_n, am_c1_i, am_c1_r, am_c1_v, am_mk_1, lc_lt, lc_gt, lc_eq, lc_le, lc_ge, i01_eq, i01_ok, ite_not, true_or, or_true, true_and, and_true, false_or, or_false, false_and, and_false, if_true, if_false, not_true_eq_false, not_false_eq_true, eq_self, Nat.reduceAdd, Nat.reduceLeDiff, Nat.reduceLT, Nat.reduceEqDiff, Nat.reduceMul, Nat.reduceSub, Nat.reduceDiv, Nat.reduceMod, reduceCtorEq, Nat.zero_le, i3_le, i3_lt, i3_eq, i3_eqN, i3_leN, i3_Nle, i3_ltN, i3_NleN, i3_NeqN, i3_Neq, i3_NltN, i3_Nlt, l6_le, l6_lt, l6_eq, l6_leN, l6_Nle, l6_ltN, l6_Nlt, l6_eqN, l6_Neq, b1, b2, c6, ↓reduceIte]
      rw [w3]
      cases o1 with
      | none =>
        have g2 : C 31 42 = -Int32.ofNat 1 := g2
        cases o2 with
        | none =>
          have g3 : C 31 43 = -Int32.ofNat 1 := g3
          simp only [r_M_letsBy_99, r_M_letsBy_101, r_M_letsBy_104, r_M_letsBy_107, r_M_letsBy_108, r_M_letsBy_109, r_M_letsBy_112, r_M_letsBy_113, r_M_letsBy_114, r_M_letsBy_117, r_M_letsBy_118, r_M_letsBy_119, r_M_letsBy_122, r_M_letsBy_123, r_M_letsBy_126, r_M_letsBy_128, r_M_letsBy_129, r_M_letsBy_132, r_M_letsBy_135, r_M_letsBy_137, r_M_letsBy_140, r_M_letsBy_141, r_M_letsBy_144, r_M_letsBy_147, r_M_letsBy_148, r_M_letsBy_150, r_M_letsBy_151, r_M_letsBy_154, r_M_letsBy_157, r_M_letsBy_159, r_M_letsBy_162, r_M_letsBy_163, r_M_letsBy_166, r_M_letsBy_169, r_M_letsBy_169_k, r_M_letsBy_172, ly_g31_41, ly_p31_41, ly_g31_42, ly_p31_42, ly_g31_43, ly_p31_43, ly_g31_38, ly_n49, ly_r49, ly_w49, ly_k31, i3n_0, i3n_1, i3n_10, i3n_1000, l6n_0, l6n_1, am_kf_s, am_km_s, am_kn_s, am_k_v, am_k_0, am_isr_r, am_isr_n, am_isr_v, am_sw_0, am_sw_i, am_sw_l, am_sw_r, am_sw_n, am_sw_v, am_ct_i, am_ct_r, am_ct_n, am_c1_o, am_c1_n, am_c1_i, am_c1_r, am_c1_v, am_mk_1, lc_lt, lc_gt, lc_eq, lc_le, lc_ge, i01_eq, i01_ok, ite_not, true_or, or_true, true_and, and_true, false_or, or_false, false_and, and_false, if_true, if_false, not_true_eq_false, not_false_eq_true, eq_self, Nat.reduceAdd, Nat.reduceLeDiff, Nat.reduceLT, Nat.reduceEqDiff, Nat.reduceMul, Nat.reduceSub, Nat.reduceDiv, Nat.reduceMod, reduceCtorEq, Nat.zero_le, i3_le, i3_lt, i3_eq, i3_eqN, i3_leN, i3_Nle, i3_ltN, i3_NleN, i3_NeqN, i3_Neq, i3_NltN, i3_Nlt, l6_le, l6_lt, l6_eq, l6_leN, l6_Nle, l6_ltN, l6_Nlt, l6_eqN, l6_Neq, b1, ux_eq, g1, g2, g3, jmin, jmax, en, i3_add, Nat.zero_lt_one, ↓reduceIte]
        | some e2 =>
          have g3 : C 31 43 = Int32.ofNat e2 := g3
          have be2 : e2 < 2147483648 := by have := lt2 e2 rfl; omega
          by_cases h2 : e2 < 10 * n
          · have h2' : ¬ 10 * n ≤ e2 := by omega
            simp only [r_M_letsBy_99, r_M_letsBy_101, r_M_letsBy_104, r_M_letsBy_107, r_M_letsBy_108, r_M_letsBy_109, r_M_letsBy_112, r_M_letsBy_113, r_M_letsBy_114, r_M_letsBy_117, r_M_letsBy_118, r_M_letsBy_119, r_M_letsBy_122, r_M_letsBy_123, r_M_letsBy_126, r_M_letsBy_128, r_M_letsBy_129, r_M_letsBy_132, r_M_letsBy_135, r_M_letsBy_137, r_M_letsBy_140, r_M_letsBy_141, r_M_letsBy_144, r_M_letsBy_147, r_M_letsBy_148, r_M_letsBy_150, r_M_letsBy_151, r_M_letsBy_154, r_M_letsBy_157, r_M_letsBy_159, r_M_letsBy_162, r_M_letsBy_163, r_M_letsBy_166, r_M_letsBy_169, r_M_letsBy_169_k, r_M_letsBy_172, ly_g31_41, ly_p31_41, ly_g31_42, ly_p31_42, ly_g31_43, ly_p31_43, ly_g31_38, ly_n49, ly_r49, ly_w49, ly_k31, i3n_0, i3n_1, i3n_10, i3n_1000, l6n_0, l6n_1, am_kf_s, am_km_s, am_kn_s, am_k_v, am_k_0, am_isr_r, am_isr_n, am_isr_v, am_sw_0, am_sw_i, am_sw_l, am_sw_r, am_sw_n, am_sw_v, am_ct_i, am_ct_r, am_ct_n, am_c1_o, am_c1_n, am_c1_i, am_c1_r, am_c1_v, am_mk_1, lc_lt, lc_gt, lc_eq, lc_le, lc_ge, i01_eq, i01_ok, ite_not, true_or, or_true, true_and, and_true, false_or, or_false, false_and, and_false, if_true, if_false, not_true_eq_false, not_false_eq_true, eq_self, Nat.reduceAdd, Nat.reduceLeDiff, Nat.reduceLT, Nat.reduceEqDiff, Nat.reduceMul, Nat.reduceSub, Nat.reduceDiv, Nat.reduceMod, reduceCtorEq, Nat.zero_le, i3_le, i3_lt, i3_eq, i3_eqN, i3_leN, i3_Nle, i3_ltN, i3_NleN, i3_NeqN, i3_Neq, i3_NltN, i3_Nlt, l6_le, l6_lt, l6_eq, l6_leN, l6_Nle, l6_ltN, l6_Nlt, l6_eqN, l6_Neq, b1, be2, ux_eq, g1, g2, g3, jmin, jmax, h2, h2', en, i3_add, Nat.zero_lt_one, ↓reduceIte]
          · have h2' : 10 * n ≤ e2 := by omega
            simp only [r_M_letsBy_99, r_M_letsBy_101, r_M_letsBy_104, r_M_letsBy_107, r_M_letsBy_108, r_M_letsBy_109, r_M_letsBy_112, r_M_letsBy_113, r_M_letsBy_114, r_M_letsBy_117, r_M_letsBy_118, r_M_letsBy_119, r_M_letsBy_122, r_M_letsBy_123, r_M_letsBy_126, r_M_letsBy_128, r_M_letsBy_129, r_M_letsBy_132, r_M_letsBy_135, r_M_letsBy_137, r_M_letsBy_140, r_M_letsBy_141, r_M_letsBy_144, r_M_letsBy_147, r_M_letsBy_148, r_M_letsBy_150, r_M_letsBy_151, r_M_letsBy_154, r_M_letsBy_157, r_M_letsBy_159, r_M_letsBy_162, r_M_letsBy_163, r_M_letsBy_166, r_M_letsBy_169, r_M_letsBy_169_k, r_M_letsBy_172, ly_g31_41, ly_p31_41, ly_g31_42, ly_p31_42, ly_g31_43, ly_p31_43, ly_g31_38, ly_n49, ly_r49, ly_w49, ly_k31, i3n_0, i3n_1, i3n_10, i3n_1000, l6n_0, l6n_1, am_kf_s, am_km_s, am_kn_s, am_k_v, am_k_0, am_isr_r, am_isr_n, am_isr_v, am_sw_0, am_sw_i, am_sw_l, am_sw_r, am_sw_n, am_sw_v, am_ct_i, am_ct_r, am_ct_n, am_c1_o, am_c1_n, am_c1_i, am_c1_r, am_c1_v, am_mk_1, lc_lt, lc_gt, lc_eq, lc_le, lc_ge, i01_eq, i01_ok, ite_not, true_or, or_true, true_and, and_true, false_or, or_false, false_and, and_false, if_true, if_false, not_true_eq_false, not_false_eq_true, eq_self, Nat.reduceAdd, Nat.reduceLeDiff, Nat.reduceLT, Nat.reduceEqDiff, Nat.reduceMul, Nat.reduceSub, Nat.reduceDiv, Nat.reduceMod, reduceCtorEq, Nat.zero_le, i3_le, i3_lt, i3_eq, i3_eqN, i3_leN, i3_Nle, i3_ltN, i3_NleN, i3_NeqN, i3_Neq, i3_NltN, i3_Nlt, l6_le, l6_lt, l6_eq, l6_leN, l6_Nle, l6_ltN, l6_Nlt, l6_eqN, l6_Neq, b1, be2, ux_eq, g1, g2, g3, jmin, jmax, h2, h2', en, i3_add, Nat.zero_lt_one, ↓reduceIte]
      | some e1 =>
        have g2 : C 31 42 = Int32.ofNat e1 := g2
        have be1 : e1 < 2147483648 := by have := lt1 e1 rfl; omega
        by_cases h1 : 10 * n < e1
        · have h1' : ¬ e1 ≤ 10 * n := by omega
          cases o2 with
          | none =>
            have g3 : C 31 43 = -Int32.ofNat 1 := g3
            simp only [r_M_letsBy_99, r_M_letsBy_101, r_M_letsBy_104, r_M_letsBy_107, r_M_letsBy_108, r_M_letsBy_109, r_M_letsBy_112, r_M_letsBy_113, r_M_letsBy_114, r_M_letsBy_117, r_M_letsBy_118, r_M_letsBy_119, r_M_letsBy_122, r_M_letsBy_123, r_M_letsBy_126, r_M_letsBy_128, r_M_letsBy_129, r_M_letsBy_132, r_M_letsBy_135, r_M_letsBy_137, r_M_letsBy_140, r_M_letsBy_141, r_M_letsBy_144, r_M_letsBy_147, r_M_letsBy_148, r_M_letsBy_150, r_M_letsBy_151, r_M_letsBy_154, r_M_letsBy_157, r_M_letsBy_159, r_M_letsBy_162, r_M_letsBy_163, r_M_letsBy_166, r_M_letsBy_169, r_M_letsBy_169_k, r_M_letsBy_172, ly_g31_41, ly_p31_41, ly_g31_42, ly_p31_42, ly_g31_43, ly_p31_43, ly_g31_38, ly_n49, ly_r49, ly_w49, ly_k31, i3n_0, i3n_1, i3n_10, i3n_1000, l6n_0, l6n_1, am_kf_s, am_km_s, am_kn_s, am_k_v, am_k_0, am_isr_r, am_isr_n, am_isr_v, am_sw_0, am_sw_i, am_sw_l, am_sw_r, am_sw_n, am_sw_v, am_ct_i, am_ct_r, am_ct_n, am_c1_o, am_c1_n, am_c1_i, am_c1_r, am_c1_v, am_mk_1, lc_lt, lc_gt, lc_eq, lc_le, lc_ge, i01_eq, i01_ok, ite_not, true_or, or_true, true_and, and_true, false_or, or_false, false_and, and_false, if_true, if_false, not_true_eq_false, not_false_eq_true, eq_self, Nat.reduceAdd, Nat.reduceLeDiff, Nat.reduceLT, Nat.reduceEqDiff, Nat.reduceMul, Nat.reduceSub, Nat.reduceDiv, Nat.reduceMod, reduceCtorEq, Nat.zero_le, i3_le, i3_lt, i3_eq, i3_eqN, i3_leN, i3_Nle, i3_ltN, i3_NleN, i3_NeqN, i3_Neq, i3_NltN, i3_Nlt, l6_le, l6_lt, l6_eq, l6_leN, l6_Nle, l6_ltN, l6_Nlt, l6_eqN, l6_Neq, b1, be1, ux_eq, g1, g2, g3, jmin, jmax, h1, h1', en, i3_add, Nat.zero_lt_one, ↓reduceIte]
          | some e2 =>
            have g3 : C 31 43 = Int32.ofNat e2 := g3
            have be2 : e2 < 2147483648 := by have := lt2 e2 rfl; omega
            by_cases h2 : e2 < 10 * n
            · have h2' : ¬ 10 * n ≤ e2 := by omega
              simp only [r_M_letsBy_99, r_M_letsBy_101, r_M_letsBy_104, r_M_letsBy_107, r_M_letsBy_108, r_M_letsBy_109, r_M_letsBy_112, r_M_letsBy_113, r_M_letsBy_114, r_M_letsBy_117, r_M_letsBy_118, r_M_letsBy_119, r_M_letsBy_122, r_M_letsBy_123, r_M_letsBy_126, r_M_letsBy_128, r_M_letsBy_129, r_M_letsBy_132, r_M_letsBy_135, r_M_letsBy_137, r_M_letsBy_140, r_M_letsBy_141, r_M_letsBy_144, r_M_letsBy_147, r_M_letsBy_148, r_M_letsBy_150, r_M_letsBy_151, r_M_letsBy_154, r_M_letsBy_157, r_M_letsBy_159, r_M_letsBy_162, r_M_letsBy_163, r_M_letsBy_166, r_M_letsBy_169, r_M_letsBy_169_k, r_M_letsBy_172, ly_g31_41, ly_p31_41, ly_g31_42, ly_p31_42, ly_g31_43, ly_p31_43, ly_g31_38, ly_n49, ly_r49, ly_w49, ly_k31, i3n_0, i3n_1, i3n_10, i3n_1000, l6n_0, l6n_1, am_kf_s, am_km_s, am_kn_s, am_k_v, am_k_0, am_isr_r, am_isr_n, am_isr_v, am_sw_0, am_sw_i, am_sw_l, am_sw_r, am_sw_n, am_sw_v, am_ct_i, am_ct_r, am_ct_n, am_c1_o, am_c1_n, am_c1_i, am_c1_r, am_c1_v, am_mk_1, lc_lt, lc_gt, lc_eq, lc_le, lc_ge, i01_eq, i01_ok, ite_not, true_or, or_true, true_and, and_true, false_or, or_false, false_and, and_false, if_true, if_false, not_true_eq_false, not_false_eq_true, eq_self, Nat.reduceAdd, Nat.reduceLeDiff, Nat.reduceLT, Nat.reduceEqDiff, Nat.reduceMul, Nat.reduceSub, Nat.reduceDiv, Nat.reduceMod, reduceCtorEq, Nat.zero_le, i3_le, i3_lt, i3_eq, i3_eqN, i3_leN, i3_Nle, i3_ltN, i3_NleN, i3_NeqN, i3_Neq, i3_NltN, i3_Nlt, l6_le, l6_lt, l6_eq, l6_leN, l6_Nle, l6_ltN, l6_Nlt, l6_eqN, l6_Neq, b1, be1, be2, ux_eq, g1, g2, g3, jmin, jmax, h1, h1', h2, h2', en, i3_add, Nat.zero_lt_one, ↓reduceIte]
            · have h2' : 10 * n ≤ e2 := by omega
              simp only [r_M_letsBy_99, r_M_letsBy_101, r_M_letsBy_104, r_M_letsBy_107, r_M_letsBy_108, r_M_letsBy_109, r_M_letsBy_112, r_M_letsBy_113, r_M_letsBy_114, r_M_letsBy_117, r_M_letsBy_118, r_M_letsBy_119, r_M_letsBy_122, r_M_letsBy_123, r_M_letsBy_126, r_M_letsBy_128, r_M_letsBy_129, r_M_letsBy_132, r_M_letsBy_135, r_M_letsBy_137, r_M_letsBy_140, r_M_letsBy_141, r_M_letsBy_144, r_M_letsBy_147, r_M_letsBy_148, r_M_letsBy_150, r_M_letsBy_151, r_M_letsBy_154, r_M_letsBy_157, r_M_letsBy_159, r_M_letsBy_162, r_M_letsBy_163, r_M_letsBy_166, r_M_letsBy_169, r_M_letsBy_169_k, r_M_letsBy_172, ly_g31_41, ly_p31_41, ly_g31_42, ly_p31_42, ly_g31_43, ly_p31_43, ly_g31_38, ly_n49, ly_r49, ly_w49, ly_k31, i3n_0, i3n_1, i3n_10, i3n_1000, l6n_0, l6n_1, am_kf_s, am_km_s, am_kn_s, am_k_v, am_k_0, am_isr_r, am_isr_n, am_isr_v, am_sw_0, am_sw_i, am_sw_l, am_sw_r, am_sw_n, am_sw_v, am_ct_i, am_ct_r, am_ct_n, am_c1_o, am_c1_n, am_c1_i, am_c1_r, am_c1_v, am_mk_1, lc_lt, lc_gt, lc_eq, lc_le, lc_ge, i01_eq, i01_ok, ite_not, true_or, or_true, true_and, and_true, false_or, or_false, false_and, and_false, if_true, if_false, not_true_eq_false, not_false_eq_true, eq_self, Nat.reduceAdd, Nat.reduceLeDiff, Nat.reduceLT, Nat.reduceEqDiff, Nat.reduceMul, Nat.reduceSub, Nat.reduceDiv, Nat.reduceMod, reduceCtorEq, Nat.zero_le, i3_le, i3_lt, i3_eq, i3_eqN, i3_leN, i3_Nle, i3_ltN, i3_NleN, i3_NeqN, i3_Neq, i3_NltN, i3_Nlt, l6_le, l6_lt, l6_eq, l6_leN, l6_Nle, l6_ltN, l6_Nlt, l6_eqN, l6_Neq, b1, be1, be2, ux_eq, g1, g2, g3, jmin, jmax, h1, h1', h2, h2', en, i3_add, Nat.zero_lt_one, ↓reduceIte]
        · have h1' : e1 ≤ 10 * n := by omega
          cases o2 with
          | none =>
            have g3 : C 31 43 = -Int32.ofNat 1 := g3
            simp only [r_M_letsBy_99, r_M_letsBy_101, r_M_letsBy_104, r_M_letsBy_107, r_M_letsBy_108, r_M_letsBy_109, r_M_letsBy_112, r_M_letsBy_113, r_M_letsBy_114, r_M_letsBy_117, r_M_letsBy_118, r_M_letsBy_119, r_M_letsBy_122, r_M_letsBy_123, r_M_letsBy_126, r_M_letsBy_128, r_M_letsBy_129, r_M_letsBy_132, r_M_letsBy_135, r_M_letsBy_137, r_M_letsBy_140, r_M_letsBy_141, r_M_letsBy_144, r_M_letsBy_147, r_M_letsBy_148, r_M_letsBy_150, r_M_letsBy_151, r_M_letsBy_154, r_M_letsBy_157, r_M_letsBy_159, r_M_letsBy_162, r_M_letsBy_163, r_M_letsBy_166, r_M_letsBy_169, r_M_letsBy_169_k, r_M_letsBy_172, ly_g31_41, ly_p31_41, ly_g31_42, ly_p31_42, ly_g31_43, ly_p31_43, ly_g31_38, ly_n49, ly_r49, ly_w49, ly_k31, i3n_0, i3n_1, i3n_10, i3n_1000, l6n_0, l6n_1, am_kf_s, am_km_s, am_kn_s, am_k_v, am_k_0, am_isr_r, am_isr_n, am_isr_v, am_sw_0, am_sw_i, am_sw_l, am_sw_r, am_sw_n, am_sw_v, am_ct_i, am_ct_r, am_ct_n, am_c1_o, am_c1_n, am_c1_i, am_c1_r, am_c1_v, am_mk_1, lc_lt, lc_gt, lc_eq, lc_le, lc_ge, i01_eq, i01_ok, ite_not, true_or, or_true, true_and, and_true, false_or, or_false, false_and, and_false, if_true, if_false, not_true_eq_false, not_false_eq_true, eq_self, Nat.reduceAdd, Nat.reduceLeDiff, Nat.reduceLT, Nat.reduceEqDiff, Nat.reduceMul, Nat.reduceSub, Nat.reduceDiv, Nat.reduceMod, reduceCtorEq, Nat.zero_le, i3_le, i3_lt, i3_eq, i3_eqN, i3_leN, i3_Nle, i3_ltN, i3_NleN, i3_NeqN, i3_Neq, i3_NltN, i3_Nlt, l6_le, l6_lt, l6_eq, l6_leN, l6_Nle, l6_ltN, l6_Nlt, l6_eqN, l6_Neq, b1, be1, ux_eq, g1, g2, g3, jmin, jmax, h1, h1', en, i3_add, Nat.zero_lt_one, ↓reduceIte]
          | some e2 =>
            have g3 : C 31 43 = Int32.ofNat e2 := g3
            have be2 : e2 < 2147483648 := by have := lt2 e2 rfl; omega
            by_cases h2 : e2 < 10 * n
            · have h2' : ¬ 10 * n ≤ e2 := by omega
              simp only [r_M_letsBy_99, r_M_letsBy_101, r_M_letsBy_104, r_M_letsBy_107, r_M_letsBy_108, r_M_letsBy_109, r_M_letsBy_112, r_M_letsBy_113, r_M_letsBy_114, r_M_letsBy_117, r_M_letsBy_118, r_M_letsBy_119, r_M_letsBy_122, r_M_letsBy_123, r_M_letsBy_126, r_M_letsBy_128, r_M_letsBy_129, r_M_letsBy_132, r_M_letsBy_135, r_M_letsBy_137, r_M_letsBy_140, r_M_letsBy_141, r_M_letsBy_144, r_M_letsBy_147, r_M_letsBy_148, r_M_letsBy_150, r_M_letsBy_151, r_M_letsBy_154, r_M_letsBy_157, r_M_letsBy_159, r_M_letsBy_162, r_M_letsBy_163, r_M_letsBy_166, r_M_letsBy_169, r_M_letsBy_169_k, r_M_letsBy_172, ly_g31_41, ly_p31_41, ly_g31_42, ly_p31_42, ly_g31_43, ly_p31_43, ly_g31_38, ly_n49, ly_r49, ly_w49, ly_k31, i3n_0, i3n_1, i3n_10, i3n_1000, l6n_0, l6n_1, am_kf_s, am_km_s, am_kn_s, am_k_v, am_k_0, am_isr_r, am_isr_n, am_isr_v, am_sw_0, am_sw_i, am_sw_l, am_sw_r, am_sw_n, am_sw_v, am_ct_i, am_ct_r, am_ct_n, am_c1_o, am_c1_n, am_c1_i, am_c1_r, am_c1_v, am_mk_1, lc_lt, lc_gt, lc_eq, lc_le, lc_ge, i01_eq, i01_ok, ite_not, true_or, or_true, true_and, and_true, false_or, or_false, false_and, and_false, if_true, if_false, not_true_eq_false, not_false_eq_true, eq_self, Nat.reduceAdd, Nat.reduceLeDiff, Nat.reduceLT, Nat.reduceEqDiff, Nat.reduceMul, Nat.reduceSub, Nat.reduceDiv, Nat.reduceMod, reduceCtorEq, Nat.zero_le, i3_le, i3_lt, i3_eq, i3_eqN, i3_leN, i3_Nle, i3_ltN, i3_NleN, i3_NeqN, i3_Neq, i3_NltN, i3_Nlt, l6_le, l6_lt, l6_eq, l6_leN, l6_Nle, l6_ltN, l6_Nlt, l6_eqN, l6_Neq, b1, be1, be2, ux_eq, g1, g2, g3, jmin, jmax, h1, h1', h2, h2', en, i3_add, Nat.zero_lt_one, ↓reduceIte]
            · have h2' : 10 * n ≤ e2 := by omega
              simp only [r_M_letsBy_99, r_M_letsBy_101, r_M_letsBy_104, r_M_letsBy_107, r_M_letsBy_108, r_M_letsBy_109, r_M_letsBy_112, r_M_letsBy_113, r_M_letsBy_114, r_M_letsBy_117, r_M_letsBy_118, r_M_letsBy_119, r_M_letsBy_122, r_M_letsBy_123, r_M_letsBy_126, r_M_letsBy_128, r_M_letsBy_129, r_M_letsBy_132, r_M_letsBy_135, r_M_letsBy_137, r_M_letsBy_140, r_M_letsBy_141, r_M_letsBy_144, r_M_letsBy_147, r_M_letsBy_148, r_M_letsBy_150, r_M_letsBy_151, r_M_letsBy_154, r_M_letsBy_157, r_M_letsBy_159, r_M_letsBy_162, r_M_letsBy_163, r_M_letsBy_166, r_M_letsBy_169, r_M_letsBy_169_k, r_M_letsBy_172, ly_g31_41, ly_p31_41, ly_g31_42, ly_p31_42, ly_g31_43, ly_p31_43, ly_g31_38, ly_n49, ly_r49, ly_w49, ly_k31, i3n_0, i3n_1, i3n_10, i3n_1000, l6n_0, l6n_1, am_kf_s, am_km_s, am_kn_s, am_k_v, am_k_0, am_isr_r, am_isr_n, am_isr_v, am_sw_0, am_sw_i, am_sw_l, am_sw_r, am_sw_n, am_sw_v, am_ct_i, am_ct_r, am_ct_n, am_c1_o, am_c1_n, am_c1_i, am_c1_r, am_c1_v, am_mk_1, lc_lt, lc_gt, lc_eq, lc_le, lc_ge, i01_eq, i01_ok, ite_not, true_or, or_true, true_and, and_true, false_or, or_false, false_and, and_false, if_true, if_false, not_true_eq_false, not_false_eq_true, eq_self, Nat.reduceAdd, Nat.reduceLeDiff, Nat.reduceLT, Nat.reduceEqDiff, Nat.reduceMul, Nat.reduceSub, Nat.reduceDiv, Nat.reduceMod, reduceCtorEq, Nat.zero_le, i3_le, i3_lt, i3_eq, i3_eqN, i3_leN, i3_Nle, i3_ltN, i3_NleN, i3_NeqN, i3_Neq, i3_NltN, i3_Nlt, l6_le, l6_lt, l6_eq, l6_leN, l6_Nle, l6_ltN, l6_Nlt, l6_eqN, l6_Neq, b1, be1, be2, ux_eq, g1, g2, g3, jmin, jmax, h1, h1', h2, h2', en, i3_add, Nat.zero_lt_one, ↓reduceIte]
    · have hP : ∀ a e, jQ N s lo q (10 * (n + 1)) (spl N none many) a e ↔ jQ N s lo q (10 * n) (spl N none many) a e := by
        intro a e
        unfold jQ fi_Q
        constructor
        · rintro ⟨p1, p2⟩
          by_cases he : a = q ∧ e = 10 * n
          · obtain ⟨rfl, rfl⟩ := he; exact absurd p2 hok
          · exact ⟨by omega, p2⟩
        · rintro ⟨p1, p2⟩
          exact ⟨by omega, p2⟩
      rw [show ib (okb N s (spl N none many) q (10 * n)) = 0 from ib_0.mpr hok] at hgs w3
      obtain ⟨C', l6', l7', w1, w2⟩ := ih (n + 1) C (some (.int (Int32.ofNat 0))) (some (.int (Int32.ofNat k7))) (by omega) (by omega) h hs ⟨by rw [g1, hgs]; congr 1; omega, o1, o2, g2, g3, le_eq g4 hP, ge_eq g5 hP⟩ am_c1_i
      refine ⟨C', l6', l7', ?_, w2⟩
      rw [← w1, r_M_letsBy_35]
      simp only [r_M_letsBy_37, r_M_letsBy_40, r_M_letsBy_43, r_M_letsBy_44, r_M_letsBy_44_k, r_M_letsBy_46, r_M_letsBy_47, r_M_letsBy_47_k, ly_g31_41, ly_p31_41, ly_g31_42, ly_p31_42, ly_g31_43, ly_p31_43, ly_g31_38, ly_n49, ly_r49, ly_w49, ly_k31, i3n_0, i3n_1, i3n_10, i3n_1000, l6n_0, l6n_1, am_kf_s, am_km_s, am_kn_s, am_k_v, am_k_0, am_isr_r, am_isr_n, am_isr_v, am_sw_0, am_sw_i, am_sw_l, am_sw_r, am_sw_n, am_sw_v, am_ct_i, am_ct_r, am_ct_n, am_c1_o, am_c1_n, am_c1_i, am_c1_r, am_c1_v, am_mk_1, lc_lt, lc_gt, lc_eq, lc_le, lc_ge, i01_eq, i01_ok, ite_not, true_or, or_true, true_and, and_true, false_or, or_false, false_and, and_false, if_true, if_false, not_true_eq_false, not_false_eq_true, eq_self, Nat.reduceAdd, Nat.reduceLeDiff, Nat.reduceLT, Nat.reduceEqDiff, Nat.reduceMul, Nat.reduceSub, Nat.reduceDiv, Nat.reduceMod, reduceCtorEq, Nat.zero_le, i3_le, i3_lt, i3_eq, i3_eqN, i3_leN, i3_Nle, i3_ltN, i3_NleN, i3_NeqN, i3_Neq, i3_NltN, i3_Nlt, l6_le, l6_lt, l6_eq, l6_leN, l6_Nle, l6_ltN, l6_Nlt, l6_eqN, l6_Neq, b1, b2, c6, ↓reduceIte]
      rw [w3]
      simp only [r_M_letsBy_99, r_M_letsBy_101, r_M_letsBy_104, r_M_letsBy_107, r_M_letsBy_108, r_M_letsBy_109, r_M_letsBy_112, r_M_letsBy_113, r_M_letsBy_114, r_M_letsBy_117, r_M_letsBy_118, r_M_letsBy_119, r_M_letsBy_122, r_M_letsBy_123, r_M_letsBy_126, r_M_letsBy_128, r_M_letsBy_129, r_M_letsBy_132, r_M_letsBy_135, r_M_letsBy_137, r_M_letsBy_140, r_M_letsBy_141, r_M_letsBy_144, r_M_letsBy_147, r_M_letsBy_148, r_M_letsBy_150, r_M_letsBy_151, r_M_letsBy_154, r_M_letsBy_157, r_M_letsBy_159, r_M_letsBy_162, r_M_letsBy_163, r_M_letsBy_166, r_M_letsBy_169, r_M_letsBy_169_k, r_M_letsBy_172, ly_g31_41, ly_p31_41, ly_g31_42, ly_p31_42, ly_g31_43, ly_p31_43, ly_g31_38, ly_n49, ly_r49, ly_w49, ly_k31, i3n_0, i3n_1, i3n_10, i3n_1000, l6n_0, l6n_1, am_kf_s, am_km_s, am_kn_s, am_k_v, am_k_0, am_isr_r, am_isr_n, am_isr_v, am_sw_0, am_sw_i, am_sw_l, am_sw_r, am_sw_n, am_sw_v, am_ct_i, am_ct_r, am_ct_n, am_c1_o, am_c1_n, am_c1_i, am_c1_r, am_c1_v, am_mk_1, lc_lt, lc_gt, lc_eq, lc_le, lc_ge, i01_eq, i01_ok, ite_not, true_or, or_true, true_and, and_true, false_or, or_false, false_and, and_false, if_true, if_false, not_true_eq_false, not_false_eq_true, eq_self, Nat.reduceAdd, Nat.reduceLeDiff, Nat.reduceLT, Nat.reduceEqDiff, Nat.reduceMul, Nat.reduceSub, Nat.reduceDiv, Nat.reduceMod, reduceCtorEq, Nat.zero_le, i3_le, i3_lt, i3_eq, i3_eqN, i3_leN, i3_Nle, i3_ltN, i3_NleN, i3_NeqN, i3_Neq, i3_NltN, i3_Nlt, l6_le, l6_lt, l6_eq, l6_leN, l6_Nle, l6_ltN, l6_Nlt, l6_eqN, l6_Neq, en, i3_add, ↓reduceIte]
def jh (N : Nat → Nat → Nat) (s lo n : Nat) (l : List Nat) : Nat := sm n (fun t => jg N s (lo + t) 100 l)
theorem l_M_lets1 {L : Nat → Nat → Int64} {d s many w : Nat} (hw : w < 2147483648) (hlo : w / 1000 ≤ w % 1000) (hs9 : s ≤ 9999) (hm : many ≤ N 31 27) : ∀ (r t : Nat) (C : Nat → Nat → Int32) (l5 l6 l7 : Option Value), w % 1000 + 1 - w / 1000 - t = r → t ≤ w % 1000 + 1 - w / 1000 → rl G N x Z C R D → la_ok N C L (N 31 27) → lb_st N C s (w / 1000) (w / 1000 + t) 0 (jh N s (w / 1000) t (spl N none many)) (spl N none many) → am_c1 l5 = true → am_c1 l6 = true → ∃ (C' : Nat → Nat → Int32), am_run G (d + 2) K_M_letsBy (22, [some (.ref (x + 31)), some (.int (Int32.ofNat w)), some (.int (Int32.ofNat s)), some (.int (Int32.ofNat many)), some (.int (Int32.ofNat (w / 1000 + t))), l5, l6, l7], [], am_mk x true Z C L R D) = some (none, am_mk x true Z C' L R D) ∧ rl G N x Z C' R D ∧ la_ok N C' L (N 31 27) ∧ lb_st N C' s (w / 1000) (w % 1000 + 1) 0 (jh N s (w / 1000) (w % 1000 + 1 - w / 1000) (spl N none many)) (spl N none many) := by
  have ew : Int32.ofNat w / Int32.ofNat 1000 = Int32.ofNat (w / 1000) := i3_div hw (by decide)
  have er : Int32.ofNat w - Int32.ofNat (w / 1000) * Int32.ofNat 1000 = Int32.ofNat (w % 1000) := i3_rem0
  have er2 : Int32.ofNat w - Int32.ofNat (w / 1000 * 1000) = Int32.ofNat (w % 1000) := i3_rem
  have b1 : w % 1000 < 2147483648 := by omega
  intro r
  induction r with
  | zero =>
    intro t C l5 l6 l7 hr ht h hs hst c5 c6
    have e : t = w % 1000 + 1 - w / 1000 := by omega
    subst e
    have e2 : w / 1000 + (w % 1000 + 1 - w / 1000) = w % 1000 + 1 := by omega
    rw [e2] at hst ⊢
    refine ⟨C, ?_, h, hs, hst⟩
    have b2 : w % 1000 + 1 < 2147483648 := by omega
    have b3 : w % 1000 < w % 1000 + 1 := by omega
    rw [r_M_letsBy_22]
    simp only [r_M_letsBy_24, r_M_letsBy_25, r_M_letsBy_28, r_M_letsBy_29, r_M_letsBy_181, ly_g31_41, ly_p31_41, ly_g31_42, ly_p31_42, ly_g31_43, ly_p31_43, ly_g31_38, ly_n49, ly_r49, ly_w49, ly_k31, i3n_0, i3n_1, i3n_10, i3n_1000, l6n_0, l6n_1, am_kf_s, am_km_s, am_kn_s, am_k_v, am_k_0, am_isr_r, am_isr_n, am_isr_v, am_sw_0, am_sw_i, am_sw_l, am_sw_r, am_sw_n, am_sw_v, am_ct_i, am_ct_r, am_ct_n, am_c1_o, am_c1_n, am_c1_i, am_c1_r, am_c1_v, am_mk_1, lc_lt, lc_gt, lc_eq, lc_le, lc_ge, i01_eq, i01_ok, ite_not, true_or, or_true, true_and, and_true, false_or, or_false, false_and, and_false, if_true, if_false, not_true_eq_false, not_false_eq_true, eq_self, Nat.reduceAdd, Nat.reduceLeDiff, Nat.reduceLT, Nat.reduceEqDiff, Nat.reduceMul, Nat.reduceSub, Nat.reduceDiv, Nat.reduceMod, reduceCtorEq, Nat.zero_le, i3_le, i3_lt, i3_eq, i3_eqN, i3_leN, i3_Nle, i3_ltN, i3_NleN, i3_NeqN, i3_Neq, i3_NltN, i3_Nlt, l6_le, l6_lt, l6_eq, l6_leN, l6_Nle, l6_ltN, l6_Nlt, l6_eqN, l6_Neq, ew, er, er2, b1, b2, b3, ↓reduceIte]
  | succ r ih =>
    intro t C l5 l6 l7 hr ht h hs hst c5 c6
    have hq : w / 1000 + t ≤ w % 1000 := by omega
    have b2 : w / 1000 + t < 2147483648 := by omega
    have b3 : ¬ w % 1000 < w / 1000 + t := by omega
    have hjl := sm_le (n := t) (f := fun t => jg N s (w / 1000 + t) 100 (spl N none many)) (b := 100) (fun i _ => by
      have := sm_le (n := 100) (f := fun e => ib (okb N s (spl N none many) (w / 1000 + i) (10 * e))) (b := 1) (fun i _ => ib_le)
      show jg _ _ _ _ _ ≤ 100
      unfold jg
      omega)
    have hjl : jh N s (w / 1000) t (spl N none many) ≤ t * 100 := hjl
    obtain ⟨C1, k6, k7, w1, w2, w3, w4, w5⟩ := l_M_lets2 (G := G) (x := x) (L := L) (d := d) (many := many) (q := w / 1000 + t) (lo := w / 1000) (p0 := jh N s (w / 1000) t (spl N none many)) (l1 := some (.int (Int32.ofNat w))) (by omega) (by omega) hs9 hm (by omega) 100 0 C l6 l7 rfl (Nat.zero_le _) h hs hst c6
    have hjs : jh N s (w / 1000) (t + 1) (spl N none many) = jh N s (w / 1000) t (spl N none many) + jg N s (w / 1000 + t) 100 (spl N none many) := rfl
    rw [← hjs] at w5
    have w5' : lb_st N C1 s (w / 1000) (w / 1000 + (t + 1)) 0 (jh N s (w / 1000) (t + 1) (spl N none many)) (spl N none many) := by
      obtain ⟨g1, o1, o2, g2, g3, g4, g5⟩ := w5
      have hP : ∀ a e, jQ N s (w / 1000) (w / 1000 + (t + 1)) 0 (spl N none many) a e ↔ jQ N s (w / 1000) (w / 1000 + t) 1000 (spl N none many) a e := by
        intro a e
        unfold jQ fi_Q
        constructor
        · rintro ⟨p1, p2⟩; exact ⟨by omega, p2⟩
        · rintro ⟨p1, p2⟩; exact ⟨by omega, p2⟩
      exact ⟨g1, o1, o2, g2, g3, le_eq g4 hP, ge_eq g5 hP⟩
    obtain ⟨C', v1, v2⟩ := ih (t + 1) C1 (some (.int (Int32.ofNat 1000))) k6 k7 (by omega) (by omega) w3 w4 w5' am_c1_i w2
    refine ⟨C', ?_, v2⟩
    rw [← v1, r_M_letsBy_22]
    rw [Nat.mul_zero] at w1
    have et : w / 1000 + t + 1 = w / 1000 + (t + 1) := by omega
    simp only [r_M_letsBy_24, r_M_letsBy_25, r_M_letsBy_28, r_M_letsBy_29, r_M_letsBy_32, r_M_letsBy_33, r_M_letsBy_33_k, ly_g31_41, ly_p31_41, ly_g31_42, ly_p31_42, ly_g31_43, ly_p31_43, ly_g31_38, ly_n49, ly_r49, ly_w49, ly_k31, i3n_0, i3n_1, i3n_10, i3n_1000, l6n_0, l6n_1, am_kf_s, am_km_s, am_kn_s, am_k_v, am_k_0, am_isr_r, am_isr_n, am_isr_v, am_sw_0, am_sw_i, am_sw_l, am_sw_r, am_sw_n, am_sw_v, am_ct_i, am_ct_r, am_ct_n, am_c1_o, am_c1_n, am_c1_i, am_c1_r, am_c1_v, am_mk_1, lc_lt, lc_gt, lc_eq, lc_le, lc_ge, i01_eq, i01_ok, ite_not, true_or, or_true, true_and, and_true, false_or, or_false, false_and, and_false, if_true, if_false, not_true_eq_false, not_false_eq_true, eq_self, Nat.reduceAdd, Nat.reduceLeDiff, Nat.reduceLT, Nat.reduceEqDiff, Nat.reduceMul, Nat.reduceSub, Nat.reduceDiv, Nat.reduceMod, reduceCtorEq, Nat.zero_le, i3_le, i3_lt, i3_eq, i3_eqN, i3_leN, i3_Nle, i3_ltN, i3_NleN, i3_NeqN, i3_Neq, i3_NltN, i3_Nlt, l6_le, l6_lt, l6_eq, l6_leN, l6_Nle, l6_ltN, l6_Nlt, l6_eqN, l6_Neq, ew, er, er2, b1, b2, b3, c5, c6, ↓reduceIte]
    rw [w1]
    simp only [r_M_letsBy_175, r_M_letsBy_175_k, r_M_letsBy_178, ly_g31_41, ly_p31_41, ly_g31_42, ly_p31_42, ly_g31_43, ly_p31_43, ly_g31_38, ly_n49, ly_r49, ly_w49, ly_k31, i3n_0, i3n_1, i3n_10, i3n_1000, l6n_0, l6n_1, am_kf_s, am_km_s, am_kn_s, am_k_v, am_k_0, am_isr_r, am_isr_n, am_isr_v, am_sw_0, am_sw_i, am_sw_l, am_sw_r, am_sw_n, am_sw_v, am_ct_i, am_ct_r, am_ct_n, am_c1_o, am_c1_n, am_c1_i, am_c1_r, am_c1_v, am_mk_1, lc_lt, lc_gt, lc_eq, lc_le, lc_ge, i01_eq, i01_ok, ite_not, true_or, or_true, true_and, and_true, false_or, or_false, false_and, and_false, if_true, if_false, not_true_eq_false, not_false_eq_true, eq_self, Nat.reduceAdd, Nat.reduceLeDiff, Nat.reduceLT, Nat.reduceEqDiff, Nat.reduceMul, Nat.reduceSub, Nat.reduceDiv, Nat.reduceMod, reduceCtorEq, Nat.zero_le, i3_le, i3_lt, i3_eq, i3_eqN, i3_leN, i3_Nle, i3_ltN, i3_NleN, i3_NeqN, i3_Neq, i3_NltN, i3_Nlt, l6_le, l6_lt, l6_eq, l6_leN, l6_Nle, l6_ltN, l6_Nlt, l6_eqN, l6_Neq, i3_add, et, ↓reduceIte]
theorem x_M_letsBy {C : Nat → Nat → Int32} {L : Nat → Nat → Int64} (h : rl G N x Z C R D) (hs : la_ok N C L (N 31 27)) {d s many w : Nat} (hw : w < 2147483648) (hlo : w / 1000 ≤ w % 1000) (hs9 : s ≤ 9999) (hm : many ≤ N 31 27) : ∃ (C' : Nat → Nat → Int32), am_ex G (d + 3) K_M_letsBy [.ref (x + 31), .int (Int32.ofNat w), .int (Int32.ofNat s), .int (Int32.ofNat many)] (am_mk x true Z C L R D) = some (none, am_mk x true Z C' L R D) ∧ rl G N x Z C' R D ∧ la_ok N C' L (N 31 27) ∧ lb_st N C' s (w / 1000) (w % 1000 + 1) 0 (jh N s (w / 1000) (w % 1000 + 1 - w / 1000) (spl N none many)) (spl N none many) := by
  have fr : ∀ k j, ¬ (k = 31 ∧ 41 ≤ j ∧ j ≤ 43) → ux (ux (ux C 31 41 (Int32.ofNat 0)) 31 42 (-Int32.ofNat 1)) 31 43 (-Int32.ofNat 1) k j = C k j := fun k j q => by rw [ux_ne (by omega), ux_ne (by omega), ux_ne (by omega)]
  have hno : ∀ q e, ¬ jQ N s (w / 1000) (w / 1000 + 0) 0 (spl N none many) q e := fun q e hq => by have := hq.1; unfold fi_Q at this; omega
  obtain ⟨C', v1, v2⟩ := l_M_lets1 (G := G) (x := x) (L := L) (d := d) (s := s) (many := many) hw hlo hs9 hm (w % 1000 + 1 - w / 1000) 0 _ none none none rfl (Nat.zero_le _) (rl_31 h fr) (la_31 hs fr) ⟨by rw [ux_ne (by omega), ux_ne (by omega), ux_at]; rfl, none, none, by rw [ux_ne (by omega), ux_at]; rfl, by rw [ux_at]; rfl, hno, hno⟩ am_c1_n am_c1_n
  refine ⟨C', ?_, v2⟩
  have ew : Int32.ofNat w / Int32.ofNat 1000 = Int32.ofNat (w / 1000) := i3_div hw (by decide)
  rw [← v1]
  simp only [e_M_letsBy, r_M_letsBy_0, r_M_letsBy_1, r_M_letsBy_2, r_M_letsBy_5, r_M_letsBy_6, r_M_letsBy_7, r_M_letsBy_10, r_M_letsBy_11, r_M_letsBy_12, r_M_letsBy_15, r_M_letsBy_16, r_M_letsBy_19, r_M_letsBy_20, r_M_letsBy_20_k, r_M_letsBy_24, r_M_letsBy_25, r_M_letsBy_28, r_M_letsBy_29, r_M_letsBy_32, r_M_letsBy_33, r_M_letsBy_33_k, r_M_letsBy_37, r_M_letsBy_40, r_M_letsBy_43, r_M_letsBy_44, r_M_letsBy_44_k, r_M_letsBy_46, r_M_letsBy_47, r_M_letsBy_47_k, r_M_letsBy_51, r_M_letsBy_52, r_M_letsBy_55, r_M_letsBy_57, r_M_letsBy_60, r_M_letsBy_61, r_M_letsBy_64, r_M_letsBy_66, r_M_letsBy_67, r_M_letsBy_70, r_M_letsBy_71, r_M_letsBy_73, r_M_letsBy_75, r_M_letsBy_77, r_M_letsBy_80, r_M_letsBy_81, r_M_letsBy_82, r_M_letsBy_83, r_M_letsBy_86, r_M_letsBy_87, r_M_letsBy_90, r_M_letsBy_91, r_M_letsBy_91_k, r_M_letsBy_93, r_M_letsBy_93_k, r_M_letsBy_96, r_M_letsBy_99, r_M_letsBy_101, r_M_letsBy_104, r_M_letsBy_107, r_M_letsBy_108, r_M_letsBy_109, r_M_letsBy_112, r_M_letsBy_113, r_M_letsBy_114, r_M_letsBy_117, r_M_letsBy_118, r_M_letsBy_119, r_M_letsBy_122, r_M_letsBy_123, r_M_letsBy_126, r_M_letsBy_128, r_M_letsBy_129, r_M_letsBy_132, r_M_letsBy_135, r_M_letsBy_137, r_M_letsBy_140, r_M_letsBy_141, r_M_letsBy_144, r_M_letsBy_147, r_M_letsBy_148, r_M_letsBy_150, r_M_letsBy_151, r_M_letsBy_154, r_M_letsBy_157, r_M_letsBy_159, r_M_letsBy_162, r_M_letsBy_163, r_M_letsBy_166, r_M_letsBy_169, r_M_letsBy_169_k, r_M_letsBy_172, r_M_letsBy_175, r_M_letsBy_175_k, r_M_letsBy_178, r_M_letsBy_181, ly_g31_41, ly_p31_41, ly_g31_42, ly_p31_42, ly_g31_43, ly_p31_43, ly_g31_38, ly_n49, ly_r49, ly_w49, ly_k31, i3n_0, i3n_1, i3n_10, i3n_1000, l6n_0, l6n_1, am_kf_s, am_km_s, am_kn_s, am_k_v, am_k_0, am_isr_r, am_isr_n, am_isr_v, am_sw_0, am_sw_i, am_sw_l, am_sw_r, am_sw_n, am_sw_v, am_ct_i, am_ct_r, am_ct_n, am_c1_o, am_c1_n, am_c1_i, am_c1_r, am_c1_v, am_mk_1, lc_lt, lc_gt, lc_eq, lc_le, lc_ge, i01_eq, i01_ok, ite_not, true_or, or_true, true_and, and_true, false_or, or_false, false_and, and_false, if_true, if_false, not_true_eq_false, not_false_eq_true, eq_self, Nat.reduceAdd, Nat.reduceLeDiff, Nat.reduceLT, Nat.reduceEqDiff, Nat.reduceMul, Nat.reduceSub, Nat.reduceDiv, Nat.reduceMod, reduceCtorEq, Nat.zero_le, i3_le, i3_lt, i3_eq, i3_eqN, i3_leN, i3_Nle, i3_ltN, i3_NleN, i3_NeqN, i3_Neq, i3_NltN, i3_Nlt, l6_le, l6_lt, l6_eq, l6_leN, l6_Nle, l6_ltN, l6_Nlt, l6_eqN, l6_Neq, ew, Nat.add_zero, ↓reduceIte]
/-- the two counts are one -/
theorem jt_jh {s lo hi : Nat} {l : List Nat} : jt N s lo hi 100 l = jh N s lo (hi + 1 - lo) l := by
  unfold jt jh jn jg
  exact sm_comm
theorem jQ_P {s lo hi : Nat} {l : List Nat} : ∀ q e, jP N s lo hi 1000 l q e ↔ jQ N s lo (hi + 1) 0 l q e := by
  intro q e
  unfold jP jQ fi_P fi_Q
  constructor
  · rintro ⟨p1, p2⟩; exact ⟨by omega, p2⟩
  · rintro ⟨p1, p2⟩; exact ⟨by omega, p2⟩
end
