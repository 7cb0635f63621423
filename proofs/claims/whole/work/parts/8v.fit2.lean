/-! FIT: the class's outer loop -/
section
variable {G : Nat → Value} {x : Nat} {N : Nat → Nat → Nat} {Z : ly_Z} {D : am_M}
/-- what is answered -/
def fi_a (w b l c : Nat) : Nat := if w = 0 then l else if w = 1 then c else b
theorem l_H_fit0 {C : Nat → Nat → Int32} {R : Nat → Nat → Option Nat} (h : rl G N x Z C R D) {l : List Nat} (hl : l.length ≤ 40) (hv : ∀ i, i ∈ l → i < N 31 27) {d lo hi w : Nat} (hlo : lo ≤ hi) (hhi : hi ≤ 999) (hw : w ≤ 2) : ∀ (r n : Nat) (L : Nat → Nat → Int64) (o : Option Nat) (law cu : Nat) (l9 l10 l11 l12 l13 : Option Value), 100 - n = r → n ≤ 100 → law ≤ 999 → cu ≤ 999 → (0 < n → ∃ b, o = some b) → sp_ok N Z C L R l → fi_st (fun a e => su N e a l) (fi_P lo hi (10 * n) 0) o law cu → ∃ (L' : Nat → Nat → Int64) (b law' cu' : Nat), am_run G (d + 3) K_H_fit (40, [some (.ref x), some (.int (Int32.ofNat lo)), some (.int (Int32.ofNat hi)), some (.int (Int32.ofNat w)), some (.long (fi_v o)), none, some (.int (Int32.ofNat law)), some (.int (Int32.ofNat cu)), some (.int (Int32.ofNat (10 * n))), l9, l10, l11, l12, l13], [], am_mk x true Z C L R D) = some (some (.long (Int64.ofNat (fi_a w b law' cu'))), am_mk x true Z C L' R D) ∧ fi_ok (fun a e => su N e a l) (fi_P lo hi 1000 0) b law' cu' := by
  intro r
  induction r with
  | zero =>
    intro n L o law cu l9 l10 l11 l12 l13 hr hn hlaw hcu ho hs hst
    have e : n = 100 := by omega
    subst e
    obtain ⟨b, rfl⟩ := ho (by decide)
    have b1 : law < 2147483648 := by omega
    have b2 : cu < 2147483648 := by omega
    refine ⟨L, b, law, cu, ?_, hst⟩
    rw [r_H_fit_40]
    have ww : w = 0 ∨ w = 1 ∨ w = 2 := by omega
    rcases ww with rfl | rfl | rfl
    · simp only [r_H_fit_42, r_H_fit_45, r_H_fit_139, r_H_fit_140, r_H_fit_143, r_H_fit_145, r_H_fit_146, r_H_fit_149, r_H_fit_150, r_H_fit_151, r_H_fit_154, r_H_fit_156, r_H_fit_157, r_H_fit_160, r_H_fit_162, ly_k0, ly_g0_12, ly_k10, i3n_0, i3n_1, i3n_2, i3n_10, i3n_990, l6n_0, l6n_1, l6n_4611686018427387904, l6n_9223372036854775807, am_kf_s, am_km_s, am_kn_s, am_k_v, am_k_0, am_isr_r, am_isr_n, am_isr_v, am_sw_0, am_sw_i, am_sw_l, am_sw_r, am_sw_n, am_sw_v, am_ct_i, am_ct_r, am_ct_n, am_c1_o, am_c1_n, am_c1_i, am_c1_r, am_c1_v, am_mk_1, lc_lt, lc_gt, lc_eq, lc_le, lc_ge, i01_eq, i01_ok, ite_not, true_or, or_true, true_and, and_true, false_or, or_false, false_and, and_false, if_true, if_false, not_true_eq_false, not_false_eq_true, eq_self, Nat.reduceAdd, Nat.reduceLeDiff, Nat.reduceLT, Nat.reduceEqDiff, Nat.reduceMul, Nat.reduceSub, Nat.reduceDiv, Nat.reduceMod, reduceCtorEq, Nat.zero_le, i3_le, i3_lt, i3_eq, i3_eqN, i3_leN, i3_Nle, i3_ltN, i3_NleN, i3_NeqN, i3_Neq, i3_NltN, i3_Nlt, l6_le, l6_lt, l6_eq, l6_leN, l6_Nle, l6_ltN, l6_Nlt, l6_eqN, l6_Neq, fi_v, fi_a, b1, b2, i3_long, ↓reduceIte]
    · simp only [r_H_fit_42, r_H_fit_45, r_H_fit_139, r_H_fit_140, r_H_fit_143, r_H_fit_145, r_H_fit_146, r_H_fit_149, r_H_fit_150, r_H_fit_151, r_H_fit_154, r_H_fit_156, r_H_fit_157, r_H_fit_160, r_H_fit_162, ly_k0, ly_g0_12, ly_k10, i3n_0, i3n_1, i3n_2, i3n_10, i3n_990, l6n_0, l6n_1, l6n_4611686018427387904, l6n_9223372036854775807, am_kf_s, am_km_s, am_kn_s, am_k_v, am_k_0, am_isr_r, am_isr_n, am_isr_v, am_sw_0, am_sw_i, am_sw_l, am_sw_r, am_sw_n, am_sw_v, am_ct_i, am_ct_r, am_ct_n, am_c1_o, am_c1_n, am_c1_i, am_c1_r, am_c1_v, am_mk_1, lc_lt, lc_gt, lc_eq, lc_le, lc_ge, i01_eq, i01_ok, ite_not, true_or, or_true, true_and, and_true, false_or, or_false, false_and, and_false, if_true, if_false, not_true_eq_false, not_false_eq_true, eq_self, Nat.reduceAdd, Nat.reduceLeDiff, Nat.reduceLT, Nat.reduceEqDiff, Nat.reduceMul, Nat.reduceSub, Nat.reduceDiv, Nat.reduceMod, reduceCtorEq, Nat.zero_le, i3_le, i3_lt, i3_eq, i3_eqN, i3_leN, i3_Nle, i3_ltN, i3_NleN, i3_NeqN, i3_Neq, i3_NltN, i3_Nlt, l6_le, l6_lt, l6_eq, l6_leN, l6_Nle, l6_ltN, l6_Nlt, l6_eqN, l6_Neq, fi_v, fi_a, b1, b2, i3_long, ↓reduceIte]
    · simp only [r_H_fit_42, r_H_fit_45, r_H_fit_139, r_H_fit_140, r_H_fit_143, r_H_fit_145, r_H_fit_146, r_H_fit_149, r_H_fit_150, r_H_fit_151, r_H_fit_154, r_H_fit_156, r_H_fit_157, r_H_fit_160, r_H_fit_162, ly_k0, ly_g0_12, ly_k10, i3n_0, i3n_1, i3n_2, i3n_10, i3n_990, l6n_0, l6n_1, l6n_4611686018427387904, l6n_9223372036854775807, am_kf_s, am_km_s, am_kn_s, am_k_v, am_k_0, am_isr_r, am_isr_n, am_isr_v, am_sw_0, am_sw_i, am_sw_l, am_sw_r, am_sw_n, am_sw_v, am_ct_i, am_ct_r, am_ct_n, am_c1_o, am_c1_n, am_c1_i, am_c1_r, am_c1_v, am_mk_1, lc_lt, lc_gt, lc_eq, lc_le, lc_ge, i01_eq, i01_ok, ite_not, true_or, or_true, true_and, and_true, false_or, or_false, false_and, and_false, if_true, if_false, not_true_eq_false, not_false_eq_true, eq_self, Nat.reduceAdd, Nat.reduceLeDiff, Nat.reduceLT, Nat.reduceEqDiff, Nat.reduceMul, Nat.reduceSub, Nat.reduceDiv, Nat.reduceMod, reduceCtorEq, Nat.zero_le, i3_le, i3_lt, i3_eq, i3_eqN, i3_leN, i3_Nle, i3_ltN, i3_NleN, i3_NeqN, i3_Neq, i3_NltN, i3_Nlt, l6_le, l6_lt, l6_eq, l6_leN, l6_Nle, l6_ltN, l6_Nlt, l6_eqN, l6_Neq, fi_v, fi_a, b1, b2, i3_long, ↓reduceIte]
  | succ r ih =>
    intro n L o law cu l9 l10 l11 l12 l13 hr hn hlaw hcu ho hs hst
    have hn1 : n < 100 := by omega
    have b1 : 10 * n < 2147483648 := by omega
    have b2 : ¬ 990 < 10 * n := by omega
    have b3 : lo < 2147483648 := by omega
    obtain ⟨L1, e1, e2, e3⟩ := x_H_tryCushion (G := G) h hs hl hv (d := d) (c := 10 * n) (by omega)
    have hs1 := sp_ok_15 hs e2
    have hst1 : fi_st (fun a e => su N e a l) (fi_P lo hi (10 * n) lo) o law cu := fi_eq hst (fun a e => by unfold fi_P; omega)
    obtain ⟨o', law', cu', m10, m11, m12, m13, w1, w2, w3, w4⟩ := l_H_fit1 (G := G) h hs1 hl hv (d := d) (c := 10 * n) (w := w) (by omega) (by omega) hlo hhi e3 (hi + 1 - lo) lo o law cu l10 l11 l12 l13 rfl (Nat.le_refl _) (by omega) hlaw hcu hst1
    have ho' : ∃ b, o' = some b := by
      cases o' with
      | some b => exact ⟨b, rfl⟩
      | none => exact absurd (show fi_P lo hi (10 * n) (hi + 1) hi (10 * n) by unfold fi_P; omega) (w4 hi (10 * n))
    have hst2 : fi_st (fun a e => su N e a l) (fi_P lo hi (10 * (n + 1)) 0) o' law' cu' := fi_eq w4 (fun a e => by unfold fi_P; omega)
    obtain ⟨L', b, law2, cu2, v1, v2⟩ := ih (n + 1) L1 o' law' cu' (some (.int (Int32.ofNat (hi + 1)))) m10 m11 m12 m13 (by omega) (by omega) w2 w3 (fun _ => ho') hs1 hst2
    refine ⟨L', b, law2, cu2, ?_, v2⟩
    have en : 10 * n + 10 = 10 * (n + 1) := by omega
    rw [← v1, r_H_fit_40]
    simp only [r_H_fit_42, r_H_fit_45, r_H_fit_48, r_H_fit_49, r_H_fit_51, r_H_fit_54, r_H_fit_55, r_H_fit_55_k, ly_k0, ly_g0_12, ly_k10, i3n_0, i3n_1, i3n_2, i3n_10, i3n_990, l6n_0, l6n_1, l6n_4611686018427387904, l6n_9223372036854775807, am_kf_s, am_km_s, am_kn_s, am_k_v, am_k_0, am_isr_r, am_isr_n, am_isr_v, am_sw_0, am_sw_i, am_sw_l, am_sw_r, am_sw_n, am_sw_v, am_ct_i, am_ct_r, am_ct_n, am_c1_o, am_c1_n, am_c1_i, am_c1_r, am_c1_v, am_mk_1, lc_lt, lc_gt, lc_eq, lc_le, lc_ge, i01_eq, i01_ok, ite_not, true_or, or_true, true_and, and_true, false_or, or_false, false_and, and_false, if_true, if_false, not_true_eq_false, not_false_eq_true, eq_self, Nat.reduceAdd, Nat.reduceLeDiff, Nat.reduceLT, Nat.reduceEqDiff, Nat.reduceMul, Nat.reduceSub, Nat.reduceDiv, Nat.reduceMod, reduceCtorEq, Nat.zero_le, i3_le, i3_lt, i3_eq, i3_eqN, i3_leN, i3_Nle, i3_ltN, i3_NleN, i3_NeqN, i3_Neq, i3_NltN, i3_Nlt, l6_le, l6_lt, l6_eq, l6_leN, l6_Nle, l6_ltN, l6_Nlt, l6_eqN, l6_Neq, b1, b2, b3, e1, ↓reduceIte]
    rw [w1]
    simp only [r_H_fit_133, r_H_fit_133_k, r_H_fit_136, ly_k0, ly_g0_12, ly_k10, i3n_0, i3n_1, i3n_2, i3n_10, i3n_990, l6n_0, l6n_1, l6n_4611686018427387904, l6n_9223372036854775807, am_kf_s, am_km_s, am_kn_s, am_k_v, am_k_0, am_isr_r, am_isr_n, am_isr_v, am_sw_0, am_sw_i, am_sw_l, am_sw_r, am_sw_n, am_sw_v, am_ct_i, am_ct_r, am_ct_n, am_c1_o, am_c1_n, am_c1_i, am_c1_r, am_c1_v, am_mk_1, lc_lt, lc_gt, lc_eq, lc_le, lc_ge, i01_eq, i01_ok, ite_not, true_or, or_true, true_and, and_true, false_or, or_false, false_and, and_false, if_true, if_false, not_true_eq_false, not_false_eq_true, eq_self, Nat.reduceAdd, Nat.reduceLeDiff, Nat.reduceLT, Nat.reduceEqDiff, Nat.reduceMul, Nat.reduceSub, Nat.reduceDiv, Nat.reduceMod, reduceCtorEq, Nat.zero_le, i3_le, i3_lt, i3_eq, i3_eqN, i3_leN, i3_Nle, i3_ltN, i3_NleN, i3_NeqN, i3_Neq, i3_NltN, i3_Nlt, l6_le, l6_lt, l6_eq, l6_leN, l6_Nle, l6_ltN, l6_Nlt, l6_eqN, l6_Neq, i3_add, en, ↓reduceIte]
end
