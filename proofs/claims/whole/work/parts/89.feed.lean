/-! feed -/
theorem fd_byte (v : Int64) : ∃ m : Nat, m < 256 ∧ v.toInt32 &&& Int32.ofNat 255 = Int32.ofNat m ∧ (v &&& Int64.ofNat 255).toInt32 = Int32.ofNat m := by
  have h1 : (v &&& Int64.ofNat 255).toInt32 = v.toInt32 &&& Int32.ofNat 255 := by
    rw [Int64.toInt32_and]
    rfl
  refine ⟨(v.toInt32.toBitVec &&& 255#32).toNat, ?_, ?_, ?_⟩
  · rw [BitVec.toNat_and]
    exact Nat.lt_of_le_of_lt Nat.and_le_right (by decide)
  · apply Int32.toBitVec_inj.mp
    show v.toInt32.toBitVec &&& 255#32 = BitVec.ofNat 32 _
    rw [BitVec.ofNat_toNat, BitVec.setWidth_eq]
  · rw [h1]
    apply Int32.toBitVec_inj.mp
    show v.toInt32.toBitVec &&& 255#32 = BitVec.ofNat 32 _
    rw [BitVec.ofNat_toNat, BitVec.setWidth_eq]
noncomputable def fd (v : Int64) (i : Nat) : Nat := Classical.choose (fd_byte (v >>> ((Int32.ofNat (8 * i)).toInt64 &&& 63)))
theorem fd_spec (v : Int64) (i : Nat) : fd v i < 256 ∧ (v >>> ((Int32.ofNat (8 * i)).toInt64 &&& 63)).toInt32 &&& Int32.ofNat 255 = Int32.ofNat (fd v i) ∧ ((v >>> ((Int32.ofNat (8 * i)).toInt64 &&& 63)) &&& Int64.ofNat 255).toInt32 = Int32.ofNat (fd v i) := Classical.choose_spec (fd_byte (v >>> ((Int32.ofNat (8 * i)).toInt64 &&& 63)))
section
variable {G : Nat → Value} {x : Nat}
theorem x_Ta_append {d n : Nat} {bb : Bool} {Z : ly_Z} {C : Nat → Nat → Int32} {L : Nat → Nat → Int64} {R : Nat → Nat → Option Nat} {D : am_M} {v : Int32} (h : C 7 1 = Int32.ofNat n) (hn : n < 160) : am_ex G (d + 1) K_Ta_append [.ref (x + 7), .int v] (am_mk x bb Z C L R D) = some (none, am_mk x bb Z (ux (ux C 8 n v) 7 1 (Int32.ofNat (n + 1))) L R D) := by
  have b1 : n < 2147483648 := by omega
  simp only [e_Ta_append, r_Ta_append_0, r_Ta_append_1, r_Ta_append_4, r_Ta_append_5, r_Ta_append_8, r_Ta_append_9, r_Ta_append_12, r_Ta_append_13, r_Ta_append_14, r_Ta_append_17, r_Ta_append_18, r_Ta_append_21, r_Ta_append_22, r_Ta_append_23, r_Ta_append_24, r_Ta_append_25, r_Ta_append_28, r_Ta_append_29, r_Ta_append_30, r_Ta_append_33, ly_g7_1, ly_g7_0, ly_n8, ly_r8, ly_w8, ly_p7_1, i3n_0, i3n_1, l6n_0, l6n_1, am_kf_s, am_km_s, am_kn_s, am_k_v, am_k_0, am_isr_r, am_isr_n, am_isr_v, am_sw_0, am_sw_i, am_sw_l, am_sw_r, am_sw_n, am_sw_v, am_ct_i, am_ct_r, am_ct_n, am_c1_o, am_c1_n, am_c1_i, am_c1_r, am_c1_v, am_mk_1, lc_lt, lc_gt, lc_eq, lc_le, lc_ge, i01_eq, i01_ok, ite_not, true_or, or_true, true_and, and_true, false_or, or_false, false_and, and_false, if_true, if_false, not_true_eq_false, not_false_eq_true, eq_self, Nat.reduceAdd, Nat.reduceLeDiff, Nat.reduceLT, Nat.reduceEqDiff, Nat.reduceMul, Nat.reduceSub, Nat.reduceDiv, Nat.reduceMod, reduceCtorEq, Nat.zero_le, i3_le, i3_lt, i3_eq, i3_eqN, i3_leN, i3_Nle, i3_ltN, i3_NleN, i3_NeqN, i3_Neq, i3_NltN, i3_Nlt, l6_le, l6_lt, l6_eq, l6_leN, l6_Nle, l6_ltN, l6_Nlt, l6_eqN, l6_Neq, ux_eq, h, b1, hn, i3_add]
theorem l_H_feed {d n : Nat} {v : Int64} {Z : ly_Z} {L : Nat → Nat → Int64} {R : Nat → Nat → Option Nat} {D : am_M} : ∀ (k i nb : Nat) (C : Nat → Nat → Int32), n - i = k → i ≤ n → n ≤ 8 → C 7 1 = Int32.ofNat nb → nb + (n - i) ≤ 160 → ∃ C', am_run G (d + 1) K_H_feed (30, [some (.ref x), some (.int (Int32.ofNat n)), some (.long v), none, some (.int (Int32.ofNat i))], [], am_mk x true Z C L R D) = some (some (.int (Int32.ofNat (nb + (n - i)))), am_mk x true Z C' L R D) ∧ C' 7 1 = Int32.ofNat (nb + (n - i)) ∧ (∀ j, j < nb → C' 8 j = C 8 j) ∧ (∀ j, i + j < n → C' 8 (nb + j) = Int32.ofNat (fd v (i + j))) ∧ ∀ a j, ¬ (a = 8 ∨ a = 7 ∧ j = 1) → C' a j = C a j := by
  intro k
  induction k with
  | zero =>
    intro i nb C hk hi hn h hr
    have : i = n := by omega
    subst this
    have b1 : i < 2147483648 := by omega
    refine ⟨C, ?_, by rw [Nat.sub_self, Nat.add_zero]; exact h, fun j _ => rfl, fun j hj => by omega, fun _ _ _ => rfl⟩
    rw [r_H_feed_30]
    simp only [r_H_feed_32, r_H_feed_33, r_H_feed_36, r_H_feed_37, r_H_feed_40, r_H_feed_41, r_H_feed_43, r_H_feed_45, r_H_feed_46, r_H_feed_47, r_H_feed_48, r_H_feed_51, r_H_feed_52, r_H_feed_55, r_H_feed_55_k, r_H_feed_58, r_H_feed_61, r_H_feed_62, r_H_feed_65, r_H_feed_68, ly_g0_11, ly_k7, ly_g7_1, i3n_0, i3n_1, i3n_2, i3n_4, i3n_8, i3n_255, l6n_0, l6n_1, am_kf_s, am_km_s, am_kn_s, am_k_v, am_k_0, am_isr_r, am_isr_n, am_isr_v, am_sw_0, am_sw_i, am_sw_l, am_sw_r, am_sw_n, am_sw_v, am_ct_i, am_ct_r, am_ct_n, am_c1_o, am_c1_n, am_c1_i, am_c1_r, am_c1_v, am_mk_1, lc_lt, lc_gt, lc_eq, lc_le, lc_ge, i01_eq, i01_ok, ite_not, true_or, or_true, true_and, and_true, false_or, or_false, false_and, and_false, if_true, if_false, not_true_eq_false, not_false_eq_true, eq_self, Nat.reduceAdd, Nat.reduceLeDiff, Nat.reduceLT, Nat.reduceEqDiff, Nat.reduceMul, Nat.reduceSub, Nat.reduceDiv, Nat.reduceMod, reduceCtorEq, Nat.zero_le, i3_le, i3_lt, i3_eq, i3_eqN, i3_leN, i3_Nle, i3_ltN, i3_NleN, i3_NeqN, i3_Neq, i3_NltN, i3_Nlt, l6_le, l6_lt, l6_eq, l6_leN, l6_Nle, l6_ltN, l6_Nlt, l6_eqN, l6_Neq, h, b1, Nat.le_refl, Nat.sub_self, Nat.add_zero]
  | succ k ih =>
    intro i nb C hk hi hn h hr
    have b1 : i < 2147483648 := by omega
    have b2 : n < 2147483648 := by omega
    have b3 : ¬ n ≤ i := by omega
    obtain ⟨f1, f2, f3⟩ := fd_spec v i
    have ha := x_Ta_append (G := G) (x := x) (d := d) (bb := true) (Z := Z) (L := L) (R := R) (D := D) (v := Int32.ofNat (fd v i)) h (by omega)
    obtain ⟨C', e1, e2, e3, e4, e5⟩ := ih (i + 1) (nb + 1) (ux (ux C 8 nb (Int32.ofNat (fd v i))) 7 1 (Int32.ofNat (nb + 1))) (by omega) (by omega) hn ux_at (by omega)
    have q : nb + 1 + (n - (i + 1)) = nb + (n - i) := by omega
    rw [q] at e1 e2
    refine ⟨C', ?_, e2, fun j hj => ?_, fun j hj => ?_, fun a j hq => ?_⟩
    · rw [r_H_feed_30, ← e1]
      simp only [r_H_feed_32, r_H_feed_33, r_H_feed_36, r_H_feed_37, r_H_feed_40, r_H_feed_41, r_H_feed_43, r_H_feed_45, r_H_feed_46, r_H_feed_47, r_H_feed_48, r_H_feed_51, r_H_feed_52, r_H_feed_55, r_H_feed_55_k, r_H_feed_58, r_H_feed_61, r_H_feed_62, r_H_feed_65, r_H_feed_68, ly_g0_11, ly_k7, ly_g7_1, i3n_0, i3n_1, i3n_2, i3n_4, i3n_8, i3n_255, l6n_0, l6n_1, am_kf_s, am_km_s, am_kn_s, am_k_v, am_k_0, am_isr_r, am_isr_n, am_isr_v, am_sw_0, am_sw_i, am_sw_l, am_sw_r, am_sw_n, am_sw_v, am_ct_i, am_ct_r, am_ct_n, am_c1_o, am_c1_n, am_c1_i, am_c1_r, am_c1_v, am_mk_1, lc_lt, lc_gt, lc_eq, lc_le, lc_ge, i01_eq, i01_ok, ite_not, true_or, or_true, true_and, and_true, false_or, or_false, false_and, and_false, if_true, if_false, not_true_eq_false, not_false_eq_true, eq_self, Nat.reduceAdd, Nat.reduceLeDiff, Nat.reduceLT, Nat.reduceEqDiff, Nat.reduceMul, Nat.reduceSub, Nat.reduceDiv, Nat.reduceMod, reduceCtorEq, Nat.zero_le, i3_le, i3_lt, i3_eq, i3_eqN, i3_leN, i3_Nle, i3_ltN, i3_NleN, i3_NeqN, i3_Neq, i3_NltN, i3_Nlt, l6_le, l6_lt, l6_eq, l6_leN, l6_Nle, l6_ltN, l6_Nlt, l6_eqN, l6_Neq, b1, b2, b3, i3_mul, f2, ha, i3_add]
    · rw [e3 j (by omega), ux_ne (by omega), ux_ne (by omega)]
    · by_cases hj0 : j = 0
      · subst hj0
        rw [Nat.add_zero, Nat.add_zero, e3 nb (by omega), ux_ne (by omega), ux_at]
      · have := e4 (j - 1) (by omega)
        rw [show nb + 1 + (j - 1) = nb + j by omega, show i + 1 + (j - 1) = i + j by omega] at this
        exact this
    · rw [e5 a j hq, ux_ne (by omega), ux_ne (by omega)]
theorem l_M_feed {d n : Nat} {v : Int64} {Z : ly_Z} {L : Nat → Nat → Int64} {R : Nat → Nat → Option Nat} {D : am_M} : ∀ (k i nb : Nat) (C : Nat → Nat → Int32), n - i = k → i ≤ n → n ≤ 8 → C 31 6 = Int32.ofNat nb → nb + (n - i) ≤ 160 → ∃ C', am_run G d K_M_feed (33, [some (.ref (x + 31)), some (.int (Int32.ofNat n)), some (.long v), none, some (.int (Int32.ofNat i))], [], am_mk x true Z C L R D) = some (some (.int (Int32.ofNat (nb + (n - i)))), am_mk x true Z C' L R D) ∧ C' 31 6 = Int32.ofNat (nb + (n - i)) ∧ (∀ j, j < nb → C' 34 j = C 34 j) ∧ (∀ j, i + j < n → C' 34 (nb + j) = Int32.ofNat (fd v (i + j))) ∧ ∀ a j, ¬ (a = 34 ∨ a = 31 ∧ j = 6) → C' a j = C a j := by
  intro k
  induction k with
  | zero =>
    intro i nb C hk hi hn h hr
    have : i = n := by omega
    subst this
    have b1 : i < 2147483648 := by omega
    refine ⟨C, ?_, by rw [Nat.sub_self, Nat.add_zero]; exact h, fun j _ => rfl, fun j hj => by omega, fun _ _ _ => rfl⟩
    rw [r_M_feed_33]
    simp only [r_M_feed_35, r_M_feed_36, r_M_feed_39, r_M_feed_40, r_M_feed_43, r_M_feed_44, r_M_feed_47, r_M_feed_48, r_M_feed_50, r_M_feed_52, r_M_feed_53, r_M_feed_54, r_M_feed_57, r_M_feed_58, r_M_feed_59, r_M_feed_60, r_M_feed_61, r_M_feed_62, r_M_feed_65, r_M_feed_66, r_M_feed_67, r_M_feed_70, r_M_feed_70_k, r_M_feed_73, r_M_feed_76, r_M_feed_77, r_M_feed_80, ly_g31_6, ly_g31_5, ly_n34, ly_r34, ly_w34, ly_p31_6, i3n_0, i3n_1, i3n_2, i3n_4, i3n_8, i3n_160, l6n_0, l6n_1, l6n_8, l6n_255, am_kf_s, am_km_s, am_kn_s, am_k_v, am_k_0, am_isr_r, am_isr_n, am_isr_v, am_sw_0, am_sw_i, am_sw_l, am_sw_r, am_sw_n, am_sw_v, am_ct_i, am_ct_r, am_ct_n, am_c1_o, am_c1_n, am_c1_i, am_c1_r, am_c1_v, am_mk_1, lc_lt, lc_gt, lc_eq, lc_le, lc_ge, i01_eq, i01_ok, ite_not, true_or, or_true, true_and, and_true, false_or, or_false, false_and, and_false, if_true, if_false, not_true_eq_false, not_false_eq_true, eq_self, Nat.reduceAdd, Nat.reduceLeDiff, Nat.reduceLT, Nat.reduceEqDiff, Nat.reduceMul, Nat.reduceSub, Nat.reduceDiv, Nat.reduceMod, reduceCtorEq, Nat.zero_le, i3_le, i3_lt, i3_eq, i3_eqN, i3_leN, i3_Nle, i3_ltN, i3_NleN, i3_NeqN, i3_Neq, i3_NltN, i3_Nlt, l6_le, l6_lt, l6_eq, l6_leN, l6_Nle, l6_ltN, l6_Nlt, l6_eqN, l6_Neq, h, b1, Nat.le_refl, Nat.sub_self, Nat.add_zero]
  | succ k ih =>
    intro i nb C hk hi hn h hr
    have b1 : i < 2147483648 := by omega
    have b2 : n < 2147483648 := by omega
    have b3 : ¬ n ≤ i := by omega
    have b4 : nb < 160 := by omega
    obtain ⟨f1, f2, f3⟩ := fd_spec v i
    obtain ⟨C', e1, e2, e3, e4, e5⟩ := ih (i + 1) (nb + 1) (ux (ux C 34 nb (Int32.ofNat (fd v i))) 31 6 (Int32.ofNat (nb + 1))) (by omega) (by omega) hn ux_at (by omega)
    have q : nb + 1 + (n - (i + 1)) = nb + (n - i) := by omega
    rw [q] at e1 e2
    refine ⟨C', ?_, e2, fun j hj => ?_, fun j hj => ?_, fun a j hq => ?_⟩
    · rw [r_M_feed_33, ← e1]
      simp only [r_M_feed_35, r_M_feed_36, r_M_feed_39, r_M_feed_40, r_M_feed_43, r_M_feed_44, r_M_feed_47, r_M_feed_48, r_M_feed_50, r_M_feed_52, r_M_feed_53, r_M_feed_54, r_M_feed_57, r_M_feed_58, r_M_feed_59, r_M_feed_60, r_M_feed_61, r_M_feed_62, r_M_feed_65, r_M_feed_66, r_M_feed_67, r_M_feed_70, r_M_feed_70_k, r_M_feed_73, r_M_feed_76, r_M_feed_77, r_M_feed_80, ly_g31_6, ly_g31_5, ly_n34, ly_r34, ly_w34, ly_p31_6, i3n_0, i3n_1, i3n_2, i3n_4, i3n_8, i3n_160, l6n_0, l6n_1, l6n_8, l6n_255, am_kf_s, am_km_s, am_kn_s, am_k_v, am_k_0, am_isr_r, am_isr_n, am_isr_v, am_sw_0, am_sw_i, am_sw_l, am_sw_r, am_sw_n, am_sw_v, am_ct_i, am_ct_r, am_ct_n, am_c1_o, am_c1_n, am_c1_i, am_c1_r, am_c1_v, am_mk_1, lc_lt, lc_gt, lc_eq, lc_le, lc_ge, i01_eq, i01_ok, ite_not, true_or, or_true, true_and, and_true, false_or, or_false, false_and, and_false, if_true, if_false, not_true_eq_false, not_false_eq_true, eq_self, Nat.reduceAdd, Nat.reduceLeDiff, Nat.reduceLT, Nat.reduceEqDiff, Nat.reduceMul, Nat.reduceSub, Nat.reduceDiv, Nat.reduceMod, reduceCtorEq, Nat.zero_le, i3_le, i3_lt, i3_eq, i3_eqN, i3_leN, i3_Nle, i3_ltN, i3_NleN, i3_NeqN, i3_Neq, i3_NltN, i3_Nlt, l6_le, l6_lt, l6_eq, l6_leN, l6_Nle, l6_ltN, l6_Nlt, l6_eqN, l6_Neq, b1, b2, b3, b4, h, ux_eq, i3_mul, f3, i3_add]
    · rw [e3 j (by omega), ux_ne (by omega), ux_ne (by omega)]
    · by_cases hj0 : j = 0
      · subst hj0
        rw [Nat.add_zero, Nat.add_zero, e3 nb (by omega), ux_ne (by omega), ux_at]
      · have := e4 (j - 1) (by omega)
        rw [show nb + 1 + (j - 1) = nb + j by omega, show i + 1 + (j - 1) = i + j by omega] at this
        exact this
    · rw [e5 a j hq, ux_ne (by omega), ux_ne (by omega)]
theorem J_feed {a0 : Int32} {v : Int64} : rl_pair G x K_H_feed K_M_feed [.int a0, .long v] := by
  intro N Z C L R D h
  have hz := h.2.2.2.2.2.2.2.2.1
  by_cases h1 : Int32.ofNat 1 ≤ a0 ∧ a0 ≤ Int32.ofNat 8
  · obtain ⟨n, hn, rfl⟩ := i3_rng (by decide) ⟨Int32.le_trans (by decide) h1.1, h1.2⟩
    obtain ⟨s1, s2, s3⟩ := h.1.2.2.2.2.2.1
    have hB : ∀ d (L : Nat → Nat → Int64), 0 ≤ d := fun d L => Nat.zero_le d
    generalize hnb : N 31 6 = nb at *
    have b1 : nb + n < 2147483648 := by omega
    by_cases h2 : nb + n ≤ 160
    · have h2' : ¬ 160 < nb + n := by omega
      obtain ⟨C1, e1, w1, f1, f2, f3⟩ := l_H_feed (G := G) (x := x) (d := 98) (v := v) (Z := Z) (L := L) (R := R) (D := D) n 0 nb C rfl (Nat.zero_le _) hn s1 (by omega)
      rw [Nat.sub_zero] at e1 w1
      have m6 := (f3 31 6 (by omega)).trans s2
      obtain ⟨C2, e2, w2, g1, g2, g3⟩ := l_M_feed (G := G) (x := x) (d := 99) (v := v) (Z := Z) (L := L) (R := R) (D := D) n 0 nb C1 rfl (Nat.zero_le _) hn m6 (by omega)
      rw [Nat.sub_zero] at e2 w2
      generalize hN : (fun a j => if a = 34 ∧ nb ≤ j then fd v (j - nb) else if a = 31 ∧ j = 6 then nb + n else N a j : Nat → Nat → Nat) = N'
      have nn : ∀ a j, ¬ (a = 34 ∧ nb ≤ j ∨ a = 31 ∧ j = 6) → N' a j = N a j := fun a j q => by rw [← hN]; simp only; rw [if_neg (by omega), if_neg (by omega)]
      have n6 : N' 31 6 = nb + n := by rw [← hN]; simp only; rw [if_neg (by omega), if_pos ⟨trivial, trivial⟩]
      have n34 : ∀ j, N' 34 (nb + j) = fd v j := fun j => by rw [← hN]; simp only; rw [if_pos ⟨trivial, by omega⟩, Nat.add_sub_cancel_left]
      have w1 : C2 7 1 = Int32.ofNat (nb + n) := (g3 7 1 (by omega)).trans w1
      have c2 : ∀ a j, ¬ (a = 8 ∨ a = 7 ∧ j = 1 ∨ a = 34 ∨ a = 31 ∧ j = 6) → C2 a j = C a j := fun a j q => by rw [g3 a j (by omega), f3 a j (by omega)]
      refine ⟨.int (Int32.ofNat (nb + n)), N', Z, C1, L, R, D, Z, C2, L, R, D, ?_, ?_, ?_, by omega, hz.2.1, fun _ _ => rfl⟩
      · have e1 : am_run G 99 K_H_feed (30, [some (.ref x), some (.int (Int32.ofNat n)), some (.long v), none, some (.int (Int32.ofNat 0))], [], am_mk x true Z C L R D) = some (some (.int (Int32.ofNat (nb + n))), am_mk x true Z C1 L R D) := e1
        simp only [e_H_feed, r_H_feed_0, r_H_feed_1, r_H_feed_2, r_H_feed_4, r_H_feed_7, r_H_feed_10, r_H_feed_12, r_H_feed_13, r_H_feed_14, r_H_feed_17, r_H_feed_18, r_H_feed_21, r_H_feed_24, r_H_feed_26, r_H_feed_27, r_H_feed_28, r_H_feed_28_k, r_H_feed_32, r_H_feed_33, r_H_feed_36, r_H_feed_37, r_H_feed_40, r_H_feed_41, r_H_feed_43, r_H_feed_45, r_H_feed_46, r_H_feed_47, r_H_feed_48, r_H_feed_51, r_H_feed_52, r_H_feed_55, r_H_feed_55_k, r_H_feed_58, r_H_feed_61, r_H_feed_62, r_H_feed_65, r_H_feed_68, ly_g0_11, ly_k7, ly_g7_1, i3n_0, i3n_1, i3n_2, i3n_4, i3n_8, i3n_255, l6n_0, l6n_1, e_Ta_hasRoom, r_Ta_hasRoom_0, r_Ta_hasRoom_1, r_Ta_hasRoom_4, r_Ta_hasRoom_5, r_Ta_hasRoom_6, r_Ta_hasRoom_7, r_Ta_hasRoom_10, r_Ta_hasRoom_11, r_Ta_hasRoom_14, r_Ta_hasRoom_15, r_Ta_hasRoom_18, r_Ta_hasRoom_19, ly_g7_0, ly_n8, ly_r8, ly_w8, am_kf_s, am_km_s, am_kn_s, am_k_v, am_k_0, am_isr_r, am_isr_n, am_isr_v, am_sw_0, am_sw_i, am_sw_l, am_sw_r, am_sw_n, am_sw_v, am_ct_i, am_ct_r, am_ct_n, am_c1_o, am_c1_n, am_c1_i, am_c1_r, am_c1_v, am_mk_1, lc_lt, lc_gt, lc_eq, lc_le, lc_ge, i01_eq, i01_ok, ite_not, true_or, or_true, true_and, and_true, false_or, or_false, false_and, and_false, if_true, if_false, not_true_eq_false, not_false_eq_true, eq_self, Nat.reduceAdd, Nat.reduceLeDiff, Nat.reduceLT, Nat.reduceEqDiff, Nat.reduceMul, Nat.reduceSub, Nat.reduceDiv, Nat.reduceMod, reduceCtorEq, Nat.zero_le, i3_le, i3_lt, i3_eq, i3_eqN, i3_leN, i3_Nle, i3_ltN, i3_NleN, i3_NeqN, i3_Neq, i3_NltN, i3_Nlt, l6_le, l6_lt, l6_eq, l6_leN, l6_Nle, l6_ltN, l6_Nlt, l6_eqN, l6_Neq, x_H_within, h1, and_self, s1, i3_add, b1, h2, h2', e1]
      · simp only [e_M_feed, r_M_feed_0, r_M_feed_1, r_M_feed_2, r_M_feed_3, r_M_feed_6, r_M_feed_9, r_M_feed_12, r_M_feed_14, r_M_feed_15, r_M_feed_16, r_M_feed_19, r_M_feed_20, r_M_feed_21, r_M_feed_24, r_M_feed_27, r_M_feed_29, r_M_feed_30, r_M_feed_31, r_M_feed_31_k, r_M_feed_35, r_M_feed_36, r_M_feed_39, r_M_feed_40, r_M_feed_43, r_M_feed_44, r_M_feed_47, r_M_feed_48, r_M_feed_50, r_M_feed_52, r_M_feed_53, r_M_feed_54, r_M_feed_57, r_M_feed_58, r_M_feed_59, r_M_feed_60, r_M_feed_61, r_M_feed_62, r_M_feed_65, r_M_feed_66, r_M_feed_67, r_M_feed_70, r_M_feed_70_k, r_M_feed_73, r_M_feed_76, r_M_feed_77, r_M_feed_80, ly_g31_6, ly_g31_5, ly_n34, ly_r34, ly_w34, ly_p31_6, i3n_0, i3n_1, i3n_2, i3n_4, i3n_8, i3n_160, l6n_0, l6n_1, l6n_8, l6n_255, am_kf_s, am_km_s, am_kn_s, am_k_v, am_k_0, am_isr_r, am_isr_n, am_isr_v, am_sw_0, am_sw_i, am_sw_l, am_sw_r, am_sw_n, am_sw_v, am_ct_i, am_ct_r, am_ct_n, am_c1_o, am_c1_n, am_c1_i, am_c1_r, am_c1_v, am_mk_1, lc_lt, lc_gt, lc_eq, lc_le, lc_ge, i01_eq, i01_ok, ite_not, true_or, or_true, true_and, and_true, false_or, or_false, false_and, and_false, if_true, if_false, not_true_eq_false, not_false_eq_true, eq_self, Nat.reduceAdd, Nat.reduceLeDiff, Nat.reduceLT, Nat.reduceEqDiff, Nat.reduceMul, Nat.reduceSub, Nat.reduceDiv, Nat.reduceMod, reduceCtorEq, Nat.zero_le, i3_le, i3_lt, i3_eq, i3_eqN, i3_leN, i3_Nle, i3_ltN, i3_NleN, i3_NeqN, i3_Neq, i3_NltN, i3_Nlt, l6_le, l6_lt, l6_eq, l6_leN, l6_Nle, l6_ltN, l6_Nlt, l6_eqN, l6_Neq, x_M_in, w_leL, w_leR, h1, and_self, m6, i3_add, b1, h2, e2]
      · obtain ⟨hs, hst, hha, hni, hte, htp, him, hsh, hZ, hS, h58, hu⟩ := h
        refine ⟨by
          obtain ⟨q1, q2, q3, q4, q5, q6, q7, q8, q9, q10⟩ := hs
          exact ⟨by rw [c2 0 5 (by omega), c2 31 13 (by omega), nn 31 13 (by omega)]; exact q1, by rw [c2 0 6 (by omega), c2 31 17 (by omega), nn 31 17 (by omega)]; exact q2, by rw [c2 0 7 (by omega), c2 31 27 (by omega), nn 31 27 (by omega)]; exact q3, by rw [c2 0 8 (by omega), c2 31 3 (by omega), nn 31 3 (by omega)]; exact q4, by rw [c2 0 10 (by omega), c2 31 4 (by omega), nn 31 4 (by omega), nn 31 3 (by omega)]; exact q5, ⟨by rw [n6]; exact w1, by rw [n6]; exact w2, by rw [n6]; omega⟩, by rw [c2 6 0 (by omega), c2 31 7 (by omega), nn 31 7 (by omega)]; exact q7, by rw [c2 6 1 (by omega), c2 31 8 (by omega), nn 31 8 (by omega)]; exact q8, by rw [c2 6 2 (by omega), c2 31 9 (by omega), nn 31 9 (by omega)]; exact q9, by rw [c2 6 3 (by omega), c2 31 10 (by omega), nn 31 10 (by omega)]; exact q10⟩, rl_st_fr hst hs.1.2.2 (nn _ _ (by omega)) (fun j => ⟨nn _ _ (by omega), nn _ _ (by omega)⟩) (fun j => ⟨c2 _ _ (by omega), c2 _ _ (by omega)⟩) (fun k j q1 q2 => c2 _ _ (by omega)) (fun j => rfl) rl_zt_rf, rl_ha_fr hha hs.2.1.2.2 (nn _ _ (by omega)) (Nat.le_of_eq (nn 31 13 (by omega)).symm) (fun k j q1 q2 => nn _ _ (by omega)) (fun k j q1 q2 => c2 _ _ (by omega)) (fun k j q1 q2 q3 => c2 _ _ (by omega)) (fun j => rfl) (fun k j q1 q2 => rfl) rl_zt_rf, rl_ni_fr hni hs.2.2.1.2.2 hs.2.1.2.2 (nn _ _ (by omega)) (Nat.le_of_eq (nn 31 17 (by omega)).symm) (fun k j q1 q2 => nn _ _ (by omega)) (fun k j q1 q2 => c2 _ _ (by omega)) (fun k j q1 q2 => c2 _ _ (by omega)) (fun j => rfl) (fun k j q1 q2 => rfl) rl_zt_rf (fun _ _ => rfl), rl_te_fr hte hs.2.2.2.1.2.2 (nn _ _ (by omega)) (fun j => ⟨nn _ _ (by omega), nn _ _ (by omega)⟩) (fun j => ⟨c2 _ _ (by omega), c2 _ _ (by omega)⟩) (fun k j q1 q2 => c2 _ _ (by omega)) (fun j => rfl) (fun k j q1 q2 => rfl) rl_zt_rf, ?_, rl_im_fr him hs.2.1.2.2 (fun j q1 q2 => nn _ _ (by omega)) (fun j => nn _ _ (by omega)) (fun i q => (Nat.le_of_eq (nn 40 i (by omega)).symm)) (fun i k q1 q2 => nn _ _ (by omega)) (Nat.le_of_eq (nn 31 27 (by omega)).symm) (Nat.le_of_eq (nn 31 17 (by omega)).symm) (Nat.le_of_eq (nn 31 3 (by omega)).symm) (Nat.le_of_eq (nn 31 13 (by omega)).symm) (fun j q1 q2 => c2 _ _ (by omega)) (fun j q1 q2 => c2 _ _ (by omega)) (fun j => ⟨c2 _ _ (by omega), c2 _ _ (by omega)⟩) (fun i q => by have := hs.2.1.2.2; exact c2 _ _ (by omega)) (fun i j q => by have := hs.2.1.2.2; exact c2 _ _ (by omega)), rl_sh_fr hsh (fun k j q1 q2 => c2 _ _ (by omega)) (fun k j q1 q2 => c2 _ _ (by omega)) (fun j => rfl), hZ, hS, h58, hu⟩
        intro j hj
        rw [n6] at hj
        by_cases hjn : j < nb
        · rw [g3 8 j (by omega), f1 j hjn, g1 j hjn, f3 34 j (by omega), nn 34 j (by omega)]
          exact htp j (by omega)
        · obtain ⟨i, rfl⟩ : ∃ i, j = nb + i := ⟨j - nb, by omega⟩
          have q1 := f2 i (by omega)
          have q2 := g2 i (by omega)
          rw [Nat.zero_add] at q1 q2
          rw [g3 8 _ (by omega), q1, q2, n34]
          exact ⟨rfl, rfl, (fd_spec v i).1⟩
    · have h2' : 160 < nb + n := by omega
      refine ⟨.int (-Int32.ofNat 4), N, Z, C, L, R, D, Z, C, L, R, D, ?_, ?_, h, by omega, hz.2.1, fun _ _ => rfl⟩
      · simp only [e_H_feed, r_H_feed_0, r_H_feed_1, r_H_feed_2, r_H_feed_4, r_H_feed_7, r_H_feed_10, r_H_feed_12, r_H_feed_13, r_H_feed_14, r_H_feed_17, r_H_feed_18, r_H_feed_21, r_H_feed_24, r_H_feed_26, r_H_feed_27, r_H_feed_28, r_H_feed_28_k, r_H_feed_32, r_H_feed_33, r_H_feed_36, r_H_feed_37, r_H_feed_40, r_H_feed_41, r_H_feed_43, r_H_feed_45, r_H_feed_46, r_H_feed_47, r_H_feed_48, r_H_feed_51, r_H_feed_52, r_H_feed_55, r_H_feed_55_k, r_H_feed_58, r_H_feed_61, r_H_feed_62, r_H_feed_65, r_H_feed_68, ly_g0_11, ly_k7, ly_g7_1, i3n_0, i3n_1, i3n_2, i3n_4, i3n_8, i3n_255, l6n_0, l6n_1, e_Ta_hasRoom, r_Ta_hasRoom_0, r_Ta_hasRoom_1, r_Ta_hasRoom_4, r_Ta_hasRoom_5, r_Ta_hasRoom_6, r_Ta_hasRoom_7, r_Ta_hasRoom_10, r_Ta_hasRoom_11, r_Ta_hasRoom_14, r_Ta_hasRoom_15, r_Ta_hasRoom_18, r_Ta_hasRoom_19, ly_g7_0, ly_n8, ly_r8, ly_w8, am_kf_s, am_km_s, am_kn_s, am_k_v, am_k_0, am_isr_r, am_isr_n, am_isr_v, am_sw_0, am_sw_i, am_sw_l, am_sw_r, am_sw_n, am_sw_v, am_ct_i, am_ct_r, am_ct_n, am_c1_o, am_c1_n, am_c1_i, am_c1_r, am_c1_v, am_mk_1, lc_lt, lc_gt, lc_eq, lc_le, lc_ge, i01_eq, i01_ok, ite_not, true_or, or_true, true_and, and_true, false_or, or_false, false_and, and_false, if_true, if_false, not_true_eq_false, not_false_eq_true, eq_self, Nat.reduceAdd, Nat.reduceLeDiff, Nat.reduceLT, Nat.reduceEqDiff, Nat.reduceMul, Nat.reduceSub, Nat.reduceDiv, Nat.reduceMod, reduceCtorEq, Nat.zero_le, i3_le, i3_lt, i3_eq, i3_eqN, i3_leN, i3_Nle, i3_ltN, i3_NleN, i3_NeqN, i3_Neq, i3_NltN, i3_Nlt, l6_le, l6_lt, l6_eq, l6_leN, l6_Nle, l6_ltN, l6_Nlt, l6_eqN, l6_Neq, x_H_within, h1, and_self, s1, i3_add, b1, h2, h2']
      · simp only [e_M_feed, r_M_feed_0, r_M_feed_1, r_M_feed_2, r_M_feed_3, r_M_feed_6, r_M_feed_9, r_M_feed_12, r_M_feed_14, r_M_feed_15, r_M_feed_16, r_M_feed_19, r_M_feed_20, r_M_feed_21, r_M_feed_24, r_M_feed_27, r_M_feed_29, r_M_feed_30, r_M_feed_31, r_M_feed_31_k, r_M_feed_35, r_M_feed_36, r_M_feed_39, r_M_feed_40, r_M_feed_43, r_M_feed_44, r_M_feed_47, r_M_feed_48, r_M_feed_50, r_M_feed_52, r_M_feed_53, r_M_feed_54, r_M_feed_57, r_M_feed_58, r_M_feed_59, r_M_feed_60, r_M_feed_61, r_M_feed_62, r_M_feed_65, r_M_feed_66, r_M_feed_67, r_M_feed_70, r_M_feed_70_k, r_M_feed_73, r_M_feed_76, r_M_feed_77, r_M_feed_80, ly_g31_6, ly_g31_5, ly_n34, ly_r34, ly_w34, ly_p31_6, i3n_0, i3n_1, i3n_2, i3n_4, i3n_8, i3n_160, l6n_0, l6n_1, l6n_8, l6n_255, am_kf_s, am_km_s, am_kn_s, am_k_v, am_k_0, am_isr_r, am_isr_n, am_isr_v, am_sw_0, am_sw_i, am_sw_l, am_sw_r, am_sw_n, am_sw_v, am_ct_i, am_ct_r, am_ct_n, am_c1_o, am_c1_n, am_c1_i, am_c1_r, am_c1_v, am_mk_1, lc_lt, lc_gt, lc_eq, lc_le, lc_ge, i01_eq, i01_ok, ite_not, true_or, or_true, true_and, and_true, false_or, or_false, false_and, and_false, if_true, if_false, not_true_eq_false, not_false_eq_true, eq_self, Nat.reduceAdd, Nat.reduceLeDiff, Nat.reduceLT, Nat.reduceEqDiff, Nat.reduceMul, Nat.reduceSub, Nat.reduceDiv, Nat.reduceMod, reduceCtorEq, Nat.zero_le, i3_le, i3_lt, i3_eq, i3_eqN, i3_leN, i3_Nle, i3_ltN, i3_NleN, i3_NeqN, i3_Neq, i3_NltN, i3_Nlt, l6_le, l6_lt, l6_eq, l6_leN, l6_Nle, l6_ltN, l6_Nlt, l6_eqN, l6_Neq, x_M_in, w_leL, w_leR, h1, and_self, s2, i3_add, b1, h2]
  · refine ⟨.int (-Int32.ofNat 2), N, Z, C, L, R, D, Z, C, L, R, D, ?_, ?_, h, by omega, hz.2.1, fun _ _ => rfl⟩
    · simp only [e_H_feed, r_H_feed_0, r_H_feed_1, r_H_feed_2, r_H_feed_4, r_H_feed_7, r_H_feed_10, r_H_feed_12, r_H_feed_13, r_H_feed_14, r_H_feed_17, r_H_feed_18, r_H_feed_21, r_H_feed_24, r_H_feed_26, r_H_feed_27, r_H_feed_28, r_H_feed_28_k, r_H_feed_32, r_H_feed_33, r_H_feed_36, r_H_feed_37, r_H_feed_40, r_H_feed_41, r_H_feed_43, r_H_feed_45, r_H_feed_46, r_H_feed_47, r_H_feed_48, r_H_feed_51, r_H_feed_52, r_H_feed_55, r_H_feed_55_k, r_H_feed_58, r_H_feed_61, r_H_feed_62, r_H_feed_65, r_H_feed_68, ly_g0_11, ly_k7, ly_g7_1, i3n_0, i3n_1, i3n_2, i3n_4, i3n_8, i3n_255, l6n_0, l6n_1, am_kf_s, am_km_s, am_kn_s, am_k_v, am_k_0, am_isr_r, am_isr_n, am_isr_v, am_sw_0, am_sw_i, am_sw_l, am_sw_r, am_sw_n, am_sw_v, am_ct_i, am_ct_r, am_ct_n, am_c1_o, am_c1_n, am_c1_i, am_c1_r, am_c1_v, am_mk_1, lc_lt, lc_gt, lc_eq, lc_le, lc_ge, i01_eq, i01_ok, ite_not, true_or, or_true, true_and, and_true, false_or, or_false, false_and, and_false, if_true, if_false, not_true_eq_false, not_false_eq_true, eq_self, Nat.reduceAdd, Nat.reduceLeDiff, Nat.reduceLT, Nat.reduceEqDiff, Nat.reduceMul, Nat.reduceSub, Nat.reduceDiv, Nat.reduceMod, reduceCtorEq, Nat.zero_le, i3_le, i3_lt, i3_eq, i3_eqN, i3_leN, i3_Nle, i3_ltN, i3_NleN, i3_NeqN, i3_Neq, i3_NltN, i3_Nlt, l6_le, l6_lt, l6_eq, l6_leN, l6_Nle, l6_ltN, l6_Nlt, l6_eqN, l6_Neq, x_H_within, h1]
    · simp only [e_M_feed, r_M_feed_0, r_M_feed_1, r_M_feed_2, r_M_feed_3, r_M_feed_6, r_M_feed_9, r_M_feed_12, r_M_feed_14, r_M_feed_15, r_M_feed_16, r_M_feed_19, r_M_feed_20, r_M_feed_21, r_M_feed_24, r_M_feed_27, r_M_feed_29, r_M_feed_30, r_M_feed_31, r_M_feed_31_k, r_M_feed_35, r_M_feed_36, r_M_feed_39, r_M_feed_40, r_M_feed_43, r_M_feed_44, r_M_feed_47, r_M_feed_48, r_M_feed_50, r_M_feed_52, r_M_feed_53, r_M_feed_54, r_M_feed_57, r_M_feed_58, r_M_feed_59, r_M_feed_60, r_M_feed_61, r_M_feed_62, r_M_feed_65, r_M_feed_66, r_M_feed_67, r_M_feed_70, r_M_feed_70_k, r_M_feed_73, r_M_feed_76, r_M_feed_77, r_M_feed_80, ly_g31_6, ly_g31_5, ly_n34, ly_r34, ly_w34, ly_p31_6, i3n_0, i3n_1, i3n_2, i3n_4, i3n_8, i3n_160, l6n_0, l6n_1, l6n_8, l6n_255, am_kf_s, am_km_s, am_kn_s, am_k_v, am_k_0, am_isr_r, am_isr_n, am_isr_v, am_sw_0, am_sw_i, am_sw_l, am_sw_r, am_sw_n, am_sw_v, am_ct_i, am_ct_r, am_ct_n, am_c1_o, am_c1_n, am_c1_i, am_c1_r, am_c1_v, am_mk_1, lc_lt, lc_gt, lc_eq, lc_le, lc_ge, i01_eq, i01_ok, ite_not, true_or, or_true, true_and, and_true, false_or, or_false, false_and, and_false, if_true, if_false, not_true_eq_false, not_false_eq_true, eq_self, Nat.reduceAdd, Nat.reduceLeDiff, Nat.reduceLT, Nat.reduceEqDiff, Nat.reduceMul, Nat.reduceSub, Nat.reduceDiv, Nat.reduceMod, reduceCtorEq, Nat.zero_le, i3_le, i3_lt, i3_eq, i3_eqN, i3_leN, i3_Nle, i3_ltN, i3_NleN, i3_NeqN, i3_Neq, i3_NltN, i3_Nlt, l6_le, l6_lt, l6_eq, l6_leN, l6_Nle, l6_ltN, l6_Nlt, l6_eqN, l6_Neq, x_M_in, w_leL, w_leR, h1]
end
