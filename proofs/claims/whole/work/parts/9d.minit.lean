/-! the reference's constructor -/
theorem ok_10_1 {a : Nat} : am_okf (am_fty 10 1) (.ref a) = true := rfl
theorem ok_10_2 {a : Nat} : am_okf (am_fty 10 2) (.ref a) = true := rfl
theorem ok_10_5 {a : Nat} : am_okf (am_fty 10 5) (.ref a) = true := rfl
theorem ok_10_11 {a : Nat} : am_okf (am_fty 10 11) (.ref a) = true := rfl
theorem ok_10_12 {a : Nat} : am_okf (am_fty 10 12) (.ref a) = true := rfl
theorem ok_10_14 {a : Nat} : am_okf (am_fty 10 14) (.ref a) = true := rfl
theorem ok_10_15 {a : Nat} : am_okf (am_fty 10 15) (.ref a) = true := rfl
theorem ok_10_16 {a : Nat} : am_okf (am_fty 10 16) (.ref a) = true := rfl
theorem ok_10_18 {a : Nat} : am_okf (am_fty 10 18) (.ref a) = true := rfl
theorem ok_10_19 {a : Nat} : am_okf (am_fty 10 19) (.ref a) = true := rfl
theorem ok_10_20 {a : Nat} : am_okf (am_fty 10 20) (.ref a) = true := rfl
theorem ok_10_21 {a : Nat} : am_okf (am_fty 10 21) (.ref a) = true := rfl
theorem ok_10_22 {a : Nat} : am_okf (am_fty 10 22) (.ref a) = true := rfl
theorem ok_10_23 {a : Nat} : am_okf (am_fty 10 23) (.ref a) = true := rfl
theorem ok_10_24 {a : Nat} : am_okf (am_fty 10 24) (.ref a) = true := rfl
theorem ok_10_25 {a : Nat} : am_okf (am_fty 10 25) (.ref a) = true := rfl
theorem ok_10_26 {a : Nat} : am_okf (am_fty 10 26) (.ref a) = true := rfl
theorem ok_10_38 {a : Nat} : am_okf (am_fty 10 38) (.ref a) = true := rfl
theorem ok_10_39 {a : Nat} : am_okf (am_fty 10 39) (.ref a) = true := rfl
theorem ok_10_40 {a : Nat} : am_okf (am_fty 10 40) (.ref a) = true := rfl
theorem ok_10_44 {a : Nat} : am_okf (am_fty 10 44) (.ref a) = true := rfl
theorem ok_10_45 {a : Nat} : am_okf (am_fty 10 45) (.ref a) = true := rfl
theorem ok_10_54 {a : Nat} : am_okf (am_fty 10 54) (.ref a) = true := rfl
theorem ok_10_55 {a : Nat} : am_okf (am_fty 10 55) (.ref a) = true := rfl
theorem ok_10_56 {a : Nat} : am_okf (am_fty 10 56) (.ref a) = true := rfl
theorem ok_10_57 {a : Nat} : am_okf (am_fty 10 57) (.ref a) = true := rfl
def st_M : am_C := .inr (10, [.int (Int32.ofNat 0), .null, .null, .int (Int32.ofNat 0), .int (Int32.ofNat 0), .null, .int (Int32.ofNat 0), .int (Int32.ofNat 0), .int (Int32.ofNat 0), .int (Int32.ofNat 0), .int (Int32.ofNat 0), .null, .null, .int (Int32.ofNat 0), .null, .null, .null, .int (Int32.ofNat 0), .null, .null, .null, .null, .null, .null, .null, .null, .null, .int (Int32.ofNat 0), .int (Int32.ofNat 0), .int (Int32.ofNat 0), .int (Int32.ofNat 0), .int (Int32.ofNat 0), .long (Int64.ofNat 0), .int (Int32.ofNat 0), .int (Int32.ofNat 0), .int (Int32.ofNat 0), .int (Int32.ofNat 0), .int (Int32.ofNat 0), .null, .null, .null, .int (Int32.ofNat 0), .int (Int32.ofNat 0), .int (Int32.ofNat 0), .null, .null, .int (Int32.ofNat 0), .int (Int32.ofNat 0), .int (Int32.ofNat 0), .int (Int32.ofNat 0), .int (Int32.ofNat 0), .int (Int32.ofNat 0), .int (Int32.ofNat 0), .int (Int32.ofNat 0), .null, .null, .null, .null])
def st_C2 (C : Nat → Nat → Int32) : Nat → Nat → Int32 := fun k j => if 23 ≤ k ∧ k < 58 then (if (k = 23 ∨ k = 25 ∨ k = 27 ∨ k = 29) ∧ j = 0 then -Int32.ofNat 1 else Int32.ofNat 0) else C k j
def st_L2 (L : Nat → Nat → Int64) : Nat → Nat → Int64 := fun k j => if 23 ≤ k ∧ k < 58 then Int64.ofNat 0 else L k j
def st_R2 (R : Nat → Nat → Option Nat) : Nat → Nat → Option Nat := fun k j => if 23 ≤ k ∧ k < 58 then none else R k j
section
variable {G : Nat → Value} {x : Nat} {Z : ly_Z} {C : Nat → Nat → Int32} {L : Nat → Nat → Int64} {R : Nat → Nat → Option Nat} {f : Nat → am_C} {F : Nat → Option am_C}
theorem bl_true (hZ : ∀ q, x + 23 ≤ q → Z.1 q = none) (hf : ∀ o, o < 35 → f o = ly_S x (23 + o) (st_C2 C (23 + o)) (st_L2 L (23 + o)) (st_R2 R (23 + o))) : am_mk x false Z C L R (mwf (x + 23) 35 f F) = am_mk x true Z (st_C2 C) (st_L2 L) (st_R2 R) (x + 58, F) := by
  refine Prod.ext rfl (funext fun q => ?_)
  by_cases hb : x + 23 ≤ q ∧ q < x + 58
  · obtain ⟨o, rfl⟩ : ∃ o, q = x + 23 + o := ⟨q - (x + 23), by omega⟩
    have ho : o < 35 := by omega
    rw [bl_at hZ (by omega), mw_get ho, hf o ho, Nat.add_assoc x 23 o, ly_get (by
      unfold ly_st
      rw [decide_eq_true (show 23 ≤ 23 + o by omega), decide_eq_true (show 23 + o < 58 by omega)]
      simp)]
  · show ly_at x false Z C L R (mwf (x + 23) 35 f F) q = ly_at x true Z (st_C2 C) (st_L2 L) (st_R2 R) (x + 58, F) q
    unfold ly_at
    by_cases hs : x ≤ q ∧ ly_st false (q - x) = true
    · have hs2 : x ≤ q ∧ ly_st true (q - x) = true := ⟨hs.1, by
        have := hs.2
        unfold ly_st at this ⊢
        simp only [Bool.false_and, Bool.or_false] at this
        rw [this]; rfl⟩
      have h19 : q - x < 19 := by
        have := hs.2
        simp only [ly_st, Bool.false_and, Bool.or_false, decide_eq_true_eq] at this
        exact this
      rw [if_pos hs, if_pos hs2]
      have e1 : st_C2 C (q - x) = C (q - x) := funext fun j => if_neg (by omega)
      have e2 : st_L2 L (q - x) = L (q - x) := funext fun j => if_neg (by omega)
      have e3 : st_R2 R (q - x) = R (q - x) := funext fun j => if_neg (by omega)
      rw [e1, e2, e3]
    · have hs2 : ¬ (x ≤ q ∧ ly_st true (q - x) = true) := by
        rintro ⟨g1, g2⟩
        simp only [ly_st, Bool.true_and, Bool.or_eq_true, Bool.and_eq_true, decide_eq_true_eq] at g2
        refine hs ⟨g1, ?_⟩
        unfold ly_st
        rw [decide_eq_true (show q - x < 19 by omega)]
        rfl
      rw [if_neg hs, if_neg hs2]
      have eD : (mwf (x + 23) 35 f F).2 q = F q := if_neg (by omega)
      cases Z.1 q with
      | none => exact eD
      | some t =>
        simp only
        by_cases ht : Z.2 t = q ∧ 1000 ≤ t
        · have e1 : st_C2 C t = C t := funext fun j => if_neg (by omega)
          have e2 : st_L2 L t = L t := funext fun j => if_neg (by omega)
          have e3 : st_R2 R t = R t := funext fun j => if_neg (by omega)
          rw [if_pos ht, if_pos ht, e1, e2, e3]
        · rw [if_neg ht, if_neg ht]; exact eD
theorem st_C2_0 {k : Nat} (h1 : 23 ≤ k) (h2 : k < 58) (h3 : ¬ (k = 23 ∨ k = 25 ∨ k = 27 ∨ k = 29)) : st_C2 C k = fun _ => Int32.ofNat 0 := funext fun j => (if_pos ⟨h1, h2⟩).trans (if_neg (fun q => h3 q.1))
theorem st_L2_0 {k : Nat} (h1 : 23 ≤ k) (h2 : k < 58) : st_L2 L k = fun _ => Int64.ofNat 0 := funext fun j => if_pos ⟨h1, h2⟩
theorem st_R2_0 {k : Nat} (h1 : 23 ≤ k) (h2 : k < 58) : st_R2 R k = fun _ => none := funext fun j => if_pos ⟨h1, h2⟩
theorem M_init1 {d : Nat} {f8 : Nat → am_C} (hZ : ∀ q, x + 23 ≤ q → Z.1 q = none) (h8 : ∀ s, s < 4 → f8 (2 * s) = .inr (4, [.int (-Int32.ofNat 1), .int (Int32.ofNat 0), .ref (x + (24 + 2 * s))]) ∧ f8 (2 * s + 1) = .inl (0, 40, .inl (fun _ => Int32.ofNat 0))) : am_run G d K_M_init (0, [some (.ref (x + 23 + 8))], [], am_mk x false Z C L R (mwf (x + 23) 9 (wu f8 8 st_M) F)) = am_run G d K_M_init (213, [some (.ref (x + 31))], [], am_mk x true Z (st_C2 C) (st_L2 L) (st_R2 R) (x + 58, F)) := by
  have step : ∃ f35 : Nat → am_C, am_run G d K_M_init (0, [some (.ref (x + 23 + 8))], [], am_mk x false Z C L R (mwf (x + 23) 9 (wu f8 8 st_M) F)) = am_run G d K_M_init (213, [some (.ref (x + 23 + 8))], [], am_mk x false Z C L R (mwf (x + 23) 35 f35 F)) ∧ ∀ o, o < 35 → f35 o = ly_S x (23 + o) (st_C2 C (23 + o)) (st_L2 L (23 + o)) (st_R2 R (23 + o)) := by
    simp only [r_M_init_0, r_M_init_1, r_M_init_4, r_M_init_5, r_M_init_8, r_M_init_10, r_M_init_13, r_M_init_14, r_M_init_16, r_M_init_18, r_M_init_21, r_M_init_22, r_M_init_25, r_M_init_27, r_M_init_30, r_M_init_31, r_M_init_33, r_M_init_35, r_M_init_38, r_M_init_39, r_M_init_41, r_M_init_43, r_M_init_46, r_M_init_47, r_M_init_49, r_M_init_51, r_M_init_54, r_M_init_55, r_M_init_57, r_M_init_59, r_M_init_62, r_M_init_63, r_M_init_65, r_M_init_67, r_M_init_70, r_M_init_71, r_M_init_73, r_M_init_75, r_M_init_78, r_M_init_79, r_M_init_81, r_M_init_83, r_M_init_86, r_M_init_87, r_M_init_89, r_M_init_91, r_M_init_94, r_M_init_95, r_M_init_97, r_M_init_99, r_M_init_102, r_M_init_103, r_M_init_105, r_M_init_107, r_M_init_110, r_M_init_111, r_M_init_113, r_M_init_115, r_M_init_118, r_M_init_119, r_M_init_121, r_M_init_123, r_M_init_126, r_M_init_127, r_M_init_129, r_M_init_131, r_M_init_134, r_M_init_135, r_M_init_137, r_M_init_139, r_M_init_142, r_M_init_143, r_M_init_145, r_M_init_147, r_M_init_150, r_M_init_151, r_M_init_153, r_M_init_155, r_M_init_158, r_M_init_159, r_M_init_161, r_M_init_163, r_M_init_166, r_M_init_167, r_M_init_170, r_M_init_172, r_M_init_175, r_M_init_176, r_M_init_178, r_M_init_180, r_M_init_183, r_M_init_184, r_M_init_185, r_M_init_187, r_M_init_190, r_M_init_191, r_M_init_192, r_M_init_194, r_M_init_197, r_M_init_198, r_M_init_199, r_M_init_201, r_M_init_204, r_M_init_205, r_M_init_208, r_M_init_210, ly_g31_1, ly_n32, ly_r32, ly_w32, ly_g31_2, ly_n33, ly_r33, ly_w33, ly_g31_5, ly_n34, ly_r34, ly_w34, ly_g31_11, ly_n35, ly_r35, ly_w35, ly_g31_12, ly_n36, ly_r36, ly_w36, ly_g31_14, ly_n37, ly_r37, ly_w37, ly_g31_15, ly_n38, ly_r38, ly_w38, ly_g31_16, ly_n39, ly_r39, ly_w39, ly_g31_18, ly_n40, ly_r40, ly_w40, ly_g31_19, ly_n41, ly_r41, ly_w41, ly_g31_20, ly_n42, ly_r42, ly_w42, ly_g31_21, ly_n43, ly_r43, ly_w43, ly_g31_22, ly_n44, ly_r44, ly_w44, ly_g31_23, ly_n45, ly_r45, ly_w45, ly_g31_24, ly_n46, ly_r46, ly_w46, ly_g31_25, ly_n47, ly_r47, ly_w47, ly_g31_26, ly_n48, ly_r48, ly_w48, ly_g31_38, ly_n49, ly_r49, ly_w49, ly_g31_39, ly_n50, ly_r50, ly_w50, ly_g31_40, ly_n51, ly_r51, ly_w51, ly_g31_44, ly_n52, ly_r52, ly_w52, ly_g31_45, ly_n53, ly_r53, ly_w53, ly_g31_54, ly_n54, ly_r54, ly_w54, ly_g31_55, ly_n55, ly_r55, ly_w55, ly_g31_56, ly_n56, ly_r56, ly_w56, ly_g31_57, ly_n57, ly_r57, ly_w57, ly_k31, ly_g31_3, ly_p31_3, ly_g31_7, ly_p31_7, ly_g31_8, ly_p31_8, ly_g31_9, ly_p31_9, ly_g31_10, ly_p31_10, i3n_0, i3n_1, i3n_4, i3n_6, i3n_8, i3n_16, i3n_24, i3n_30, i3n_32, i3n_36, i3n_40, i3n_49, i3n_78, i3n_100, i3n_160, i3n_400, i3n_450, i3n_960, l6n_0, l6n_1, l6n_2336353775971016820, l6n_4260440569842507808, l6n_7305999860802658363, l6n_7596839335582773280, l6n_7809651206522169714, am_kf_s, am_km_s, am_kn_s, am_k_v, am_k_0, am_isr_r, am_isr_n, am_isr_v, am_sw_0, am_sw_i, am_sw_l, am_sw_r, am_sw_n, am_sw_v, am_ct_i, am_ct_r, am_ct_n, am_c1_o, am_c1_n, am_c1_i, am_c1_r, am_c1_v, am_mk_1, lc_lt, lc_gt, lc_eq, lc_le, lc_ge, i01_eq, i01_ok, ite_not, true_or, or_true, true_and, and_true, false_or, or_false, false_and, and_false, if_true, if_false, not_true_eq_false, not_false_eq_true, eq_self, Nat.reduceAdd, Nat.reduceLeDiff, Nat.reduceLT, Nat.reduceEqDiff, Nat.reduceMul, Nat.reduceSub, Nat.reduceDiv, Nat.reduceMod, reduceCtorEq, Nat.zero_le, i3_le, i3_lt, i3_eq, i3_eqN, i3_leN, i3_Nle, i3_ltN, i3_NleN, i3_NeqN, i3_Neq, i3_NltN, i3_Nlt, l6_le, l6_lt, l6_eq, l6_leN, l6_Nle, l6_ltN, l6_Nlt, l6_eqN, l6_Neq, st_M, wu_eq, mw_1, bl_1, bl_add hZ, bl_pf hZ, mw_newa, ok_int, ok_10_1, ok_10_2, ok_10_5, ok_10_11, ok_10_12, ok_10_14, ok_10_15, ok_10_16, ok_10_18, ok_10_19, ok_10_20, ok_10_21, ok_10_22, ok_10_23, ok_10_24, ok_10_25, ok_10_26, ok_10_38, ok_10_39, ok_10_40, ok_10_44, ok_10_45, ok_10_54, ok_10_55, ok_10_56, ok_10_57, List.length_set, List.length_cons, List.length_nil, and_self, ↓reduceIte]
    refine ⟨_, rfl, fun o ho => ?_⟩
    have oo : o = 0 ∨ o = 1 ∨ o = 2 ∨ o = 3 ∨ o = 4 ∨ o = 5 ∨ o = 6 ∨ o = 7 ∨ o = 8 ∨ o = 9 ∨ o = 10 ∨ o = 11 ∨ o = 12 ∨ o = 13 ∨ o = 14 ∨ o = 15 ∨ o = 16 ∨ o = 17 ∨ o = 18 ∨ o = 19 ∨ o = 20 ∨ o = 21 ∨ o = 22 ∨ o = 23 ∨ o = 24 ∨ o = 25 ∨ o = 26 ∨ o = 27 ∨ o = 28 ∨ o = 29 ∨ o = 30 ∨ o = 31 ∨ o = 32 ∨ o = 33 ∨ o = 34 := by omega
    rcases oo with rfl | rfl | rfl | rfl | rfl | rfl | rfl | rfl | rfl | rfl | rfl | rfl | rfl | rfl | rfl | rfl | rfl | rfl | rfl | rfl | rfl | rfl | rfl | rfl | rfl | rfl | rfl | rfl | rfl | rfl | rfl | rfl | rfl | rfl | rfl
    · exact (h8 0 (by decide)).1
    · exact (h8 0 (by decide)).2
    · exact (h8 1 (by decide)).1
    · exact (h8 1 (by decide)).2
    · exact (h8 2 (by decide)).1
    · exact (h8 2 (by decide)).2
    · exact (h8 3 (by decide)).1
    · exact (h8 3 (by decide)).2
    · rw [st_C2_0 (by omega) (by omega) (by omega), st_L2_0 (by omega) (by omega), st_R2_0 (by omega) (by omega)]
      simp only [wu_eq, Nat.reduceEqDiff, Nat.reduceAdd, ↓reduceIte, List.set_cons_zero, List.set_cons_succ]
      rfl
    all_goals
      rw [st_C2_0 (by omega) (by omega) (by omega), st_L2_0 (by omega) (by omega), st_R2_0 (by omega) (by omega)]
      simp only [wu_eq, Nat.reduceEqDiff, Nat.reduceAdd, ↓reduceIte]
      rfl
  obtain ⟨f35, e1, e2⟩ := step
  rw [e1, bl_true hZ e2]
end
/-- a byte of a long -/
def sp_b (w : Int64) (i : Nat) : Int32 := ((w >>> ((Int32.ofNat 56 - Int32.ofNat (8 * i)).toInt64 &&& 63)) &&& Int64.ofNat 255).toInt32
section
variable {G : Nat → Value} {x : Nat} {Z : ly_Z} {L : Nat → Nat → Int64} {R : Nat → Nat → Option Nat} {D : am_M}
theorem l_M_spell {d a : Nat} {w : Int64} (ha : a ≤ 900) : ∀ (r i : Nat) (C : Nat → Nat → Int32), 8 - i = r → i ≤ 8 → ∃ C', am_run G d K_M_spell (3, [some (.ref (x + 31)), some (.int (Int32.ofNat a)), some (.long w), none, some (.int (Int32.ofNat i))], [], am_mk x true Z C L R D) = some (none, am_mk x true Z C' L R D) ∧ (∀ j, i ≤ j → j < 8 → C' 32 (a + j) = sp_b w j) ∧ ∀ k j, ¬ (k = 32 ∧ a + i ≤ j ∧ j < a + 8) → C' k j = C k j := by
  intro r
  induction r with
  | zero =>
    intro i C hr hi
    have e : i = 8 := by omega
    subst e
    refine ⟨C, ?_, fun j h1 h2 => by omega, fun _ _ _ => rfl⟩
    rw [r_M_spell_3]
    simp only [r_M_spell_5, r_M_spell_7, r_M_spell_10, r_M_spell_11, r_M_spell_14, r_M_spell_15, r_M_spell_17, r_M_spell_18, r_M_spell_19, r_M_spell_21, r_M_spell_23, r_M_spell_25, r_M_spell_26, r_M_spell_27, r_M_spell_28, r_M_spell_31, r_M_spell_32, r_M_spell_33, r_M_spell_34, r_M_spell_34_k, r_M_spell_37, r_M_spell_40, ly_g31_1, ly_n32, ly_r32, ly_w32, i3n_0, i3n_1, i3n_8, i3n_56, l6n_0, l6n_1, l6n_255, am_kf_s, am_km_s, am_kn_s, am_k_v, am_k_0, am_isr_r, am_isr_n, am_isr_v, am_sw_0, am_sw_i, am_sw_l, am_sw_r, am_sw_n, am_sw_v, am_ct_i, am_ct_r, am_ct_n, am_c1_o, am_c1_n, am_c1_i, am_c1_r, am_c1_v, am_mk_1, lc_lt, lc_gt, lc_eq, lc_le, lc_ge, i01_eq, i01_ok, ite_not, true_or, or_true, true_and, and_true, false_or, or_false, false_and, and_false, if_true, if_false, not_true_eq_false, not_false_eq_true, eq_self, Nat.reduceAdd, Nat.reduceLeDiff, Nat.reduceLT, Nat.reduceEqDiff, Nat.reduceMul, Nat.reduceSub, Nat.reduceDiv, Nat.reduceMod, reduceCtorEq, Nat.zero_le, i3_le, i3_lt, i3_eq, i3_eqN, i3_leN, i3_Nle, i3_ltN, i3_NleN, i3_NeqN, i3_Neq, i3_NltN, i3_Nlt, l6_le, l6_lt, l6_eq, l6_leN, l6_Nle, l6_ltN, l6_Nlt, l6_eqN, l6_Neq, ↓reduceIte]
  | succ r ih =>
    intro i C hr hi
    have hi8 : i < 8 := by omega
    have b1 : i < 2147483648 := by omega
    have b2 : ¬ 8 ≤ i := by omega
    have b3 : a + i < 960 := by omega
    obtain ⟨C', e1, e2, e3⟩ := ih (i + 1) (ux C 32 (a + i) (sp_b w i)) (by omega) (by omega)
    refine ⟨C', ?_, fun j h1 h2 => ?_, fun k j q => by rw [e3 k j (by omega), ux_ne (by omega)]⟩
    · have eb : ((w >>> ((Int32.ofNat 56 - Int32.ofNat (8 * i)).toInt64 &&& 63)) &&& Int64.ofNat 255).toInt32 = sp_b w i := rfl
      rw [← e1, r_M_spell_3]
      simp only [r_M_spell_5, r_M_spell_7, r_M_spell_10, r_M_spell_11, r_M_spell_14, r_M_spell_15, r_M_spell_17, r_M_spell_18, r_M_spell_19, r_M_spell_21, r_M_spell_23, r_M_spell_25, r_M_spell_26, r_M_spell_27, r_M_spell_28, r_M_spell_31, r_M_spell_32, r_M_spell_33, r_M_spell_34, r_M_spell_34_k, r_M_spell_37, ly_g31_1, ly_n32, ly_r32, ly_w32, i3n_0, i3n_1, i3n_8, i3n_56, l6n_0, l6n_1, l6n_255, am_kf_s, am_km_s, am_kn_s, am_k_v, am_k_0, am_isr_r, am_isr_n, am_isr_v, am_sw_0, am_sw_i, am_sw_l, am_sw_r, am_sw_n, am_sw_v, am_ct_i, am_ct_r, am_ct_n, am_c1_o, am_c1_n, am_c1_i, am_c1_r, am_c1_v, am_mk_1, lc_lt, lc_gt, lc_eq, lc_le, lc_ge, i01_eq, i01_ok, ite_not, true_or, or_true, true_and, and_true, false_or, or_false, false_and, and_false, if_true, if_false, not_true_eq_false, not_false_eq_true, eq_self, Nat.reduceAdd, Nat.reduceLeDiff, Nat.reduceLT, Nat.reduceEqDiff, Nat.reduceMul, Nat.reduceSub, Nat.reduceDiv, Nat.reduceMod, reduceCtorEq, Nat.zero_le, i3_le, i3_lt, i3_eq, i3_eqN, i3_leN, i3_Nle, i3_ltN, i3_NleN, i3_NeqN, i3_Neq, i3_NltN, i3_Nlt, l6_le, l6_lt, l6_eq, l6_leN, l6_Nle, l6_ltN, l6_Nlt, l6_eqN, l6_Neq, b1, b2, b3, i3_mul, i3_add, eb, ↓reduceIte]
    · by_cases hj : j = i
      · subst hj; rw [e3 32 (a + j) (by omega), ux_at]
      · exact e2 j (by omega) h2
theorem x_M_spell {d a : Nat} {w : Int64} {C : Nat → Nat → Int32} (ha : a ≤ 900) : ∃ C', am_ex G (d + 1) K_M_spell [.ref (x + 31), .int (Int32.ofNat a), .long w] (am_mk x true Z C L R D) = some (none, am_mk x true Z C' L R D) ∧ (∀ j, j < 8 → C' 32 (a + j) = sp_b w j) ∧ ∀ k j, ¬ (k = 32 ∧ a ≤ j ∧ j < a + 8) → C' k j = C k j := by
  obtain ⟨C', e1, e2, e3⟩ := l_M_spell (G := G) (x := x) (Z := Z) (L := L) (R := R) (D := D) (d := d) (w := w) ha 8 0 C rfl (Nat.zero_le _)
  refine ⟨C', ?_, fun j hj => e2 j (Nat.zero_le _) hj, fun k j q => e3 k j (by omega)⟩
  rw [← e1]
  simp only [e_M_spell, r_M_spell_0, r_M_spell_1, r_M_spell_1_k, r_M_spell_5, r_M_spell_7, r_M_spell_10, r_M_spell_11, r_M_spell_14, r_M_spell_15, r_M_spell_17, r_M_spell_18, r_M_spell_19, r_M_spell_21, r_M_spell_23, r_M_spell_25, r_M_spell_26, r_M_spell_27, r_M_spell_28, r_M_spell_31, r_M_spell_32, r_M_spell_33, r_M_spell_34, r_M_spell_34_k, r_M_spell_37, r_M_spell_40, ly_g31_1, ly_n32, ly_r32, ly_w32, i3n_0, i3n_1, i3n_8, i3n_56, l6n_0, l6n_1, l6n_255, am_kf_s, am_km_s, am_kn_s, am_k_v, am_k_0, am_isr_r, am_isr_n, am_isr_v, am_sw_0, am_sw_i, am_sw_l, am_sw_r, am_sw_n, am_sw_v, am_ct_i, am_ct_r, am_ct_n, am_c1_o, am_c1_n, am_c1_i, am_c1_r, am_c1_v, am_mk_1, lc_lt, lc_gt, lc_eq, lc_le, lc_ge, i01_eq, i01_ok, ite_not, true_or, or_true, true_and, and_true, false_or, or_false, false_and, and_false, if_true, if_false, not_true_eq_false, not_false_eq_true, eq_self, Nat.reduceAdd, Nat.reduceLeDiff, Nat.reduceLT, Nat.reduceEqDiff, Nat.reduceMul, Nat.reduceSub, Nat.reduceDiv, Nat.reduceMod, reduceCtorEq, Nat.zero_le, i3_le, i3_lt, i3_eq, i3_eqN, i3_leN, i3_Nle, i3_ltN, i3_NleN, i3_NeqN, i3_Neq, i3_NltN, i3_Nlt, l6_le, l6_lt, l6_eq, l6_leN, l6_Nle, l6_ltN, l6_Nlt, l6_eqN, l6_Neq, ↓reduceIte]
end
theorem t0B_by : (∀ j, j < 8 → sp_b (Int64.ofNat 7809651206522169714) j = Int32.ofNat (t0B.getD j 0)) ∧ (∀ j, j < 8 → sp_b (Int64.ofNat 7305999860802658363) j = Int32.ofNat (t0B.getD (8 + j) 0)) ∧ (∀ j, j < 8 → sp_b (Int64.ofNat 2336353775971016820) j = Int32.ofNat (t0B.getD (16 + j) 0)) ∧ (∀ j, j < 8 → sp_b (Int64.ofNat 7596839335582773280) j = Int32.ofNat (t0B.getD (24 + j) 0)) ∧ (∀ j, j < 8 → sp_b (Int64.ofNat 4260440569842507808) j = Int32.ofNat (t0B.getD (32 + j) 0)) := by
  have k1 : ∀ j : Fin 8, sp_b (Int64.ofNat 7809651206522169714) j.val = Int32.ofNat (t0B.getD j.val 0) := by decide +kernel
  have k2 : ∀ j : Fin 8, sp_b (Int64.ofNat 7305999860802658363) j.val = Int32.ofNat (t0B.getD (8 + j.val) 0) := by decide +kernel
  have k3 : ∀ j : Fin 8, sp_b (Int64.ofNat 2336353775971016820) j.val = Int32.ofNat (t0B.getD (16 + j.val) 0) := by decide +kernel
  have k4 : ∀ j : Fin 8, sp_b (Int64.ofNat 7596839335582773280) j.val = Int32.ofNat (t0B.getD (24 + j.val) 0) := by decide +kernel
  have k5 : ∀ j : Fin 8, sp_b (Int64.ofNat 4260440569842507808) j.val = Int32.ofNat (t0B.getD (32 + j.val) 0) := by decide +kernel
  exact ⟨fun j hj => k1 ⟨j, hj⟩, fun j hj => k2 ⟨j, hj⟩, fun j hj => k3 ⟨j, hj⟩, fun j hj => k4 ⟨j, hj⟩, fun j hj => k5 ⟨j, hj⟩⟩
section
variable {G : Nat → Value} {x : Nat} {Z : ly_Z} {C : Nat → Nat → Int32} {L : Nat → Nat → Int64} {R : Nat → Nat → Option Nat} {F : Nat → Option am_C}
/-- the reference's first numbers -/
def st_n (j : Nat) : Nat := if j = 3 then 1 else if j = 7 then 49 else if j = 8 then 100 else if j = 9 then 450 else if j = 10 then 30 else 0
theorem x_M_init {f8 : Nat → am_C} (hZ : ∀ q, x + 23 ≤ q → Z.1 q = none) (h8 : ∀ s, s < 4 → f8 (2 * s) = .inr (4, [.int (-Int32.ofNat 1), .int (Int32.ofNat 0), .ref (x + (24 + 2 * s))]) ∧ f8 (2 * s + 1) = .inl (0, 40, .inl (fun _ => Int32.ofNat 0))) : ∃ C', am_ex G 100 K_M_init [.ref (x + 23 + 8)] (am_mk x false Z C L R (mwf (x + 23) 9 (wu f8 8 st_M) F)) = some (none, am_mk x true Z C' (st_L2 L) (st_R2 R) (x + 58, F)) ∧ (∀ k j, ¬ (k = 31 ∨ k = 32 ∨ k = 33) → C' k j = st_C2 C k j) ∧ (∀ j, C' 31 j = Int32.ofNat (st_n j)) ∧ C' 33 0 = Int32.ofNat 40 ∧ ∀ j, j < 40 → C' 32 j = Int32.ofNat (t0B.getD j 0) := by
  obtain ⟨C1, a1, b1, c1⟩ := x_M_spell (G := G) (x := x) (Z := Z) (L := st_L2 L) (R := st_R2 R) (D := (x + 58, F)) (d := 98) (a := 0) (w := Int64.ofNat 7809651206522169714) (C := st_C2 C) (by decide)
  obtain ⟨C2, a2, b2, c2⟩ := x_M_spell (G := G) (x := x) (Z := Z) (L := st_L2 L) (R := st_R2 R) (D := (x + 58, F)) (d := 98) (a := 8) (w := Int64.ofNat 7305999860802658363) (C := C1) (by decide)
  obtain ⟨C3, a3, b3, c3⟩ := x_M_spell (G := G) (x := x) (Z := Z) (L := st_L2 L) (R := st_R2 R) (D := (x + 58, F)) (d := 98) (a := 16) (w := Int64.ofNat 2336353775971016820) (C := C2) (by decide)
  obtain ⟨C4, a4, b4, c4⟩ := x_M_spell (G := G) (x := x) (Z := Z) (L := st_L2 L) (R := st_R2 R) (D := (x + 58, F)) (d := 98) (a := 24) (w := Int64.ofNat 7596839335582773280) (C := C3) (by decide)
  obtain ⟨C5, a5, b5, c5⟩ := x_M_spell (G := G) (x := x) (Z := Z) (L := st_L2 L) (R := st_R2 R) (D := (x + 58, F)) (d := 98) (a := 32) (w := Int64.ofNat 4260440569842507808) (C := C4) (by decide)
  obtain ⟨t1, t2, t3, t4, t5⟩ := t0B_by
  have cf : ∀ k j, ¬ k = 32 → C5 k j = st_C2 C k j := fun k j q => by rw [c5 k j (by omega), c4 k j (by omega), c3 k j (by omega), c2 k j (by omega), c1 k j (by omega)]
  have c31 : ∀ j, C5 31 j = Int32.ofNat 0 := fun j => by
    rw [cf 31 j (by omega)]
    unfold st_C2
    rw [if_pos (by omega), if_neg (by omega)]
  refine ⟨ux (ux (ux (ux (ux (ux C5 33 0 (Int32.ofNat 40)) 31 3 (Int32.ofNat 1)) 31 7 (Int32.ofNat 49)) 31 8 (Int32.ofNat 100)) 31 9 (Int32.ofNat 450)) 31 10 (Int32.ofNat 30), ?_, fun k j q => ?_, fun j => ?_, ?_, fun j hj => ?_⟩
  · rw [e_M_init, M_init1 hZ h8]
    simp only [r_M_init_213, r_M_init_214, r_M_init_215, r_M_init_218, r_M_init_221, r_M_init_222, r_M_init_224, r_M_init_227, r_M_init_230, r_M_init_231, r_M_init_233, r_M_init_236, r_M_init_239, r_M_init_240, r_M_init_242, r_M_init_245, r_M_init_248, r_M_init_249, r_M_init_251, r_M_init_254, r_M_init_257, r_M_init_258, r_M_init_261, r_M_init_262, r_M_init_264, r_M_init_265, r_M_init_266, r_M_init_267, r_M_init_270, r_M_init_271, r_M_init_273, r_M_init_276, r_M_init_277, r_M_init_279, r_M_init_282, r_M_init_283, r_M_init_286, r_M_init_289, r_M_init_290, r_M_init_292, r_M_init_295, ly_g31_1, ly_n32, ly_r32, ly_w32, ly_g31_2, ly_n33, ly_r33, ly_w33, ly_g31_5, ly_n34, ly_r34, ly_w34, ly_g31_11, ly_n35, ly_r35, ly_w35, ly_g31_12, ly_n36, ly_r36, ly_w36, ly_g31_14, ly_n37, ly_r37, ly_w37, ly_g31_15, ly_n38, ly_r38, ly_w38, ly_g31_16, ly_n39, ly_r39, ly_w39, ly_g31_18, ly_n40, ly_r40, ly_w40, ly_g31_19, ly_n41, ly_r41, ly_w41, ly_g31_20, ly_n42, ly_r42, ly_w42, ly_g31_21, ly_n43, ly_r43, ly_w43, ly_g31_22, ly_n44, ly_r44, ly_w44, ly_g31_23, ly_n45, ly_r45, ly_w45, ly_g31_24, ly_n46, ly_r46, ly_w46, ly_g31_25, ly_n47, ly_r47, ly_w47, ly_g31_26, ly_n48, ly_r48, ly_w48, ly_g31_38, ly_n49, ly_r49, ly_w49, ly_g31_39, ly_n50, ly_r50, ly_w50, ly_g31_40, ly_n51, ly_r51, ly_w51, ly_g31_44, ly_n52, ly_r52, ly_w52, ly_g31_45, ly_n53, ly_r53, ly_w53, ly_g31_54, ly_n54, ly_r54, ly_w54, ly_g31_55, ly_n55, ly_r55, ly_w55, ly_g31_56, ly_n56, ly_r56, ly_w56, ly_g31_57, ly_n57, ly_r57, ly_w57, ly_k31, ly_g31_3, ly_p31_3, ly_g31_7, ly_p31_7, ly_g31_8, ly_p31_8, ly_g31_9, ly_p31_9, ly_g31_10, ly_p31_10, i3n_0, i3n_1, i3n_4, i3n_6, i3n_8, i3n_16, i3n_24, i3n_30, i3n_32, i3n_36, i3n_40, i3n_49, i3n_78, i3n_100, i3n_160, i3n_400, i3n_450, i3n_960, l6n_0, l6n_1, l6n_2336353775971016820, l6n_4260440569842507808, l6n_7305999860802658363, l6n_7596839335582773280, l6n_7809651206522169714, am_kf_s, am_km_s, am_kn_s, am_k_v, am_k_0, am_isr_r, am_isr_n, am_isr_v, am_sw_0, am_sw_i, am_sw_l, am_sw_r, am_sw_n, am_sw_v, am_ct_i, am_ct_r, am_ct_n, am_c1_o, am_c1_n, am_c1_i, am_c1_r, am_c1_v, am_mk_1, lc_lt, lc_gt, lc_eq, lc_le, lc_ge, i01_eq, i01_ok, ite_not, true_or, or_true, true_and, and_true, false_or, or_false, false_and, and_false, if_true, if_false, not_true_eq_false, not_false_eq_true, eq_self, Nat.reduceAdd, Nat.reduceLeDiff, Nat.reduceLT, Nat.reduceEqDiff, Nat.reduceMul, Nat.reduceSub, Nat.reduceDiv, Nat.reduceMod, reduceCtorEq, Nat.zero_le, i3_le, i3_lt, i3_eq, i3_eqN, i3_leN, i3_Nle, i3_ltN, i3_NleN, i3_NeqN, i3_Neq, i3_NltN, i3_Nlt, l6_le, l6_lt, l6_eq, l6_leN, l6_Nle, l6_ltN, l6_Nlt, l6_eqN, l6_Neq, a1, a2, a3, a4, a5, ↓reduceIte]
  · rw [ux_ne (by omega), ux_ne (by omega), ux_ne (by omega), ux_ne (by omega), ux_ne (by omega), ux_ne (by omega), cf k j (by omega)]
  · unfold st_n
    simp only [ux_eq, true_and]
    by_cases q1 : j = 10
    · subst q1; rfl
    rw [if_neg q1]
    by_cases q2 : j = 9
    · subst q2; rfl
    rw [if_neg q2]
    by_cases q3 : j = 8
    · subst q3; rfl
    rw [if_neg q3]
    by_cases q4 : j = 7
    · subst q4; rfl
    rw [if_neg q4]
    by_cases q5 : j = 3
    · subst q5; rfl
    rw [if_neg q5, if_neg (by omega), c31, if_neg q5, if_neg q4, if_neg q3, if_neg q2, if_neg q1]
  · rw [ux_ne (by omega), ux_ne (by omega), ux_ne (by omega), ux_ne (by omega), ux_ne (by omega), ux_at]
  · rw [ux_ne (by omega), ux_ne (by omega), ux_ne (by omega), ux_ne (by omega), ux_ne (by omega), ux_ne (by omega)]
    by_cases q1 : j < 8
    · rw [c5 32 j (by omega), c4 32 j (by omega), c3 32 j (by omega), c2 32 j (by omega), ← t1 j q1, ← b1 j q1, Nat.zero_add]
    by_cases q2 : j < 16
    · obtain ⟨i, rfl⟩ : ∃ i, j = 8 + i := ⟨j - 8, by omega⟩
      rw [c5 32 _ (by omega), c4 32 _ (by omega), c3 32 _ (by omega), ← t2 i (by omega), ← b2 i (by omega)]
    by_cases q3 : j < 24
    · obtain ⟨i, rfl⟩ : ∃ i, j = 16 + i := ⟨j - 16, by omega⟩
      rw [c5 32 _ (by omega), c4 32 _ (by omega), ← t3 i (by omega), ← b3 i (by omega)]
    by_cases q4 : j < 32
    · obtain ⟨i, rfl⟩ : ∃ i, j = 24 + i := ⟨j - 24, by omega⟩
      rw [c5 32 _ (by omega), ← t4 i (by omega), ← b4 i (by omega)]
    · obtain ⟨i, rfl⟩ : ∃ i, j = 32 + i := ⟨j - 32, by omega⟩
      rw [← t5 i (by omega), ← b5 i (by omega)]
end
