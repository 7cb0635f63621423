/-! the class's words -/
def tp_S (G : Nat → Value) (x : Nat) (Z : ly_Z) (D : am_M) : Prop := am_isr (G 2) = true ∧ (∀ q, q < x → Z.1 q = none) ∧ ∀ i, i < 13 → ∃ k v, G (10 + i) = .ref k ∧ k < x ∧ v < x ∧ D.2 k = some (.inr (11, [.ref v, .int 0])) ∧ D.2 v = some (.inl (3, am_ln.getD i 0, .inl (am_bf i)))
theorem tp_S_get {G : Nat → Value} {x : Nat} {Z : ly_Z} {D : am_M} (h : tp_S G x Z D) {i : Nat} (hi : i < 13) : ∃ k v, G (10 + i) = .ref k ∧ ∀ (bb : Bool) (C : Nat → Nat → Int32) (L : Nat → Nat → Int64) (R : Nat → Nat → Option Nat), (am_mk x bb Z C L R D).2 k = some (.inr (11, [.ref v, .int 0])) ∧ (am_mk x bb Z C L R D).2 v = some (.inl (3, am_ln.getD i 0, .inl (am_bf i))) := by
  obtain ⟨-, h1, h2⟩ := h
  obtain ⟨k, v, e1, e2, e3, e4, e5⟩ := h2 i hi
  refine ⟨k, v, e1, fun bb C L R => ⟨?_, ?_⟩⟩
  · rw [ly_geto e2 (h1 k e2)]; exact e4
  · rw [ly_geto e3 (h1 v e3)]; exact e5
theorem tp_wd {w : Nat} (hw : w < 11) : am_ln.getD (w + 1) 0 = (pa_words.getD w []).length ∧ am_ln.getD (w + 1) 0 < 100 ∧ ∀ j, j < am_ln.getD (w + 1) 0 → am_bf (w + 1) j = Int32.ofNat ((pa_words.getD w []).getD j 0) ∧ (pa_words.getD w []).getD j 0 < 128 := by
  have key : ∀ w : Fin 11, am_ln.getD (w.val + 1) 0 = (pa_words.getD w.val []).length ∧ am_ln.getD (w.val + 1) 0 < 100 ∧ ∀ j : Fin 100, j.val < am_ln.getD (w.val + 1) 0 → am_bf (w.val + 1) j.val = Int32.ofNat ((pa_words.getD w.val []).getD j.val 0) ∧ (pa_words.getD w.val []).getD j.val 0 < 128 := by decide +kernel
  obtain ⟨h1, h2, h3⟩ := key ⟨w, hw⟩
  have h2 : am_ln.getD (w + 1) 0 < 100 := h2
  exact ⟨h1, h2, fun j hj => h3 ⟨j, by omega⟩ hj⟩
section
variable {G : Nat → Value} {d x : Nat} {bb : Bool} {Z : ly_Z} {C : Nat → Nat → Int32} {L : Nat → Nat → Int64} {R : Nat → Nat → Option Nat} {D : am_M} {b : Nat → Nat} {n : Nat}
theorem x_Ta_wordAt (hS : tp_S G x Z D) {M : am_M} {w : Nat} (hw : w < 11) : am_ex G (d + 1) K_Ta_wordAt [.int (Int32.ofNat w)] M = some (some (G (11 + w)), M) := by
  have hg : ∀ i, i < 13 → am_isr (G (10 + i)) = true := fun i hi => by
    obtain ⟨k, v, e, -⟩ := tp_S_get hS hi
    rw [e]
    exact am_isr_r
  have g1 := hg 1 (by decide)
  have g2 := hg 2 (by decide)
  have g3 := hg 3 (by decide)
  have g4 := hg 4 (by decide)
  have g5 := hg 5 (by decide)
  have g6 := hg 6 (by decide)
  have g7 := hg 7 (by decide)
  have g8 := hg 8 (by decide)
  have g9 := hg 9 (by decide)
  have g10 := hg 10 (by decide)
  have g11 := hg 11 (by decide)
  simp only [Nat.reduceAdd] at g1 g2 g3 g4 g5 g6 g7 g8 g9 g10 g11
  have : w = 0 ∨ w = 1 ∨ w = 2 ∨ w = 3 ∨ w = 4 ∨ w = 5 ∨ w = 6 ∨ w = 7 ∨ w = 8 ∨ w = 9 ∨ w = 10 := by omega
  rcases this with rfl | rfl | rfl | rfl | rfl | rfl | rfl | rfl | rfl | rfl | rfl <;> simp only [e_Ta_wordAt, r_Ta_wordAt_0, r_Ta_wordAt_1, r_Ta_wordAt_56, r_Ta_wordAt_58, r_Ta_wordAt_59, r_Ta_wordAt_61, r_Ta_wordAt_62, r_Ta_wordAt_64, r_Ta_wordAt_65, r_Ta_wordAt_67, r_Ta_wordAt_68, r_Ta_wordAt_70, r_Ta_wordAt_71, r_Ta_wordAt_73, r_Ta_wordAt_74, r_Ta_wordAt_76, r_Ta_wordAt_77, r_Ta_wordAt_79, r_Ta_wordAt_80, r_Ta_wordAt_82, r_Ta_wordAt_83, r_Ta_wordAt_85, r_Ta_wordAt_86, r_Ta_wordAt_88, i3n_0, i3n_1, i3n_2, i3n_3, i3n_4, i3n_5, i3n_6, i3n_7, i3n_8, i3n_9, l6n_0, l6n_1, am_kf_s, am_km_s, am_kn_s, am_k_v, am_k_0, am_isr_r, am_isr_n, am_isr_v, am_sw_0, am_sw_i, am_sw_l, am_sw_r, am_sw_n, am_sw_v, am_ct_i, am_ct_r, am_ct_n, am_c1_o, am_c1_n, am_c1_i, am_c1_r, am_c1_v, am_mk_1, lc_lt, lc_gt, lc_eq, lc_le, lc_ge, i01_eq, i01_ok, ite_not, true_or, or_true, true_and, and_true, false_or, or_false, false_and, and_false, if_true, if_false, not_true_eq_false, not_false_eq_true, eq_self, Nat.reduceAdd, Nat.reduceLeDiff, Nat.reduceLT, Nat.reduceEqDiff, Nat.reduceMul, Nat.reduceSub, Nat.reduceDiv, Nat.reduceMod, reduceCtorEq, Nat.zero_le, i3_le, i3_lt, i3_eq, i3_eqN, i3_leN, i3_Nle, i3_ltN, i3_NleN, i3_NeqN, i3_Neq, i3_NltN, i3_Nlt, l6_le, l6_lt, l6_eq, l6_leN, l6_Nle, l6_ltN, l6_Nlt, l6_eqN, l6_Neq, g1, g2, g3, g4, g5, g6, g7, g8, g9, g10, g11]
theorem l_Ta_isWord (h : tp_B b n C) (hS : tp_S G x Z D) {w s e : Nat} (hw : w < 11) (h4 : C 7 4 = Int32.ofNat s) (hse : s ≤ e) (hen : e ≤ n) (hl : (pa_words.getD w []).length = e - s) {q v : Nat} (hq : (am_mk x bb Z C L R D).2 q = some (.inr (11, [.ref v, .int 0]))) (hv : (am_mk x bb Z C L R D).2 v = some (.inl (3, am_ln.getD (w + 1) 0, .inl (am_bf (w + 1))))) : ∀ k i : Nat, e - s - i = k → i ≤ e - s → am_run G (d + 5) K_Ta_isWord (20, [some (.ref (x + 7)), some (.ref q), some (.int (Int32.ofNat i))], [], am_mk x bb Z C L R D) = some (some (.int (if (pa_words.getD w []).drop i = (pa_sub b s (e - s)).drop i then Int32.ofNat 1 else Int32.ofNat 0)), am_mk x bb Z C L R D) := by
  obtain ⟨w1, w2, w3⟩ := tp_wd hw
  have hn := h.2.1
  have hc : am_cls (am_mk x bb Z C L R D) q = some 11 := by rw [am_cls, hq]
  have hL := x_Js_length (G := G) (d := d + 3) hq hv
  have hl2 : am_ln.getD (w + 1) 0 < 2147483648 := by omega
  intro k
  induction k with
  | zero =>
    intro i hk hi
    have : i = e - s := by omega
    subst this
    have e1 : e - s < 2147483648 := by omega
    have e2 : am_ln.getD (w + 1) 0 ≤ e - s := by omega
    have e3 : ((pa_words.getD w []).drop (e - s) = (pa_sub b s (e - s)).drop (e - s)) := by
      rw [List.drop_of_length_le (by omega), List.drop_of_length_le (by rw [pa_sub_len]; omega)]
    rw [r_Ta_isWord_20]
    simp only [r_Ta_isWord_21, r_Ta_isWord_22, r_Ta_isWord_25, r_Ta_isWord_28, r_Ta_isWord_29, r_Ta_isWord_30, r_Ta_isWord_33, r_Ta_isWord_34, r_Ta_isWord_35, r_Ta_isWord_38, r_Ta_isWord_39, r_Ta_isWord_40, r_Ta_isWord_43, r_Ta_isWord_46, r_Ta_isWord_47, r_Ta_isWord_48, r_Ta_isWord_48_k, r_Ta_isWord_51, r_Ta_isWord_54, r_Ta_isWord_55, ly_g7_2, ly_g7_4, ly_k7, i3n_0, i3n_1, l6n_0, l6n_1, am_kf_s, am_km_s, am_kn_s, am_k_v, am_k_0, am_isr_r, am_isr_n, am_isr_v, am_sw_0, am_sw_i, am_sw_l, am_sw_r, am_sw_n, am_sw_v, am_ct_i, am_ct_r, am_ct_n, am_c1_o, am_c1_n, am_c1_i, am_c1_r, am_c1_v, am_mk_1, lc_lt, lc_gt, lc_eq, lc_le, lc_ge, i01_eq, i01_ok, ite_not, true_or, or_true, true_and, and_true, false_or, or_false, false_and, and_false, if_true, if_false, not_true_eq_false, not_false_eq_true, eq_self, Nat.reduceAdd, Nat.reduceLeDiff, Nat.reduceLT, Nat.reduceEqDiff, Nat.reduceMul, Nat.reduceSub, Nat.reduceDiv, Nat.reduceMod, reduceCtorEq, Nat.zero_le, i3_le, i3_lt, i3_eq, i3_eqN, i3_leN, i3_Nle, i3_ltN, i3_NleN, i3_NeqN, i3_Neq, i3_NltN, i3_Nlt, l6_le, l6_lt, l6_eq, l6_leN, l6_Nle, l6_ltN, l6_Nlt, l6_eqN, l6_Neq, hc, hL, hl2, e1, e2, e3]
  | succ k ih =>
    intro i hk hi
    have hie : i < e - s := by omega
    have e1 : i < 2147483648 := by omega
    have e2 : ¬ am_ln.getD (w + 1) 0 ≤ i := by omega
    obtain ⟨f1, f2⟩ := w3 i (by omega)
    have hB := x_Ta_byteAt (G := G) (d := d + 4) (x := x) (bb := bb) (Z := Z) (L := L) (R := R) (D := D) h (p := s + i) (by omega)
    have hC := x_Js_charAt (d := d + 1) (n := am_ln.getD (w + 1) 0) hS.1 hq hv (k := i) (by omega) hl2 f2 f1
    have f3 : (pa_words.getD w []).getD i 0 < 2147483648 := by omega
    have f4 : b (s + i) < 2147483648 := by have := h.2.2.1 (s + i) (by omega); omega
    have d1 : (pa_words.getD w []).drop i = (pa_words.getD w []).getD i 0 :: (pa_words.getD w []).drop (i + 1) := by
      rw [List.drop_eq_getElem_cons (by omega), List.getD_eq_getElem?_getD (i := i), List.getElem?_eq_getElem (by omega)]
      rfl
    have d2 : (pa_sub b s (e - s)).drop i = b (s + i) :: (pa_sub b s (e - s)).drop (i + 1) := by
      rw [List.drop_eq_getElem_cons (by rw [pa_sub_len]; omega)]
      congr 1
      exact Option.some.inj ((List.getElem?_eq_getElem (by rw [pa_sub_len]; omega)).symm.trans (pa_sub_get hie))
    rw [d1, d2, r_Ta_isWord_20]
    by_cases hg : (pa_words.getD w []).getD i 0 = b (s + i)
    · simp only [r_Ta_isWord_21, r_Ta_isWord_22, r_Ta_isWord_25, r_Ta_isWord_28, r_Ta_isWord_29, r_Ta_isWord_30, r_Ta_isWord_33, r_Ta_isWord_34, r_Ta_isWord_35, r_Ta_isWord_38, r_Ta_isWord_39, r_Ta_isWord_40, r_Ta_isWord_43, r_Ta_isWord_46, r_Ta_isWord_47, r_Ta_isWord_48, r_Ta_isWord_48_k, r_Ta_isWord_51, r_Ta_isWord_54, r_Ta_isWord_55, ly_g7_2, ly_g7_4, ly_k7, i3n_0, i3n_1, l6n_0, l6n_1, am_kf_s, am_km_s, am_kn_s, am_k_v, am_k_0, am_isr_r, am_isr_n, am_isr_v, am_sw_0, am_sw_i, am_sw_l, am_sw_r, am_sw_n, am_sw_v, am_ct_i, am_ct_r, am_ct_n, am_c1_o, am_c1_n, am_c1_i, am_c1_r, am_c1_v, am_mk_1, lc_lt, lc_gt, lc_eq, lc_le, lc_ge, i01_eq, i01_ok, ite_not, true_or, or_true, true_and, and_true, false_or, or_false, false_and, and_false, if_true, if_false, not_true_eq_false, not_false_eq_true, eq_self, Nat.reduceAdd, Nat.reduceLeDiff, Nat.reduceLT, Nat.reduceEqDiff, Nat.reduceMul, Nat.reduceSub, Nat.reduceDiv, Nat.reduceMod, reduceCtorEq, Nat.zero_le, i3_le, i3_lt, i3_eq, i3_eqN, i3_leN, i3_Nle, i3_ltN, i3_NleN, i3_NeqN, i3_Neq, i3_NltN, i3_Nlt, l6_le, l6_lt, l6_eq, l6_leN, l6_Nle, l6_ltN, l6_Nlt, l6_eqN, l6_Neq, hc, hL, hl2, e1, e2, hB, hC, h4, i3_add, f3, f4, hg]
      rw [ih (i + 1) (by omega) (by omega)]
      simp only [List.cons.injEq, true_and]
    · simp only [r_Ta_isWord_21, r_Ta_isWord_22, r_Ta_isWord_25, r_Ta_isWord_28, r_Ta_isWord_29, r_Ta_isWord_30, r_Ta_isWord_33, r_Ta_isWord_34, r_Ta_isWord_35, r_Ta_isWord_38, r_Ta_isWord_39, r_Ta_isWord_40, r_Ta_isWord_43, r_Ta_isWord_46, r_Ta_isWord_47, r_Ta_isWord_48, r_Ta_isWord_48_k, r_Ta_isWord_51, r_Ta_isWord_54, r_Ta_isWord_55, ly_g7_2, ly_g7_4, ly_k7, i3n_0, i3n_1, l6n_0, l6n_1, am_kf_s, am_km_s, am_kn_s, am_k_v, am_k_0, am_isr_r, am_isr_n, am_isr_v, am_sw_0, am_sw_i, am_sw_l, am_sw_r, am_sw_n, am_sw_v, am_ct_i, am_ct_r, am_ct_n, am_c1_o, am_c1_n, am_c1_i, am_c1_r, am_c1_v, am_mk_1, lc_lt, lc_gt, lc_eq, lc_le, lc_ge, i01_eq, i01_ok, ite_not, true_or, or_true, true_and, and_true, false_or, or_false, false_and, and_false, if_true, if_false, not_true_eq_false, not_false_eq_true, eq_self, Nat.reduceAdd, Nat.reduceLeDiff, Nat.reduceLT, Nat.reduceEqDiff, Nat.reduceMul, Nat.reduceSub, Nat.reduceDiv, Nat.reduceMod, reduceCtorEq, Nat.zero_le, i3_le, i3_lt, i3_eq, i3_eqN, i3_leN, i3_Nle, i3_ltN, i3_NleN, i3_NeqN, i3_Neq, i3_NltN, i3_Nlt, l6_le, l6_lt, l6_eq, l6_leN, l6_Nle, l6_ltN, l6_Nlt, l6_eqN, l6_Neq, hc, hL, hl2, e1, e2, hB, hC, h4, i3_add, f3, f4, hg, List.cons.injEq]
theorem x_Ta_isWord (h : tp_B b n C) (hS : tp_S G x Z D) {w s e : Nat} (hw : w < 11) (h2 : C 7 2 = Int32.ofNat e) (h4 : C 7 4 = Int32.ofNat s) (hse : s ≤ e) (hen : e ≤ n) {q v : Nat} (hq : (am_mk x bb Z C L R D).2 q = some (.inr (11, [.ref v, .int 0]))) (hv : (am_mk x bb Z C L R D).2 v = some (.inl (3, am_ln.getD (w + 1) 0, .inl (am_bf (w + 1))))) : am_ex G (d + 6) K_Ta_isWord [.ref (x + 7), .ref q] (am_mk x bb Z C L R D) = some (some (.int (if pa_words.getD w [] = pa_sub b s (e - s) then Int32.ofNat 1 else Int32.ofNat 0)), am_mk x bb Z C L R D) := by
  obtain ⟨w1, w2, w3⟩ := tp_wd hw
  have hn := h.2.1
  have hc : am_cls (am_mk x bb Z C L R D) q = some 11 := by rw [am_cls, hq]
  have hL := x_Js_length (G := G) (d := d + 3) hq hv
  have hl2 : am_ln.getD (w + 1) 0 < 2147483648 := by omega
  have e1 : e - s < 2147483648 := by omega
  by_cases hl : (pa_words.getD w []).length = e - s
  · have hl3 : am_ln.getD (w + 1) 0 = e - s := by omega
    have := l_Ta_isWord (d := d) h hS hw h4 hse hen hl hq hv (e - s - 0) 0 rfl (by omega)
    rw [List.drop_zero, List.drop_zero] at this
    simp only [e_Ta_isWord, r_Ta_isWord_0, r_Ta_isWord_1, r_Ta_isWord_4, r_Ta_isWord_5, r_Ta_isWord_8, r_Ta_isWord_9, r_Ta_isWord_12, r_Ta_isWord_13, r_Ta_isWord_16, r_Ta_isWord_17, r_Ta_isWord_18, r_Ta_isWord_19, r_Ta_isWord_19_k, r_Ta_isWord_21, r_Ta_isWord_22, r_Ta_isWord_25, r_Ta_isWord_28, r_Ta_isWord_29, r_Ta_isWord_30, r_Ta_isWord_33, r_Ta_isWord_34, r_Ta_isWord_35, r_Ta_isWord_38, r_Ta_isWord_39, r_Ta_isWord_40, r_Ta_isWord_43, r_Ta_isWord_46, r_Ta_isWord_47, r_Ta_isWord_48, r_Ta_isWord_48_k, r_Ta_isWord_51, r_Ta_isWord_54, r_Ta_isWord_55, ly_g7_2, ly_g7_4, ly_k7, i3n_0, i3n_1, l6n_0, l6n_1, am_kf_s, am_km_s, am_kn_s, am_k_v, am_k_0, am_isr_r, am_isr_n, am_isr_v, am_sw_0, am_sw_i, am_sw_l, am_sw_r, am_sw_n, am_sw_v, am_ct_i, am_ct_r, am_ct_n, am_c1_o, am_c1_n, am_c1_i, am_c1_r, am_c1_v, am_mk_1, lc_lt, lc_gt, lc_eq, lc_le, lc_ge, i01_eq, i01_ok, ite_not, true_or, or_true, true_and, and_true, false_or, or_false, false_and, and_false, if_true, if_false, not_true_eq_false, not_false_eq_true, eq_self, Nat.reduceAdd, Nat.reduceLeDiff, Nat.reduceLT, Nat.reduceEqDiff, Nat.reduceMul, Nat.reduceSub, Nat.reduceDiv, Nat.reduceMod, reduceCtorEq, Nat.zero_le, i3_le, i3_lt, i3_eq, i3_eqN, i3_leN, i3_Nle, i3_ltN, i3_NleN, i3_NeqN, i3_Neq, i3_NltN, i3_Nlt, l6_le, l6_lt, l6_eq, l6_leN, l6_Nle, l6_ltN, l6_Nlt, l6_eqN, l6_Neq, hc, hL, hl2, hl3, e1, h2, h4, i3_sub hse, this]
  · have hl3 : ¬ am_ln.getD (w + 1) 0 = e - s := by omega
    have hl4 : ¬ pa_words.getD w [] = pa_sub b s (e - s) := fun e => hl (by rw [e, pa_sub_len])
    simp only [e_Ta_isWord, r_Ta_isWord_0, r_Ta_isWord_1, r_Ta_isWord_4, r_Ta_isWord_5, r_Ta_isWord_8, r_Ta_isWord_9, r_Ta_isWord_12, r_Ta_isWord_13, r_Ta_isWord_16, r_Ta_isWord_17, r_Ta_isWord_18, r_Ta_isWord_19, r_Ta_isWord_19_k, r_Ta_isWord_21, r_Ta_isWord_22, r_Ta_isWord_25, r_Ta_isWord_28, r_Ta_isWord_29, r_Ta_isWord_30, r_Ta_isWord_33, r_Ta_isWord_34, r_Ta_isWord_35, r_Ta_isWord_38, r_Ta_isWord_39, r_Ta_isWord_40, r_Ta_isWord_43, r_Ta_isWord_46, r_Ta_isWord_47, r_Ta_isWord_48, r_Ta_isWord_48_k, r_Ta_isWord_51, r_Ta_isWord_54, r_Ta_isWord_55, ly_g7_2, ly_g7_4, ly_k7, i3n_0, i3n_1, l6n_0, l6n_1, am_kf_s, am_km_s, am_kn_s, am_k_v, am_k_0, am_isr_r, am_isr_n, am_isr_v, am_sw_0, am_sw_i, am_sw_l, am_sw_r, am_sw_n, am_sw_v, am_ct_i, am_ct_r, am_ct_n, am_c1_o, am_c1_n, am_c1_i, am_c1_r, am_c1_v, am_mk_1, lc_lt, lc_gt, lc_eq, lc_le, lc_ge, i01_eq, i01_ok, ite_not, true_or, or_true, true_and, and_true, false_or, or_false, false_and, and_false, if_true, if_false, not_true_eq_false, not_false_eq_true, eq_self, Nat.reduceAdd, Nat.reduceLeDiff, Nat.reduceLT, Nat.reduceEqDiff, Nat.reduceMul, Nat.reduceSub, Nat.reduceDiv, Nat.reduceMod, reduceCtorEq, Nat.zero_le, i3_le, i3_lt, i3_eq, i3_eqN, i3_leN, i3_Nle, i3_ltN, i3_NleN, i3_NeqN, i3_Neq, i3_NltN, i3_Nlt, l6_le, l6_lt, l6_eq, l6_leN, l6_Nle, l6_ltN, l6_Nlt, l6_eqN, l6_Neq, hc, hL, hl2, hl3, e1, h2, h4, i3_sub hse, hl4]
/-- what the loop over the words leaves -/
def tp_w (W : Nat) (C : Nat → Nat → Int32) : Nat → Nat → Int32 := ux (ux C 7 5 (Int32.ofNat W)) 7 3 (if W < 6 then -Int32.ofNat 4 else Int32.ofNat W)
theorem l_Ta_readWord2 (hS : tp_S G x Z D) {s e : Nat} (hse : s ≤ e) (hen : e ≤ n) : ∀ k w : Nat, 11 - w = k → w ≤ 11 → ∀ C : Nat → Nat → Int32, tp_B b n C → C 7 2 = Int32.ofNat e → C 7 4 = Int32.ofNat s → am_run G (d + 6) K_Ta_readWord (46, [some (.ref (x + 7)), some (.int (Int32.ofNat w))], [], am_mk x bb Z C L R D) = some (none, am_mk x bb Z (if w ≤ pa_word (pa_sub b s (e - s)) ∧ pa_word (pa_sub b s (e - s)) < 11 then tp_w (pa_word (pa_sub b s (e - s))) C else C) L R D) := by
  intro k
  induction k with
  | zero =>
    intro w hk hw C h h2 h4
    have : w = 11 := by omega
    subst this
    have e1 : ¬ (11 ≤ pa_word (pa_sub b s (e - s)) ∧ pa_word (pa_sub b s (e - s)) < 11) := by omega
    rw [r_Ta_readWord_46]
    simp only [r_Ta_readWord_47, r_Ta_readWord_49, r_Ta_readWord_52, r_Ta_readWord_53, r_Ta_readWord_54, r_Ta_readWord_57, r_Ta_readWord_60, r_Ta_readWord_63, r_Ta_readWord_64, r_Ta_readWord_65, r_Ta_readWord_68, r_Ta_readWord_69, r_Ta_readWord_70, r_Ta_readWord_72, r_Ta_readWord_75, r_Ta_readWord_77, r_Ta_readWord_80, r_Ta_readWord_81, r_Ta_readWord_84, r_Ta_readWord_84_k, r_Ta_readWord_87, r_Ta_readWord_90, ly_g7_2, ly_g7_1, ly_k7, ly_p7_2, ly_g7_3, ly_p7_3, ly_g7_5, ly_p7_5, i3n_0, i3n_1, i3n_2, i3n_4, i3n_6, i3n_11, l6n_0, l6n_1, am_kf_s, am_km_s, am_kn_s, am_k_v, am_k_0, am_isr_r, am_isr_n, am_isr_v, am_sw_0, am_sw_i, am_sw_l, am_sw_r, am_sw_n, am_sw_v, am_ct_i, am_ct_r, am_ct_n, am_c1_o, am_c1_n, am_c1_i, am_c1_r, am_c1_v, am_mk_1, lc_lt, lc_gt, lc_eq, lc_le, lc_ge, i01_eq, i01_ok, ite_not, true_or, or_true, true_and, and_true, false_or, or_false, false_and, and_false, if_true, if_false, not_true_eq_false, not_false_eq_true, eq_self, Nat.reduceAdd, Nat.reduceLeDiff, Nat.reduceLT, Nat.reduceEqDiff, Nat.reduceMul, Nat.reduceSub, Nat.reduceDiv, Nat.reduceMod, reduceCtorEq, Nat.zero_le, i3_le, i3_lt, i3_eq, i3_eqN, i3_leN, i3_Nle, i3_ltN, i3_NleN, i3_NeqN, i3_Neq, i3_NltN, i3_Nlt, l6_le, l6_lt, l6_eq, l6_leN, l6_Nle, l6_ltN, l6_Nlt, l6_eqN, l6_Neq, e1]
  | succ k ih =>
    intro w hk hw C h h2 h4
    have hw11 : w < 11 := by omega
    have e1 : w < 2147483648 := by omega
    have e2 : ¬ 11 ≤ w := by omega
    obtain ⟨q, v, g1, g2⟩ := tp_S_get hS (i := w + 1) (by omega)
    have g1 : G (11 + w) = .ref q := by rw [show 11 + w = 10 + (w + 1) by omega]; exact g1
    have hI := x_Ta_isWord (d := d) (G := G) (L := L) (R := R) h hS hw11 h2 h4 hse hen (g2 bb C L R).1 (g2 bb C L R).2
    have hW := x_Ta_wordAt (d := d + 5) hS (M := am_mk x bb Z C L R D) hw11
    rw [g1] at hW
    rw [r_Ta_readWord_46]
    by_cases hq : pa_words.getD w [] = pa_sub b s (e - s)
    · have hp := (pa_word_lt hw11).mpr hq
      have hC : C 7 1 = C 7 1 := rfl
      have e3 : w ≤ pa_word (pa_sub b s (e - s)) ∧ pa_word (pa_sub b s (e - s)) < 11 := by omega
      have e4 : ¬ (w + 1 ≤ pa_word (pa_sub b s (e - s)) ∧ pa_word (pa_sub b s (e - s)) < 11) := by omega
      by_cases h6 : w < 6
      · have h6' : ¬ 6 ≤ w := by omega
        simp only [r_Ta_readWord_47, r_Ta_readWord_49, r_Ta_readWord_52, r_Ta_readWord_53, r_Ta_readWord_54, r_Ta_readWord_57, r_Ta_readWord_60, r_Ta_readWord_63, r_Ta_readWord_64, r_Ta_readWord_65, r_Ta_readWord_68, r_Ta_readWord_69, r_Ta_readWord_70, r_Ta_readWord_72, r_Ta_readWord_75, r_Ta_readWord_77, r_Ta_readWord_80, r_Ta_readWord_81, r_Ta_readWord_84, r_Ta_readWord_84_k, r_Ta_readWord_87, r_Ta_readWord_90, ly_g7_2, ly_g7_1, ly_k7, ly_p7_2, ly_g7_3, ly_p7_3, ly_g7_5, ly_p7_5, i3n_0, i3n_1, i3n_2, i3n_4, i3n_6, i3n_11, l6n_0, l6n_1, am_kf_s, am_km_s, am_kn_s, am_k_v, am_k_0, am_isr_r, am_isr_n, am_isr_v, am_sw_0, am_sw_i, am_sw_l, am_sw_r, am_sw_n, am_sw_v, am_ct_i, am_ct_r, am_ct_n, am_c1_o, am_c1_n, am_c1_i, am_c1_r, am_c1_v, am_mk_1, lc_lt, lc_gt, lc_eq, lc_le, lc_ge, i01_eq, i01_ok, ite_not, true_or, or_true, true_and, and_true, false_or, or_false, false_and, and_false, if_true, if_false, not_true_eq_false, not_false_eq_true, eq_self, Nat.reduceAdd, Nat.reduceLeDiff, Nat.reduceLT, Nat.reduceEqDiff, Nat.reduceMul, Nat.reduceSub, Nat.reduceDiv, Nat.reduceMod, reduceCtorEq, Nat.zero_le, i3_le, i3_lt, i3_eq, i3_eqN, i3_leN, i3_Nle, i3_ltN, i3_NleN, i3_NeqN, i3_Neq, i3_NltN, i3_Nlt, l6_le, l6_lt, l6_eq, l6_leN, l6_Nle, l6_ltN, l6_Nlt, l6_eqN, l6_Neq, e1, e2, hI, hW, hq, h6', i3_add]
        rw [ih (w + 1) (by omega) (by omega) _ (tp_ux (tp_ux h (by decide) (by decide)) (by decide) (by decide)) (by simp only [ux_eq, Nat.reduceEqDiff, and_false, if_false]; exact h2) (by simp only [ux_eq, Nat.reduceEqDiff, and_false, if_false]; exact h4)]
        rw [if_neg e4, if_pos e3, hp, tp_w, if_pos h6]
      · have h6' : 6 ≤ w := by omega
        simp only [r_Ta_readWord_47, r_Ta_readWord_49, r_Ta_readWord_52, r_Ta_readWord_53, r_Ta_readWord_54, r_Ta_readWord_57, r_Ta_readWord_60, r_Ta_readWord_63, r_Ta_readWord_64, r_Ta_readWord_65, r_Ta_readWord_68, r_Ta_readWord_69, r_Ta_readWord_70, r_Ta_readWord_72, r_Ta_readWord_75, r_Ta_readWord_77, r_Ta_readWord_80, r_Ta_readWord_81, r_Ta_readWord_84, r_Ta_readWord_84_k, r_Ta_readWord_87, r_Ta_readWord_90, ly_g7_2, ly_g7_1, ly_k7, ly_p7_2, ly_g7_3, ly_p7_3, ly_g7_5, ly_p7_5, i3n_0, i3n_1, i3n_2, i3n_4, i3n_6, i3n_11, l6n_0, l6n_1, am_kf_s, am_km_s, am_kn_s, am_k_v, am_k_0, am_isr_r, am_isr_n, am_isr_v, am_sw_0, am_sw_i, am_sw_l, am_sw_r, am_sw_n, am_sw_v, am_ct_i, am_ct_r, am_ct_n, am_c1_o, am_c1_n, am_c1_i, am_c1_r, am_c1_v, am_mk_1, lc_lt, lc_gt, lc_eq, lc_le, lc_ge, i01_eq, i01_ok, ite_not, true_or, or_true, true_and, and_true, false_or, or_false, false_and, and_false, if_true, if_false, not_true_eq_false, not_false_eq_true, eq_self, Nat.reduceAdd, Nat.reduceLeDiff, Nat.reduceLT, Nat.reduceEqDiff, Nat.reduceMul, Nat.reduceSub, Nat.reduceDiv, Nat.reduceMod, reduceCtorEq, Nat.zero_le, i3_le, i3_lt, i3_eq, i3_eqN, i3_leN, i3_Nle, i3_ltN, i3_NleN, i3_NeqN, i3_Neq, i3_NltN, i3_Nlt, l6_le, l6_lt, l6_eq, l6_leN, l6_Nle, l6_ltN, l6_Nlt, l6_eqN, l6_Neq, e1, e2, hI, hW, hq, h6', i3_add]
        rw [ih (w + 1) (by omega) (by omega) _ (tp_ux (tp_ux h (by decide) (by decide)) (by decide) (by decide)) (by simp only [ux_eq, Nat.reduceEqDiff, and_false, if_false]; exact h2) (by simp only [ux_eq, Nat.reduceEqDiff, and_false, if_false]; exact h4)]
        rw [if_neg e4, if_pos e3, hp, tp_w, if_neg h6]
    · have hp : ¬ pa_word (pa_sub b s (e - s)) = w := fun e => hq ((pa_word_lt hw11).mp e)
      have e3 : (w ≤ pa_word (pa_sub b s (e - s)) ∧ pa_word (pa_sub b s (e - s)) < 11) = (w + 1 ≤ pa_word (pa_sub b s (e - s)) ∧ pa_word (pa_sub b s (e - s)) < 11) := by
        rw [eq_iff_iff]; omega
      simp only [r_Ta_readWord_47, r_Ta_readWord_49, r_Ta_readWord_52, r_Ta_readWord_53, r_Ta_readWord_54, r_Ta_readWord_57, r_Ta_readWord_60, r_Ta_readWord_63, r_Ta_readWord_64, r_Ta_readWord_65, r_Ta_readWord_68, r_Ta_readWord_69, r_Ta_readWord_70, r_Ta_readWord_72, r_Ta_readWord_75, r_Ta_readWord_77, r_Ta_readWord_80, r_Ta_readWord_81, r_Ta_readWord_84, r_Ta_readWord_84_k, r_Ta_readWord_87, r_Ta_readWord_90, ly_g7_2, ly_g7_1, ly_k7, ly_p7_2, ly_g7_3, ly_p7_3, ly_g7_5, ly_p7_5, i3n_0, i3n_1, i3n_2, i3n_4, i3n_6, i3n_11, l6n_0, l6n_1, am_kf_s, am_km_s, am_kn_s, am_k_v, am_k_0, am_isr_r, am_isr_n, am_isr_v, am_sw_0, am_sw_i, am_sw_l, am_sw_r, am_sw_n, am_sw_v, am_ct_i, am_ct_r, am_ct_n, am_c1_o, am_c1_n, am_c1_i, am_c1_r, am_c1_v, am_mk_1, lc_lt, lc_gt, lc_eq, lc_le, lc_ge, i01_eq, i01_ok, ite_not, true_or, or_true, true_and, and_true, false_or, or_false, false_and, and_false, if_true, if_false, not_true_eq_false, not_false_eq_true, eq_self, Nat.reduceAdd, Nat.reduceLeDiff, Nat.reduceLT, Nat.reduceEqDiff, Nat.reduceMul, Nat.reduceSub, Nat.reduceDiv, Nat.reduceMod, reduceCtorEq, Nat.zero_le, i3_le, i3_lt, i3_eq, i3_eqN, i3_leN, i3_Nle, i3_ltN, i3_NleN, i3_NeqN, i3_Neq, i3_NltN, i3_Nlt, l6_le, l6_lt, l6_eq, l6_leN, l6_Nle, l6_ltN, l6_Nlt, l6_eqN, l6_Neq, e1, e2, hI, hW, hq, i3_add]
      rw [ih (w + 1) (by omega) (by omega) C h h2 h4]
      simp only [e3]
end
