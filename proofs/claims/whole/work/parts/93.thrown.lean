/-! thrownOut -/
def jE (N : Nat → Nat → Nat) (s lo hi : Nat) (l : List Nat) : Prop := ∃ q e, jP N s lo hi 1000 l q e
theorem jE_0 {N : Nat → Nat → Nat} {s lo hi : Nat} (h : lo ≤ hi) : jE N s lo hi [] := ⟨lo, 0, by unfold fi_P; omega, okb_nil⟩
theorem jE_le {N : Nat → Nat → Nat} {s lo hi a b : Nat} {l : List Nat} (h : a ≤ b) (hb : jE N s lo hi (l.take b)) : jE N s lo hi (l.take a) := by
  obtain ⟨q, e, h1, h2⟩ := hb
  exact ⟨q, e, h1, okb_le h h2⟩
theorem jt_0 {N : Nat → Nat → Nat} {s lo hi : Nat} {l : List Nat} (hlo : lo ≤ hi) : jt N s lo hi 100 l = 0 ↔ ¬ jE N s lo hi l := by
  unfold jt
  rw [sm_0]
  constructor
  · rintro h ⟨q, e, h1, h2⟩
    unfold fi_P at h1
    have := (jn_0 hlo).mp (h (e / 10) (by omega))
    refine this q ⟨by omega, by omega, ?_⟩
    rw [show 10 * (e / 10) = e by omega]
    exact h2
  · intro h e he
    rw [jn_0 hlo]
    rintro q ⟨h1, h2, h3⟩
    exact h ⟨q, 10 * e, by unfold fi_P; omega, h3⟩
theorem jt_le {N : Nat → Nat → Nat} {s lo hi : Nat} {l : List Nat} : jt N s lo hi 100 l ≤ 100 * (hi + 1 - lo) := sm_le (fun i _ => jn_le (N := N))
theorem spl_pre {N : Nat → Nat → Nat} {hl : Option Nat} {j : Nat} : ∀ m, ∃ t, spl N hl (j + m) = spl N hl j ++ t
  | 0 => ⟨[], by rw [Nat.add_zero, List.append_nil]⟩
  | m + 1 => by
    obtain ⟨t, ht⟩ := spl_pre (N := N) (hl := hl) (j := j) m
    rw [← Nat.add_assoc, spl_s, ht]
    by_cases h : spk N hl (j + m) = true
    · rw [if_pos h]; exact ⟨t ++ [j + m], by rw [List.append_assoc]⟩
    · rw [if_neg h]; exact ⟨t, rfl⟩
theorem spl_tk {N : Nat → Nat → Nat} {hl : Option Nat} {j n : Nat} (h : j ≤ n) : spl N hl j = (spl N hl n).take (spl N hl j).length := by
  obtain ⟨t, ht⟩ := spl_pre (N := N) (hl := hl) (j := j) (n - j)
  rw [show j + (n - j) = n by omega] at ht
  rw [ht, List.take_append_of_le_length (Nat.le_refl _), List.take_length]
theorem spl_at {N : Nat → Nat → Nat} {hl : Option Nat} {j n : Nat} (h : j < n) (hs : spk N hl j = true) : (spl N hl n)[(spl N hl j).length]? = some j := by
  obtain ⟨t, ht⟩ := spl_pre (N := N) (hl := hl) (j := j + 1) (n - (j + 1))
  rw [show j + 1 + (n - (j + 1)) = n by omega, spl_s, if_pos hs] at ht
  rw [ht, List.append_assoc, List.getElem?_append_right (Nat.le_refl _), Nat.sub_self]
  rfl
def jA (l : List Nat) (v : Nat) : Int32 := match l[v]? with
  | none => -Int32.ofNat 1
  | some i => Int32.ofNat i
section
variable {G : Nat → Value} {x : Nat} {N : Nat → Nat → Nat} {Z : ly_Z} {R : Nat → Nat → Option Nat} {D : am_M}
theorem l_M_thrown {L : Nat → Nat → Int64} {d s w v : Nat} (hw : w < 2147483648) (hlo : w / 1000 ≤ w % 1000) (hw3 : w % 1000 ≤ 999) (hs9 : s ≤ 9999) (hv : v ≤ (spl N none (N 31 27)).length) (hE : ∀ f, f ≤ (spl N none (N 31 27)).length → (jE N s (w / 1000) (w % 1000) ((spl N none (N 31 27)).take f) ↔ f ≤ v)) : ∀ (r j : Nat) (C : Nat → Nat → Int32), N 31 27 - j = r → j ≤ N 31 27 → (spl N none j).length ≤ v → rl G N x Z C R D → la_ok N C L (N 31 27) → ∃ (C' : Nat → Nat → Int32), am_run G (d + 3) K_M_thrownOut (17, [some (.ref (x + 31)), some (.int (Int32.ofNat w)), some (.int (Int32.ofNat s)), some (.int (Int32.ofNat j))], [], am_mk x true Z C L R D) = some (some (.int (jA (spl N none (N 31 27)) v)), am_mk x true Z C' L R D) ∧ rl G N x Z C' R D := by
  intro r
  induction r with
  | zero =>
    intro j C hr hj hk h hs
    have e : j = N 31 27 := by omega
    subst e
    have h27 := h.1.2.2.1
    have b1 : N 31 27 < 2147483648 := by omega
    refine ⟨C, ?_, h⟩
    have ev : jA (spl N none (N 31 27)) v = -Int32.ofNat 1 := by
      unfold jA
      rw [List.getElem?_eq_none hk]
    rw [r_M_thrownOut_17, ev]
    simp only [r_M_thrownOut_18, r_M_thrownOut_19, r_M_thrownOut_22, r_M_thrownOut_25, r_M_thrownOut_26, r_M_thrownOut_29, r_M_thrownOut_30, r_M_thrownOut_31, r_M_thrownOut_34, r_M_thrownOut_37, r_M_thrownOut_38, r_M_thrownOut_39, r_M_thrownOut_40, r_M_thrownOut_41, r_M_thrownOut_42, r_M_thrownOut_43, r_M_thrownOut_46, r_M_thrownOut_47, r_M_thrownOut_50, r_M_thrownOut_53, r_M_thrownOut_54, r_M_thrownOut_55, r_M_thrownOut_55_k, r_M_thrownOut_58, r_M_thrownOut_61, r_M_thrownOut_62, ly_k31, ly_g31_27, ly_g31_38, ly_n49, ly_r49, ly_w49, ly_g31_41, i3n_0, i3n_1, i3n_2, l6n_0, l6n_1, am_kf_s, am_km_s, am_kn_s, am_k_v, am_k_0, am_isr_r, am_isr_n, am_isr_v, am_sw_0, am_sw_i, am_sw_l, am_sw_r, am_sw_n, am_sw_v, am_ct_i, am_ct_r, am_ct_n, am_c1_o, am_c1_n, am_c1_i, am_c1_r, am_c1_v, am_mk_1, lc_lt, lc_gt, lc_eq, lc_le, lc_ge, i01_eq, i01_ok, ite_not, true_or, or_true, true_and, and_true, false_or, or_false, false_and, and_false, if_true, if_false, not_true_eq_false, not_false_eq_true, eq_self, Nat.reduceAdd, Nat.reduceLeDiff, Nat.reduceLT, Nat.reduceEqDiff, Nat.reduceMul, Nat.reduceSub, Nat.reduceDiv, Nat.reduceMod, reduceCtorEq, Nat.zero_le, i3_le, i3_lt, i3_eq, i3_eqN, i3_leN, i3_Nle, i3_ltN, i3_NleN, i3_NeqN, i3_Neq, i3_NltN, i3_Nlt, l6_le, l6_lt, l6_eq, l6_leN, l6_Nle, l6_ltN, l6_Nlt, l6_eqN, l6_Neq, h27.2.1, b1, Nat.le_refl, ↓reduceIte]
  | succ r ih =>
    intro j C hr hj hk h hs
    have hjn : j < N 31 27 := by omega
    have h27 := h.1.2.2.1
    have b1 : N 31 27 < 2147483648 := by omega
    have b2 : j < 2147483648 := by omega
    have b3 : ¬ N 31 27 ≤ j := by omega
    have j40 : j < 40 := by omega
    have s1 := (hs j hjn).1
    by_cases hv0 : ve N j = Int32.ofNat 0
    · rw [if_pos hv0] at s1
      have hsp : spk N none j = true := by unfold spk; rw [decide_eq_true hv0]; rfl
      have hsl : (spl N none (j + 1)).length = (spl N none j).length + 1 := by rw [spl_s, if_pos hsp, List.length_append]; rfl
      have htk := spl_tk (N := N) (hl := none) (j := j + 1) (n := N 31 27) (by omega)
      have hat := spl_at (N := N) (hl := none) hjn hsp
      have hlt := (List.getElem?_eq_some_iff.mp hat).1
      obtain ⟨C1, g1, g2, g3, g4, -⟩ := x_M_letsBy (G := G) h hs (d := d) (s := s) (many := j + 1) hw hlo hs9 (by omega)
      rw [← jt_jh] at g4
      have hz := jt_0 (N := N) (s := s) (l := spl N none (j + 1)) hlo
      have hjl := jt_le (N := N) (s := s) (lo := w / 1000) (hi := w % 1000) (l := spl N none (j + 1))
      rw [htk, hsl, hE _ (by omega), ← hsl, ← htk] at hz
      have b4 : jt N s (w / 1000) (w % 1000) 100 (spl N none (j + 1)) < 2147483648 := by omega
      by_cases hkv : (spl N none j).length = v
      · have h0 := hz.mpr (by omega)
        rw [h0] at g4
        refine ⟨C1, ?_, g2⟩
        have ev : jA (spl N none (N 31 27)) v = Int32.ofNat j := by
          unfold jA
          rw [← hkv, hat]
        rw [r_M_thrownOut_17, ev]
        simp only [r_M_thrownOut_18, r_M_thrownOut_19, r_M_thrownOut_22, r_M_thrownOut_25, r_M_thrownOut_26, r_M_thrownOut_29, r_M_thrownOut_30, r_M_thrownOut_31, r_M_thrownOut_34, r_M_thrownOut_37, r_M_thrownOut_38, r_M_thrownOut_39, r_M_thrownOut_40, r_M_thrownOut_41, r_M_thrownOut_42, r_M_thrownOut_43, r_M_thrownOut_46, r_M_thrownOut_47, r_M_thrownOut_50, r_M_thrownOut_53, r_M_thrownOut_54, r_M_thrownOut_55, r_M_thrownOut_55_k, r_M_thrownOut_58, r_M_thrownOut_61, r_M_thrownOut_62, ly_k31, ly_g31_27, ly_g31_38, ly_n49, ly_r49, ly_w49, ly_g31_41, i3n_0, i3n_1, i3n_2, l6n_0, l6n_1, am_kf_s, am_km_s, am_kn_s, am_k_v, am_k_0, am_isr_r, am_isr_n, am_isr_v, am_sw_0, am_sw_i, am_sw_l, am_sw_r, am_sw_n, am_sw_v, am_ct_i, am_ct_r, am_ct_n, am_c1_o, am_c1_n, am_c1_i, am_c1_r, am_c1_v, am_mk_1, lc_lt, lc_gt, lc_eq, lc_le, lc_ge, i01_eq, i01_ok, ite_not, true_or, or_true, true_and, and_true, false_or, or_false, false_and, and_false, if_true, if_false, not_true_eq_false, not_false_eq_true, eq_self, Nat.reduceAdd, Nat.reduceLeDiff, Nat.reduceLT, Nat.reduceEqDiff, Nat.reduceMul, Nat.reduceSub, Nat.reduceDiv, Nat.reduceMod, reduceCtorEq, Nat.zero_le, i3_le, i3_lt, i3_eq, i3_eqN, i3_leN, i3_Nle, i3_ltN, i3_NleN, i3_NeqN, i3_Neq, i3_NltN, i3_Nlt, l6_le, l6_lt, l6_eq, l6_leN, l6_Nle, l6_ltN, l6_Nlt, l6_eqN, l6_Neq, h27.2.1, b1, b2, b3, j40, s1, i3_add, g1, g4, ↓reduceIte]
      · have h0 : ¬ jt N s (w / 1000) (w % 1000) 100 (spl N none (j + 1)) = 0 := mt hz.mp (by omega)
        obtain ⟨C', w1, w2⟩ := ih (j + 1) C1 (by omega) (by omega) (by omega) g2 g3
        refine ⟨C', ?_, w2⟩
        rw [← w1, r_M_thrownOut_17]
        simp only [r_M_thrownOut_18, r_M_thrownOut_19, r_M_thrownOut_22, r_M_thrownOut_25, r_M_thrownOut_26, r_M_thrownOut_29, r_M_thrownOut_30, r_M_thrownOut_31, r_M_thrownOut_34, r_M_thrownOut_37, r_M_thrownOut_38, r_M_thrownOut_39, r_M_thrownOut_40, r_M_thrownOut_41, r_M_thrownOut_42, r_M_thrownOut_43, r_M_thrownOut_46, r_M_thrownOut_47, r_M_thrownOut_50, r_M_thrownOut_53, r_M_thrownOut_54, r_M_thrownOut_55, r_M_thrownOut_55_k, r_M_thrownOut_58, r_M_thrownOut_61, r_M_thrownOut_62, ly_k31, ly_g31_27, ly_g31_38, ly_n49, ly_r49, ly_w49, ly_g31_41, i3n_0, i3n_1, i3n_2, l6n_0, l6n_1, am_kf_s, am_km_s, am_kn_s, am_k_v, am_k_0, am_isr_r, am_isr_n, am_isr_v, am_sw_0, am_sw_i, am_sw_l, am_sw_r, am_sw_n, am_sw_v, am_ct_i, am_ct_r, am_ct_n, am_c1_o, am_c1_n, am_c1_i, am_c1_r, am_c1_v, am_mk_1, lc_lt, lc_gt, lc_eq, lc_le, lc_ge, i01_eq, i01_ok, ite_not, true_or, or_true, true_and, and_true, false_or, or_false, false_and, and_false, if_true, if_false, not_true_eq_false, not_false_eq_true, eq_self, Nat.reduceAdd, Nat.reduceLeDiff, Nat.reduceLT, Nat.reduceEqDiff, Nat.reduceMul, Nat.reduceSub, Nat.reduceDiv, Nat.reduceMod, reduceCtorEq, Nat.zero_le, i3_le, i3_lt, i3_eq, i3_eqN, i3_leN, i3_Nle, i3_ltN, i3_NleN, i3_NeqN, i3_Neq, i3_NltN, i3_Nlt, l6_le, l6_lt, l6_eq, l6_leN, l6_Nle, l6_ltN, l6_Nlt, l6_eqN, l6_Neq, h27.2.1, b1, b2, b3, b4, j40, s1, i3_add, g1, g4, h0, Nat.zero_lt_one, ↓reduceIte]
    · rw [if_neg hv0] at s1
      have hsl : (spl N none (j + 1)) = spl N none j := by rw [spl_s, if_neg (show ¬ spk N none j = true by unfold spk; rw [decide_eq_false hv0, Bool.false_and]; decide)]
      obtain ⟨C', w1, w2⟩ := ih (j + 1) C (by omega) (by omega) (by rw [hsl]; exact hk) h hs
      refine ⟨C', ?_, w2⟩
      rw [← w1, r_M_thrownOut_17]
      simp only [r_M_thrownOut_18, r_M_thrownOut_19, r_M_thrownOut_22, r_M_thrownOut_25, r_M_thrownOut_26, r_M_thrownOut_29, r_M_thrownOut_30, r_M_thrownOut_31, r_M_thrownOut_34, r_M_thrownOut_37, r_M_thrownOut_38, r_M_thrownOut_39, r_M_thrownOut_40, r_M_thrownOut_41, r_M_thrownOut_42, r_M_thrownOut_43, r_M_thrownOut_46, r_M_thrownOut_47, r_M_thrownOut_50, r_M_thrownOut_53, r_M_thrownOut_54, r_M_thrownOut_55, r_M_thrownOut_55_k, r_M_thrownOut_58, r_M_thrownOut_61, r_M_thrownOut_62, ly_k31, ly_g31_27, ly_g31_38, ly_n49, ly_r49, ly_w49, ly_g31_41, i3n_0, i3n_1, i3n_2, l6n_0, l6n_1, am_kf_s, am_km_s, am_kn_s, am_k_v, am_k_0, am_isr_r, am_isr_n, am_isr_v, am_sw_0, am_sw_i, am_sw_l, am_sw_r, am_sw_n, am_sw_v, am_ct_i, am_ct_r, am_ct_n, am_c1_o, am_c1_n, am_c1_i, am_c1_r, am_c1_v, am_mk_1, lc_lt, lc_gt, lc_eq, lc_le, lc_ge, i01_eq, i01_ok, ite_not, true_or, or_true, true_and, and_true, false_or, or_false, false_and, and_false, if_true, if_false, not_true_eq_false, not_false_eq_true, eq_self, Nat.reduceAdd, Nat.reduceLeDiff, Nat.reduceLT, Nat.reduceEqDiff, Nat.reduceMul, Nat.reduceSub, Nat.reduceDiv, Nat.reduceMod, reduceCtorEq, Nat.zero_le, i3_le, i3_lt, i3_eq, i3_eqN, i3_leN, i3_Nle, i3_ltN, i3_NleN, i3_NeqN, i3_Neq, i3_NltN, i3_Nlt, l6_le, l6_lt, l6_eq, l6_leN, l6_Nle, l6_ltN, l6_Nlt, l6_eqN, l6_Neq, h27.2.1, b1, b2, b3, j40, s1, i3_add, Nat.zero_lt_one, ↓reduceIte]
theorem x_Sp_numberAt {C : Nat → Nat → Int32} {L : Nat → Nat → Int64} {l : List Nat} (h : sp_ok N Z C L R l) (hl : l.length ≤ 40) {d v : Nat} (hv : v ≤ l.length) : am_ex G (d + 1) K_Sp_numberAt [.ref (x + 10), .int (Int32.ofNat v)] (am_mk x true Z C L R D) = some (some (.int (jA l v)), am_mk x true Z C L R D) := by
  have b0 : ¬ v < 0 := Nat.not_lt_zero _
  have b1 : v < 2147483648 := by omega
  have b2 : l.length < 2147483648 := by omega
  unfold jA
  cases hk : l[v]? with
  | none =>
    have b3 : l.length ≤ v := List.getElem?_eq_none_iff.mp hk
    simp only [e_Sp_numberAt, r_Sp_numberAt_0, r_Sp_numberAt_1, r_Sp_numberAt_4, r_Sp_numberAt_5, r_Sp_numberAt_6, r_Sp_numberAt_9, r_Sp_numberAt_12, r_Sp_numberAt_13, r_Sp_numberAt_14, r_Sp_numberAt_17, r_Sp_numberAt_18, r_Sp_numberAt_21, r_Sp_numberAt_22, r_Sp_numberAt_25, r_Sp_numberAt_26, r_Sp_numberAt_27, r_Sp_numberAt_30, r_Sp_numberAt_31, ly_g10_0, ly_g10_2, ly_n12, ly_r12, ly_w12, i3n_0, i3n_1, l6n_0, l6n_1, am_kf_s, am_km_s, am_kn_s, am_k_v, am_k_0, am_isr_r, am_isr_n, am_isr_v, am_sw_0, am_sw_i, am_sw_l, am_sw_r, am_sw_n, am_sw_v, am_ct_i, am_ct_r, am_ct_n, am_c1_o, am_c1_n, am_c1_i, am_c1_r, am_c1_v, am_mk_1, lc_lt, lc_gt, lc_eq, lc_le, lc_ge, i01_eq, i01_ok, ite_not, true_or, or_true, true_and, and_true, false_or, or_false, false_and, and_false, if_true, if_false, not_true_eq_false, not_false_eq_true, eq_self, Nat.reduceAdd, Nat.reduceLeDiff, Nat.reduceLT, Nat.reduceEqDiff, Nat.reduceMul, Nat.reduceSub, Nat.reduceDiv, Nat.reduceMod, reduceCtorEq, Nat.zero_le, i3_le, i3_lt, i3_eq, i3_eqN, i3_leN, i3_Nle, i3_ltN, i3_NleN, i3_NeqN, i3_Neq, i3_NltN, i3_Nlt, l6_le, l6_lt, l6_eq, l6_leN, l6_Nle, l6_ltN, l6_Nlt, l6_eqN, l6_Neq, h.1, b0, b1, b2, b3, ↓reduceIte]
  | some i =>
    have k1 := (List.getElem?_eq_some_iff.mp hk).1
    have r1 := (h.2 v i hk).2.1
    have b3 : ¬ l.length ≤ v := by omega
    have b4 : ¬ 40 ≤ v := by omega
    have b5 : v < 40 := by omega
    simp only [e_Sp_numberAt, r_Sp_numberAt_0, r_Sp_numberAt_1, r_Sp_numberAt_4, r_Sp_numberAt_5, r_Sp_numberAt_6, r_Sp_numberAt_9, r_Sp_numberAt_12, r_Sp_numberAt_13, r_Sp_numberAt_14, r_Sp_numberAt_17, r_Sp_numberAt_18, r_Sp_numberAt_21, r_Sp_numberAt_22, r_Sp_numberAt_25, r_Sp_numberAt_26, r_Sp_numberAt_27, r_Sp_numberAt_30, r_Sp_numberAt_31, ly_g10_0, ly_g10_2, ly_n12, ly_r12, ly_w12, i3n_0, i3n_1, l6n_0, l6n_1, am_kf_s, am_km_s, am_kn_s, am_k_v, am_k_0, am_isr_r, am_isr_n, am_isr_v, am_sw_0, am_sw_i, am_sw_l, am_sw_r, am_sw_n, am_sw_v, am_ct_i, am_ct_r, am_ct_n, am_c1_o, am_c1_n, am_c1_i, am_c1_r, am_c1_v, am_mk_1, lc_lt, lc_gt, lc_eq, lc_le, lc_ge, i01_eq, i01_ok, ite_not, true_or, or_true, true_and, and_true, false_or, or_false, false_and, and_false, if_true, if_false, not_true_eq_false, not_false_eq_true, eq_self, Nat.reduceAdd, Nat.reduceLeDiff, Nat.reduceLT, Nat.reduceEqDiff, Nat.reduceMul, Nat.reduceSub, Nat.reduceDiv, Nat.reduceMod, reduceCtorEq, Nat.zero_le, i3_le, i3_lt, i3_eq, i3_eqN, i3_leN, i3_Nle, i3_ltN, i3_NleN, i3_NeqN, i3_Neq, i3_NltN, i3_Nlt, l6_le, l6_lt, l6_eq, l6_leN, l6_Nle, l6_ltN, l6_Nlt, l6_eqN, l6_Neq, h.1, r1, b0, b1, b2, b3, b4, b5, ↓reduceIte]
end
section
variable {G : Nat → Value} {x : Nat}
theorem J_thrownOut {a0 a1 : Int32} : rl_pair G x K_H_thrownOut K_M_thrownOut [.int a0, .int a1] := by
  intro N Z C L R D h
  have hz := h.2.2.2.2.2.2.2.2.1
  have h40 := h.1.2.2.1.2.2
  by_cases h1 : la_P (a0 / Int32.ofNat 1000) (a0 - a0 / Int32.ofNat 1000 * Int32.ofNat 1000)
  rotate_left
  · refine ⟨.int (-Int32.ofNat 2), N, Z, C, L, R, D, Z, C, L, R, D, ?_, ?_, h, by omega, hz.2.1, fun _ _ => rfl⟩
    · simp only [e_H_thrownOut, r_H_thrownOut_0, r_H_thrownOut_1, r_H_thrownOut_4, r_H_thrownOut_5, r_H_thrownOut_6, r_H_thrownOut_9, r_H_thrownOut_10, r_H_thrownOut_13, r_H_thrownOut_16, r_H_thrownOut_17, r_H_thrownOut_18, r_H_thrownOut_21, r_H_thrownOut_24, r_H_thrownOut_27, r_H_thrownOut_29, r_H_thrownOut_30, r_H_thrownOut_31, r_H_thrownOut_32, r_H_thrownOut_33, r_H_thrownOut_36, r_H_thrownOut_37, r_H_thrownOut_40, r_H_thrownOut_43, r_H_thrownOut_46, r_H_thrownOut_47, r_H_thrownOut_50, r_H_thrownOut_51, r_H_thrownOut_54, r_H_thrownOut_55, r_H_thrownOut_58, r_H_thrownOut_61, r_H_thrownOut_64, ly_k0, ly_g0_12, ly_k10, ly_g10_7, ly_g10_10, i3n_0, i3n_1, i3n_2, i3n_1000, i3n_9999, l6n_0, l6n_1, am_kf_s, am_km_s, am_kn_s, am_k_v, am_k_0, am_isr_r, am_isr_n, am_isr_v, am_sw_0, am_sw_i, am_sw_l, am_sw_r, am_sw_n, am_sw_v, am_ct_i, am_ct_r, am_ct_n, am_c1_o, am_c1_n, am_c1_i, am_c1_r, am_c1_v, am_mk_1, lc_lt, lc_gt, lc_eq, lc_le, lc_ge, i01_eq, i01_ok, ite_not, true_or, or_true, true_and, and_true, false_or, or_false, false_and, and_false, if_true, if_false, not_true_eq_false, not_false_eq_true, eq_self, Nat.reduceAdd, Nat.reduceLeDiff, Nat.reduceLT, Nat.reduceEqDiff, Nat.reduceMul, Nat.reduceSub, Nat.reduceDiv, Nat.reduceMod, reduceCtorEq, Nat.zero_le, i3_le, i3_lt, i3_eq, i3_eqN, i3_leN, i3_Nle, i3_ltN, i3_NleN, i3_NeqN, i3_Neq, i3_NltN, i3_Nlt, l6_le, l6_lt, l6_eq, l6_leN, l6_Nle, l6_ltN, l6_Nlt, l6_eqN, l6_Neq, x_H_areLaws_n h1, ↓reduceIte]
    · simp only [e_M_thrownOut, r_M_thrownOut_0, r_M_thrownOut_1, r_M_thrownOut_2, r_M_thrownOut_5, r_M_thrownOut_8, r_M_thrownOut_10, r_M_thrownOut_11, r_M_thrownOut_12, r_M_thrownOut_15, r_M_thrownOut_16, r_M_thrownOut_16_k, r_M_thrownOut_18, r_M_thrownOut_19, r_M_thrownOut_22, r_M_thrownOut_25, r_M_thrownOut_26, r_M_thrownOut_29, r_M_thrownOut_30, r_M_thrownOut_31, r_M_thrownOut_34, r_M_thrownOut_37, r_M_thrownOut_38, r_M_thrownOut_39, r_M_thrownOut_40, r_M_thrownOut_41, r_M_thrownOut_42, r_M_thrownOut_43, r_M_thrownOut_46, r_M_thrownOut_47, r_M_thrownOut_50, r_M_thrownOut_53, r_M_thrownOut_54, r_M_thrownOut_55, r_M_thrownOut_55_k, r_M_thrownOut_58, r_M_thrownOut_61, r_M_thrownOut_62, ly_k31, ly_g31_27, ly_g31_38, ly_n49, ly_r49, ly_w49, ly_g31_41, i3n_0, i3n_1, i3n_2, l6n_0, l6n_1, am_kf_s, am_km_s, am_kn_s, am_k_v, am_k_0, am_isr_r, am_isr_n, am_isr_v, am_sw_0, am_sw_i, am_sw_l, am_sw_r, am_sw_n, am_sw_v, am_ct_i, am_ct_r, am_ct_n, am_c1_o, am_c1_n, am_c1_i, am_c1_r, am_c1_v, am_mk_1, lc_lt, lc_gt, lc_eq, lc_le, lc_ge, i01_eq, i01_ok, ite_not, true_or, or_true, true_and, and_true, false_or, or_false, false_and, and_false, if_true, if_false, not_true_eq_false, not_false_eq_true, eq_self, Nat.reduceAdd, Nat.reduceLeDiff, Nat.reduceLT, Nat.reduceEqDiff, Nat.reduceMul, Nat.reduceSub, Nat.reduceDiv, Nat.reduceMod, reduceCtorEq, Nat.zero_le, i3_le, i3_lt, i3_eq, i3_eqN, i3_leN, i3_Nle, i3_ltN, i3_NleN, i3_NeqN, i3_Neq, i3_NltN, i3_Nlt, l6_le, l6_lt, l6_eq, l6_leN, l6_Nle, l6_ltN, l6_Nlt, l6_eqN, l6_Neq, x_M_isAsk_n (Or.inl h1), ↓reduceIte]
  by_cases h2 : Int32.ofNat 0 ≤ a1 ∧ a1 ≤ Int32.ofNat 9999
  rotate_left
  · refine ⟨.int (-Int32.ofNat 2), N, Z, C, L, R, D, Z, C, L, R, D, ?_, ?_, h, by omega, hz.2.1, fun _ _ => rfl⟩
    · simp only [e_H_thrownOut, r_H_thrownOut_0, r_H_thrownOut_1, r_H_thrownOut_4, r_H_thrownOut_5, r_H_thrownOut_6, r_H_thrownOut_9, r_H_thrownOut_10, r_H_thrownOut_13, r_H_thrownOut_16, r_H_thrownOut_17, r_H_thrownOut_18, r_H_thrownOut_21, r_H_thrownOut_24, r_H_thrownOut_27, r_H_thrownOut_29, r_H_thrownOut_30, r_H_thrownOut_31, r_H_thrownOut_32, r_H_thrownOut_33, r_H_thrownOut_36, r_H_thrownOut_37, r_H_thrownOut_40, r_H_thrownOut_43, r_H_thrownOut_46, r_H_thrownOut_47, r_H_thrownOut_50, r_H_thrownOut_51, r_H_thrownOut_54, r_H_thrownOut_55, r_H_thrownOut_58, r_H_thrownOut_61, r_H_thrownOut_64, ly_k0, ly_g0_12, ly_k10, ly_g10_7, ly_g10_10, i3n_0, i3n_1, i3n_2, i3n_1000, i3n_9999, l6n_0, l6n_1, am_kf_s, am_km_s, am_kn_s, am_k_v, am_k_0, am_isr_r, am_isr_n, am_isr_v, am_sw_0, am_sw_i, am_sw_l, am_sw_r, am_sw_n, am_sw_v, am_ct_i, am_ct_r, am_ct_n, am_c1_o, am_c1_n, am_c1_i, am_c1_r, am_c1_v, am_mk_1, lc_lt, lc_gt, lc_eq, lc_le, lc_ge, i01_eq, i01_ok, ite_not, true_or, or_true, true_and, and_true, false_or, or_false, false_and, and_false, if_true, if_false, not_true_eq_false, not_false_eq_true, eq_self, Nat.reduceAdd, Nat.reduceLeDiff, Nat.reduceLT, Nat.reduceEqDiff, Nat.reduceMul, Nat.reduceSub, Nat.reduceDiv, Nat.reduceMod, reduceCtorEq, Nat.zero_le, i3_le, i3_lt, i3_eq, i3_eqN, i3_leN, i3_Nle, i3_ltN, i3_NleN, i3_NeqN, i3_Neq, i3_NltN, i3_Nlt, l6_le, l6_lt, l6_eq, l6_leN, l6_Nle, l6_ltN, l6_Nlt, l6_eqN, l6_Neq, x_H_areLaws h1, x_H_within, h2, ↓reduceIte]
    · simp only [e_M_thrownOut, r_M_thrownOut_0, r_M_thrownOut_1, r_M_thrownOut_2, r_M_thrownOut_5, r_M_thrownOut_8, r_M_thrownOut_10, r_M_thrownOut_11, r_M_thrownOut_12, r_M_thrownOut_15, r_M_thrownOut_16, r_M_thrownOut_16_k, r_M_thrownOut_18, r_M_thrownOut_19, r_M_thrownOut_22, r_M_thrownOut_25, r_M_thrownOut_26, r_M_thrownOut_29, r_M_thrownOut_30, r_M_thrownOut_31, r_M_thrownOut_34, r_M_thrownOut_37, r_M_thrownOut_38, r_M_thrownOut_39, r_M_thrownOut_40, r_M_thrownOut_41, r_M_thrownOut_42, r_M_thrownOut_43, r_M_thrownOut_46, r_M_thrownOut_47, r_M_thrownOut_50, r_M_thrownOut_53, r_M_thrownOut_54, r_M_thrownOut_55, r_M_thrownOut_55_k, r_M_thrownOut_58, r_M_thrownOut_61, r_M_thrownOut_62, ly_k31, ly_g31_27, ly_g31_38, ly_n49, ly_r49, ly_w49, ly_g31_41, i3n_0, i3n_1, i3n_2, l6n_0, l6n_1, am_kf_s, am_km_s, am_kn_s, am_k_v, am_k_0, am_isr_r, am_isr_n, am_isr_v, am_sw_0, am_sw_i, am_sw_l, am_sw_r, am_sw_n, am_sw_v, am_ct_i, am_ct_r, am_ct_n, am_c1_o, am_c1_n, am_c1_i, am_c1_r, am_c1_v, am_mk_1, lc_lt, lc_gt, lc_eq, lc_le, lc_ge, i01_eq, i01_ok, ite_not, true_or, or_true, true_and, and_true, false_or, or_false, false_and, and_false, if_true, if_false, not_true_eq_false, not_false_eq_true, eq_self, Nat.reduceAdd, Nat.reduceLeDiff, Nat.reduceLT, Nat.reduceEqDiff, Nat.reduceMul, Nat.reduceSub, Nat.reduceDiv, Nat.reduceMod, reduceCtorEq, Nat.zero_le, i3_le, i3_lt, i3_eq, i3_eqN, i3_leN, i3_Nle, i3_ltN, i3_NleN, i3_NeqN, i3_Neq, i3_NltN, i3_Nlt, l6_le, l6_lt, l6_eq, l6_leN, l6_Nle, l6_ltN, l6_Nlt, l6_eqN, l6_Neq, x_M_isAsk_n (Or.inr h2), ↓reduceIte]
  have hl1 := fun d M => x_H_areLaws (G := G) (d := d) (M := M) h1
  have hl2 := fun d M => x_M_isAsk (G := G) (d := d) (M := M) h1 h2
  obtain ⟨w, rfl, hw, hw1, hw2, hw3⟩ := ask_nat h1
  obtain ⟨s, hs, rfl⟩ := i3_rng (by decide) h2
  obtain ⟨C1, L1, R1, o1, o2, v, e1, e2, e3, e4, e5, e6, e7, e8, e9, e10, e11⟩ := x_H_judgePairs (G := G) (d := 93) (L := L) h hs hw2 hw
  obtain ⟨C2, L2, f1, f2, f3⟩ := x_M_lays (G := G) (d := 55) (L := L1) e2
  have hl := spl_len (N := N) (hl := none) (n := N 31 27)
  have hz0 := jt_0 (N := N) (s := s) (l := spl N none (N 31 27)) hw2
  have hjl := jt_le (N := N) (s := s) (lo := w / 1000) (hi := w % 1000) (l := spl N none (N 31 27))
  have hvl : v ≤ (spl N none (N 31 27)).length := by
    rcases e11.1 with q | ⟨q, -⟩
    · omega
    · exact q
  have hE : ∀ f, f ≤ (spl N none (N 31 27)).length → (jE N s (w / 1000) (w % 1000) ((spl N none (N 31 27)).take f) ↔ f ≤ v) := by
    intro f hf
    constructor
    · exact e11.2 f hf
    · intro hfv
      rcases e11.1 with q | ⟨-, q⟩
      · have : f = 0 := by omega
        subst this
        rw [List.take_zero]
        exact jE_0 hw2
      · exact jE_le hfv q
  obtain ⟨C3, g1, g2⟩ := l_M_thrown (G := G) (x := x) (L := L2) (d := 96) hw hw2 hw3 hs hvl hE (N 31 27) 0 C2 rfl (Nat.zero_le _) (by rw [spl_0]; exact Nat.zero_le _) f2 f3
  have hfull := hE (spl N none (N 31 27)).length (Nat.le_refl _)
  rw [List.take_length] at hfull
  rw [hfull] at hz0
  have b1 : jt N s (w / 1000) (w % 1000) 100 (spl N none (N 31 27)) < 2147483648 := by omega
  refine ⟨.int (jA (spl N none (N 31 27)) v), N, Z, C1, L1, R1, D, Z, C3, L2, R1, D, ?_, ?_, g2, by omega, hz.2.1, fun _ _ => rfl⟩
  · have k10 := ly_k10 (x := x) (b := true) (Z := Z) (C := C1) (L := L1) (R := R1) (D := D)
    have en := x_Sp_numberAt (G := G) (x := x) (D := D) e3 (by omega) (d := 98) hvl
    by_cases hj : jt N s (w / 1000) (w % 1000) 100 (spl N none (N 31 27)) ≤ 0
    · simp only [e_H_thrownOut, r_H_thrownOut_0, r_H_thrownOut_1, r_H_thrownOut_4, r_H_thrownOut_5, r_H_thrownOut_6, r_H_thrownOut_9, r_H_thrownOut_10, r_H_thrownOut_13, r_H_thrownOut_16, r_H_thrownOut_17, r_H_thrownOut_18, r_H_thrownOut_21, r_H_thrownOut_24, r_H_thrownOut_27, r_H_thrownOut_29, r_H_thrownOut_30, r_H_thrownOut_31, r_H_thrownOut_32, r_H_thrownOut_33, r_H_thrownOut_36, r_H_thrownOut_37, r_H_thrownOut_40, r_H_thrownOut_43, r_H_thrownOut_46, r_H_thrownOut_47, r_H_thrownOut_50, r_H_thrownOut_51, r_H_thrownOut_54, r_H_thrownOut_55, r_H_thrownOut_58, r_H_thrownOut_61, r_H_thrownOut_64, ly_k0, ly_g0_12, ly_k10, ly_g10_7, ly_g10_10, i3n_0, i3n_1, i3n_2, i3n_1000, i3n_9999, l6n_0, l6n_1, am_kf_s, am_km_s, am_kn_s, am_k_v, am_k_0, am_isr_r, am_isr_n, am_isr_v, am_sw_0, am_sw_i, am_sw_l, am_sw_r, am_sw_n, am_sw_v, am_ct_i, am_ct_r, am_ct_n, am_c1_o, am_c1_n, am_c1_i, am_c1_r, am_c1_v, am_mk_1, lc_lt, lc_gt, lc_eq, lc_le, lc_ge, i01_eq, i01_ok, ite_not, true_or, or_true, true_and, and_true, false_or, or_false, false_and, and_false, if_true, if_false, not_true_eq_false, not_false_eq_true, eq_self, Nat.reduceAdd, Nat.reduceLeDiff, Nat.reduceLT, Nat.reduceEqDiff, Nat.reduceMul, Nat.reduceSub, Nat.reduceDiv, Nat.reduceMod, reduceCtorEq, Nat.zero_le, i3_le, i3_lt, i3_eq, i3_eqN, i3_leN, i3_Nle, i3_ltN, i3_NleN, i3_NeqN, i3_Neq, i3_NltN, i3_Nlt, l6_le, l6_lt, l6_eq, l6_leN, l6_Nle, l6_ltN, l6_Nlt, l6_eqN, l6_Neq, hl1, x_H_within, h2, and_self, e1, e4, e7, b1, hj, k10, en, ↓reduceIte]
    · have ev : jA (spl N none (N 31 27)) v = -Int32.ofNat 1 := by
        have : ¬ jt N s (w / 1000) (w % 1000) 100 (spl N none (N 31 27)) = 0 := by omega
        have : (spl N none (N 31 27)).length ≤ v := Classical.byContradiction fun q => this (hz0.mpr q)
        unfold jA
        rw [List.getElem?_eq_none this]
      rw [ev]
      simp only [e_H_thrownOut, r_H_thrownOut_0, r_H_thrownOut_1, r_H_thrownOut_4, r_H_thrownOut_5, r_H_thrownOut_6, r_H_thrownOut_9, r_H_thrownOut_10, r_H_thrownOut_13, r_H_thrownOut_16, r_H_thrownOut_17, r_H_thrownOut_18, r_H_thrownOut_21, r_H_thrownOut_24, r_H_thrownOut_27, r_H_thrownOut_29, r_H_thrownOut_30, r_H_thrownOut_31, r_H_thrownOut_32, r_H_thrownOut_33, r_H_thrownOut_36, r_H_thrownOut_37, r_H_thrownOut_40, r_H_thrownOut_43, r_H_thrownOut_46, r_H_thrownOut_47, r_H_thrownOut_50, r_H_thrownOut_51, r_H_thrownOut_54, r_H_thrownOut_55, r_H_thrownOut_58, r_H_thrownOut_61, r_H_thrownOut_64, ly_k0, ly_g0_12, ly_k10, ly_g10_7, ly_g10_10, i3n_0, i3n_1, i3n_2, i3n_1000, i3n_9999, l6n_0, l6n_1, am_kf_s, am_km_s, am_kn_s, am_k_v, am_k_0, am_isr_r, am_isr_n, am_isr_v, am_sw_0, am_sw_i, am_sw_l, am_sw_r, am_sw_n, am_sw_v, am_ct_i, am_ct_r, am_ct_n, am_c1_o, am_c1_n, am_c1_i, am_c1_r, am_c1_v, am_mk_1, lc_lt, lc_gt, lc_eq, lc_le, lc_ge, i01_eq, i01_ok, ite_not, true_or, or_true, true_and, and_true, false_or, or_false, false_and, and_false, if_true, if_false, not_true_eq_false, not_false_eq_true, eq_self, Nat.reduceAdd, Nat.reduceLeDiff, Nat.reduceLT, Nat.reduceEqDiff, Nat.reduceMul, Nat.reduceSub, Nat.reduceDiv, Nat.reduceMod, reduceCtorEq, Nat.zero_le, i3_le, i3_lt, i3_eq, i3_eqN, i3_leN, i3_Nle, i3_ltN, i3_NleN, i3_NeqN, i3_Neq, i3_NltN, i3_Nlt, l6_le, l6_lt, l6_eq, l6_leN, l6_Nle, l6_ltN, l6_Nlt, l6_eqN, l6_Neq, hl1, x_H_within, h2, and_self, e1, e4, e7, b1, hj, ↓reduceIte]
  · rw [← g1]
    simp only [e_M_thrownOut, r_M_thrownOut_0, r_M_thrownOut_1, r_M_thrownOut_2, r_M_thrownOut_5, r_M_thrownOut_8, r_M_thrownOut_10, r_M_thrownOut_11, r_M_thrownOut_12, r_M_thrownOut_15, r_M_thrownOut_16, r_M_thrownOut_16_k, r_M_thrownOut_18, r_M_thrownOut_19, r_M_thrownOut_22, r_M_thrownOut_25, r_M_thrownOut_26, r_M_thrownOut_29, r_M_thrownOut_30, r_M_thrownOut_31, r_M_thrownOut_34, r_M_thrownOut_37, r_M_thrownOut_38, r_M_thrownOut_39, r_M_thrownOut_40, r_M_thrownOut_41, r_M_thrownOut_42, r_M_thrownOut_43, r_M_thrownOut_46, r_M_thrownOut_47, r_M_thrownOut_50, r_M_thrownOut_53, r_M_thrownOut_54, r_M_thrownOut_55, r_M_thrownOut_55_k, r_M_thrownOut_58, r_M_thrownOut_61, r_M_thrownOut_62, ly_k31, ly_g31_27, ly_g31_38, ly_n49, ly_r49, ly_w49, ly_g31_41, i3n_0, i3n_1, i3n_2, l6n_0, l6n_1, am_kf_s, am_km_s, am_kn_s, am_k_v, am_k_0, am_isr_r, am_isr_n, am_isr_v, am_sw_0, am_sw_i, am_sw_l, am_sw_r, am_sw_n, am_sw_v, am_ct_i, am_ct_r, am_ct_n, am_c1_o, am_c1_n, am_c1_i, am_c1_r, am_c1_v, am_mk_1, lc_lt, lc_gt, lc_eq, lc_le, lc_ge, i01_eq, i01_ok, ite_not, true_or, or_true, true_and, and_true, false_or, or_false, false_and, and_false, if_true, if_false, not_true_eq_false, not_false_eq_true, eq_self, Nat.reduceAdd, Nat.reduceLeDiff, Nat.reduceLT, Nat.reduceEqDiff, Nat.reduceMul, Nat.reduceSub, Nat.reduceDiv, Nat.reduceMod, reduceCtorEq, Nat.zero_le, i3_le, i3_lt, i3_eq, i3_eqN, i3_leN, i3_Nle, i3_ltN, i3_NleN, i3_NeqN, i3_Neq, i3_NltN, i3_Nlt, l6_le, l6_lt, l6_eq, l6_leN, l6_Nle, l6_ltN, l6_Nlt, l6_eqN, l6_Neq, hl2, f1, ↓reduceIte]
end
