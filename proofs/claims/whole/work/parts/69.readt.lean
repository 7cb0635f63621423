/-! readPart, read -/
section
variable {G : Nat → Value} {x : Nat} {bb : Bool} {Z : ly_Z} {C : Nat → Nat → Int32} {L : Nat → Nat → Int64} {R : Nat → Nat → Option Nat} {D : am_M} {b : Nat → Nat} {n : Nat}
def tp_T79 (u : Nat) : Prop := u = 7 ∨ u = 9
theorem ly_fr_f2 {Z : ly_Z} {C C' : Nat → Nat → Int32} {L : Nat → Nat → Int64} {R : Nat → Nat → Option Nat} {D : am_M} (h : tp_f2 C C') : ly_fr tp_T79 x Z C L R D Z C' L R D := ly_fr_C (fun u j hu => h u j hu)
theorem tp_at_eq {s : Nat} {C C' : Nat → Nat → Int32} (h : tp_at b n s C) (h7 : C' 7 = C 7) (h8 : C' 8 = C 8) : tp_at b n s C' := by
  unfold tp_at tp_B at h ⊢
  rw [h7, h8]
  exact h
theorem x_Ta_readPart {d s t k key K : Nat} (hS : tp_S G x Z D) (hZ : tp_Z x Z D) (hD : tp_D x bb D) (hk : k = 8 ∨ k = 9) (ht : t / 1000 = k) (hK : key = 306 ∧ K = 6 ∨ key = 307 ∧ K = 7) (hat : tp_at b n s C) : match pa_part b n key s with
    | .inl (c, s') => ∃ Z' C' L' R' D', am_ex G (d + 45) K_Ta_readPart [.ref (x + 7), .int (Int32.ofNat K)] (am_mk x bb Z C L R D) = some (some (.ref D.1), am_mk x bb Z' C' L' R' D') ∧ ly_fr (fun u => u = 7 ∨ u = 9 ∨ u = t) x Z C L R D Z' C' L' R' D' ∧ tp_Z x Z' D' ∧ D'.1 = D.1 + 1 ∧ ly_is x bb Z' D.1 t k ∧ R' t 0 = some c.length ∧ (∀ j, j < c.length → C' t j = c.getD j 0) ∧ tp_at b n s' C' ∧ c.length < 160
    | .inr e => ∃ C', am_ex G (d + 45) K_Ta_readPart [.ref (x + 7), .int (Int32.ofNat K)] (am_mk x bb Z C L R D) = some (some .null, am_mk x bb Z C' L R D) ∧ tp_f2 C C' ∧ tp_B b n C' ∧ C' 7 4 = Int32.ofNat e := by
  obtain ⟨lv, -, -⟩ := x_Ta_levels (G := G) (bb := bb) (L := L) (R := R) (b := b) (n := n) hS 5 (Nat.le_refl _)
  have gd := (pa_good_lv (b := b) (n := n) 5).1
  generalize hC0 : ux C 7 8 (Int32.ofNat 0) = C0
  have hfw : tp_fw C C0 := by
    intro k j hkj
    rw [← hC0, ux_eq, if_neg (fun e => hkj (Or.inr e))]
  have hat0 : tp_at b n s C0 := tp_at_fw hat hfw
  have hcb0 : tp_cb [] C0 := ⟨by rw [← hC0, ux_eq, if_pos ⟨rfl, rfl⟩]; rfl, fun j hj => absurd hj (Nat.not_lt_zero _)⟩
  have h3 := hat0.2.2.2.1
  have hn := hat.1.2.1
  unfold pa_part
  by_cases hq : pa_tk b n s = key
  · rw [if_pos hq]
    have h3p : C0 7 3 = Int32.ofNat K := by
      rcases hK with ⟨h1, h2⟩ | ⟨h1, h2⟩
      · rw [h3, h2, ct_6, hq]; exact h1
      · rw [h3, h2, ct_7, hq]; exact h1
    obtain ⟨k1, k2, k3⟩ := pa_nx_le (b := b) hat.2.1
    have k3 := k3 (pa_tk_end (by rw [hq]; omega))
    obtain ⟨C1, e1, at1, cb1, f1⟩ := x_Ta_next (d := d + 36) (bb := bb) (L := L) (R := R) hS hat0 hcb0
    have hs := lv (d + 44) (by omega) C1 [] (pa_nx b n s) at1 cb1 (Nat.zero_le _)
    simp only [Nat.sub_self] at hs
    have hgs := gd (pa_nx b n s) k2
    cases hc : (pa_lv b n 5).1 (pa_nx b n s) with
    | inr e =>
      rw [hc] at hs
      obtain ⟨C2, e2, B2, t2, f2⟩ := hs
      refine ⟨C2, ?_, tp_f2_tr (tp_f2_fw hfw) (tp_f2_tr f1 f2), B2, t2⟩
      simp only [e_Ta_readPart, r_Ta_readPart_0, r_Ta_readPart_1, r_Ta_readPart_2, r_Ta_readPart_5, r_Ta_readPart_6, r_Ta_readPart_9, r_Ta_readPart_10, r_Ta_readPart_13, r_Ta_readPart_14, r_Ta_readPart_15, r_Ta_readPart_16, r_Ta_readPart_19, r_Ta_readPart_20, r_Ta_readPart_21, r_Ta_readPart_24, r_Ta_readPart_27, r_Ta_readPart_28, r_Ta_readPart_31, r_Ta_readPart_33, r_Ta_readPart_36, r_Ta_readPart_37, r_Ta_readPart_38, r_Ta_readPart_39, r_Ta_readPart_42, r_Ta_readPart_43, r_Ta_readPart_46, r_Ta_readPart_47, r_Ta_readPart_50, r_Ta_readPart_53, ly_g7_8, ly_p7_8, ly_g7_3, ly_k7, ly_g7_7, ly_n9, ly_r9, ly_w9, i3n_0, i3n_1, i3n_59, l6n_0, l6n_1, am_kf_s, am_km_s, am_kn_s, am_k_v, am_k_0, am_isr_r, am_isr_n, am_isr_v, am_sw_0, am_sw_i, am_sw_l, am_sw_r, am_sw_n, am_sw_v, am_ct_i, am_ct_r, am_ct_n, am_c1_o, am_c1_n, am_c1_i, am_c1_r, am_c1_v, am_mk_1, lc_lt, lc_gt, lc_eq, lc_le, lc_ge, i01_eq, i01_ok, ite_not, true_or, or_true, true_and, and_true, false_or, or_false, false_and, and_false, if_true, if_false, not_true_eq_false, not_false_eq_true, eq_self, Nat.reduceAdd, Nat.reduceLeDiff, Nat.reduceLT, Nat.reduceEqDiff, Nat.reduceMul, Nat.reduceSub, Nat.reduceDiv, Nat.reduceMod, reduceCtorEq, Nat.zero_le, i3_le, i3_lt, i3_eq, i3_eqN, i3_leN, i3_Nle, i3_ltN, i3_NleN, i3_NeqN, i3_Neq, i3_NltN, i3_Nlt, l6_le, l6_lt, l6_eq, l6_leN, l6_Nle, l6_ltN, l6_Nlt, l6_eqN, l6_Neq, ux_eq, hC0, h3p, e1, e2]
    | inl q =>
      obtain ⟨c, s1⟩ := q
      rw [hc] at hs hgs
      obtain ⟨C2, e2, at2, cb2, f2⟩ := hs
      obtain ⟨g1, g2, g3⟩ := hgs
      have h3c := at2.2.2.2.1
      rw [List.nil_append] at cb2
      have hcl : c.length < 160 := by omega
      simp only
      by_cases hr : pa_tk b n s1 = 59
      · rw [if_pos hr]
        have h3r : C2 7 3 = Int32.ofNat 59 := by rw [h3c, ct_59]; exact hr
        obtain ⟨C3, e3, at3, cb3, f3⟩ := x_Ta_next (d := d + 36) (bb := bb) (L := L) (R := R) hS at2 cb2
        have hcp := x_Ja_copyOf (G := G) (x := x) (bb := bb) (Z := Z) (C := C3) (L := L) (R := R) (D := D) (d := d + 43) hk ht hD hcl
        have h7 : ¬ 7 = t := by omega
        have h8 : ¬ 8 = t := by omega
        refine ⟨_, uk C3 t (fun j => if j < c.length then C3 9 j else Int32.ofNat 0), uk L t (fun _ => Int64.ofNat 0), uk R t (fun _ => some c.length), _, ?_, ?_, tp_Z_new (t := t) (C := C3) (L := L) (R := R) hZ, rfl, ly_is_new (tp_D_ns hD (Nat.le_refl _)) (by omega) ht, ?_, ?_, ?_, hcl⟩
        · simp only [e_Ta_readPart, r_Ta_readPart_0, r_Ta_readPart_1, r_Ta_readPart_2, r_Ta_readPart_5, r_Ta_readPart_6, r_Ta_readPart_9, r_Ta_readPart_10, r_Ta_readPart_13, r_Ta_readPart_14, r_Ta_readPart_15, r_Ta_readPart_16, r_Ta_readPart_19, r_Ta_readPart_20, r_Ta_readPart_21, r_Ta_readPart_24, r_Ta_readPart_27, r_Ta_readPart_28, r_Ta_readPart_31, r_Ta_readPart_33, r_Ta_readPart_36, r_Ta_readPart_37, r_Ta_readPart_38, r_Ta_readPart_39, r_Ta_readPart_42, r_Ta_readPart_43, r_Ta_readPart_46, r_Ta_readPart_47, r_Ta_readPart_50, r_Ta_readPart_53, ly_g7_8, ly_p7_8, ly_g7_3, ly_k7, ly_g7_7, ly_n9, ly_r9, ly_w9, i3n_0, i3n_1, i3n_59, l6n_0, l6n_1, am_kf_s, am_km_s, am_kn_s, am_k_v, am_k_0, am_isr_r, am_isr_n, am_isr_v, am_sw_0, am_sw_i, am_sw_l, am_sw_r, am_sw_n, am_sw_v, am_ct_i, am_ct_r, am_ct_n, am_c1_o, am_c1_n, am_c1_i, am_c1_r, am_c1_v, am_mk_1, lc_lt, lc_gt, lc_eq, lc_le, lc_ge, i01_eq, i01_ok, ite_not, true_or, or_true, true_and, and_true, false_or, or_false, false_and, and_false, if_true, if_false, not_true_eq_false, not_false_eq_true, eq_self, Nat.reduceAdd, Nat.reduceLeDiff, Nat.reduceLT, Nat.reduceEqDiff, Nat.reduceMul, Nat.reduceSub, Nat.reduceDiv, Nat.reduceMod, reduceCtorEq, Nat.zero_le, i3_le, i3_lt, i3_eq, i3_eqN, i3_leN, i3_Nle, i3_ltN, i3_NleN, i3_NeqN, i3_Neq, i3_NltN, i3_Nlt, l6_le, l6_lt, l6_eq, l6_leN, l6_Nle, l6_ltN, l6_Nlt, l6_eqN, l6_Neq, ux_eq, hC0, h3p, e1, e2, h3r, e3, cb3.1, hcp]
        · refine ly_fr_sub (ly_fr_tr (ly_fr_f2 (tp_f2_tr (tp_f2_fw hfw) (tp_f2_tr f1 (tp_f2_tr f2 f3)))) (ly_fr_new (t := t) (C := C3) (L := L) (R := R) hZ)) ?_
          intro u hu
          rcases hu with (h | h) | h
          · exact Or.inl h
          · exact Or.inr (Or.inl h)
          · exact Or.inr (Or.inr h)
        · rw [uk_eq, if_pos rfl]
        · intro j hj
          rw [uk_eq, if_pos rfl, if_pos hj]
          exact cb3.2 j hj
        · exact tp_at_eq at3 (by rw [uk_eq, if_neg h7]) (by rw [uk_eq, if_neg h8])
      · rw [if_neg hr]
        refine ⟨C2, ?_, tp_f2_tr (tp_f2_fw hfw) (tp_f2_tr f1 f2), at2.1, at2.2.2.2.2.1⟩
        simp only [e_Ta_readPart, r_Ta_readPart_0, r_Ta_readPart_1, r_Ta_readPart_2, r_Ta_readPart_5, r_Ta_readPart_6, r_Ta_readPart_9, r_Ta_readPart_10, r_Ta_readPart_13, r_Ta_readPart_14, r_Ta_readPart_15, r_Ta_readPart_16, r_Ta_readPart_19, r_Ta_readPart_20, r_Ta_readPart_21, r_Ta_readPart_24, r_Ta_readPart_27, r_Ta_readPart_28, r_Ta_readPart_31, r_Ta_readPart_33, r_Ta_readPart_36, r_Ta_readPart_37, r_Ta_readPart_38, r_Ta_readPart_39, r_Ta_readPart_42, r_Ta_readPart_43, r_Ta_readPart_46, r_Ta_readPart_47, r_Ta_readPart_50, r_Ta_readPart_53, ly_g7_8, ly_p7_8, ly_g7_3, ly_k7, ly_g7_7, ly_n9, ly_r9, ly_w9, i3n_0, i3n_1, i3n_59, l6n_0, l6n_1, am_kf_s, am_km_s, am_kn_s, am_k_v, am_k_0, am_isr_r, am_isr_n, am_isr_v, am_sw_0, am_sw_i, am_sw_l, am_sw_r, am_sw_n, am_sw_v, am_ct_i, am_ct_r, am_ct_n, am_c1_o, am_c1_n, am_c1_i, am_c1_r, am_c1_v, am_mk_1, lc_lt, lc_gt, lc_eq, lc_le, lc_ge, i01_eq, i01_ok, ite_not, true_or, or_true, true_and, and_true, false_or, or_false, false_and, and_false, if_true, if_false, not_true_eq_false, not_false_eq_true, eq_self, Nat.reduceAdd, Nat.reduceLeDiff, Nat.reduceLT, Nat.reduceEqDiff, Nat.reduceMul, Nat.reduceSub, Nat.reduceDiv, Nat.reduceMod, reduceCtorEq, Nat.zero_le, i3_le, i3_lt, i3_eq, i3_eqN, i3_leN, i3_Nle, i3_ltN, i3_NleN, i3_NeqN, i3_Neq, i3_NltN, i3_Nlt, l6_le, l6_lt, l6_eq, l6_leN, l6_Nle, l6_ltN, l6_Nlt, l6_eqN, l6_Neq, ux_eq, hC0, h3p, e1, e2, h3c, ct_59, hr]
  · rw [if_neg hq]
    refine ⟨C0, ?_, tp_f2_fw hfw, hat0.1, hat0.2.2.2.2.1⟩
    rcases hK with ⟨h1, h2⟩ | ⟨h1, h2⟩
    · have hq : ¬ pa_tk b n s = 306 := by rw [← h1]; exact hq
      subst h2
      simp only [e_Ta_readPart, r_Ta_readPart_0, r_Ta_readPart_1, r_Ta_readPart_2, r_Ta_readPart_5, r_Ta_readPart_6, r_Ta_readPart_9, r_Ta_readPart_10, r_Ta_readPart_13, r_Ta_readPart_14, r_Ta_readPart_15, r_Ta_readPart_16, r_Ta_readPart_19, r_Ta_readPart_20, r_Ta_readPart_21, r_Ta_readPart_24, r_Ta_readPart_27, r_Ta_readPart_28, r_Ta_readPart_31, r_Ta_readPart_33, r_Ta_readPart_36, r_Ta_readPart_37, r_Ta_readPart_38, r_Ta_readPart_39, r_Ta_readPart_42, r_Ta_readPart_43, r_Ta_readPart_46, r_Ta_readPart_47, r_Ta_readPart_50, r_Ta_readPart_53, ly_g7_8, ly_p7_8, ly_g7_3, ly_k7, ly_g7_7, ly_n9, ly_r9, ly_w9, i3n_0, i3n_1, i3n_59, l6n_0, l6n_1, am_kf_s, am_km_s, am_kn_s, am_k_v, am_k_0, am_isr_r, am_isr_n, am_isr_v, am_sw_0, am_sw_i, am_sw_l, am_sw_r, am_sw_n, am_sw_v, am_ct_i, am_ct_r, am_ct_n, am_c1_o, am_c1_n, am_c1_i, am_c1_r, am_c1_v, am_mk_1, lc_lt, lc_gt, lc_eq, lc_le, lc_ge, i01_eq, i01_ok, ite_not, true_or, or_true, true_and, and_true, false_or, or_false, false_and, and_false, if_true, if_false, not_true_eq_false, not_false_eq_true, eq_self, Nat.reduceAdd, Nat.reduceLeDiff, Nat.reduceLT, Nat.reduceEqDiff, Nat.reduceMul, Nat.reduceSub, Nat.reduceDiv, Nat.reduceMod, reduceCtorEq, Nat.zero_le, i3_le, i3_lt, i3_eq, i3_eqN, i3_leN, i3_Nle, i3_ltN, i3_NleN, i3_NeqN, i3_Neq, i3_NltN, i3_Nlt, l6_le, l6_lt, l6_eq, l6_leN, l6_Nle, l6_ltN, l6_Nlt, l6_eqN, l6_Neq, ux_eq, hC0, h3, ct_6, hq]
    · have hq : ¬ pa_tk b n s = 307 := by rw [← h1]; exact hq
      subst h2
      simp only [e_Ta_readPart, r_Ta_readPart_0, r_Ta_readPart_1, r_Ta_readPart_2, r_Ta_readPart_5, r_Ta_readPart_6, r_Ta_readPart_9, r_Ta_readPart_10, r_Ta_readPart_13, r_Ta_readPart_14, r_Ta_readPart_15, r_Ta_readPart_16, r_Ta_readPart_19, r_Ta_readPart_20, r_Ta_readPart_21, r_Ta_readPart_24, r_Ta_readPart_27, r_Ta_readPart_28, r_Ta_readPart_31, r_Ta_readPart_33, r_Ta_readPart_36, r_Ta_readPart_37, r_Ta_readPart_38, r_Ta_readPart_39, r_Ta_readPart_42, r_Ta_readPart_43, r_Ta_readPart_46, r_Ta_readPart_47, r_Ta_readPart_50, r_Ta_readPart_53, ly_g7_8, ly_p7_8, ly_g7_3, ly_k7, ly_g7_7, ly_n9, ly_r9, ly_w9, i3n_0, i3n_1, i3n_59, l6n_0, l6n_1, am_kf_s, am_km_s, am_kn_s, am_k_v, am_k_0, am_isr_r, am_isr_n, am_isr_v, am_sw_0, am_sw_i, am_sw_l, am_sw_r, am_sw_n, am_sw_v, am_ct_i, am_ct_r, am_ct_n, am_c1_o, am_c1_n, am_c1_i, am_c1_r, am_c1_v, am_mk_1, lc_lt, lc_gt, lc_eq, lc_le, lc_ge, i01_eq, i01_ok, ite_not, true_or, or_true, true_and, and_true, false_or, or_false, false_and, and_false, if_true, if_false, not_true_eq_false, not_false_eq_true, eq_self, Nat.reduceAdd, Nat.reduceLeDiff, Nat.reduceLT, Nat.reduceEqDiff, Nat.reduceMul, Nat.reduceSub, Nat.reduceDiv, Nat.reduceMod, reduceCtorEq, Nat.zero_le, i3_le, i3_lt, i3_eq, i3_eqN, i3_leN, i3_Nle, i3_ltN, i3_NleN, i3_NeqN, i3_Neq, i3_NltN, i3_Nlt, l6_le, l6_lt, l6_eq, l6_leN, l6_Nle, l6_ltN, l6_Nlt, l6_eqN, l6_Neq, ux_eq, hC0, h3, ct_7, hq]
/-- the TEXT number t stands at q, with these codes -/
def tx_ok (x : Nat) (bb : Bool) (Z : ly_Z) (C : Nat → Nat → Int32) (R : Nat → Nat → Option Nat) (q t : Nat) (cl ce : List Int32) : Prop := ∃ a1 a2 a3, ly_is x bb Z q (t + 7000) 7 ∧ ly_is x bb Z a1 (t + 8000) 8 ∧ ly_is x bb Z a2 (t + 9000) 9 ∧ ly_is x bb Z a3 (t + 10000) 10 ∧ R (t + 7000) 0 = some a1 ∧ R (t + 7000) 1 = some a2 ∧ R (t + 7000) 2 = some a3 ∧ R (t + 8000) 0 = some cl.length ∧ R (t + 9000) 0 = some ce.length ∧ R (t + 10000) 0 = some (max cl.length ce.length) ∧ (∀ j, j < cl.length → C (t + 8000) j = cl.getD j 0) ∧ (∀ j, j < ce.length → C (t + 9000) j = ce.getD j 0) ∧ cl.length < 160 ∧ ce.length < 160
def tx_T (t u : Nat) : Prop := u = 7 ∨ u = 9 ∨ u = t + 7000 ∨ u = t + 8000 ∨ u = t + 9000 ∨ u = t + 10000
theorem x_Ta_read {d t : Nat} (ht : t < 1000) (hS : tp_S G x Z D) (hZ : tp_Z x Z D) (hD : tp_D x bb D) (hB : tp_B b n C) : ∃ Z' C' L' R' D' v, am_ex G (d + 46) K_Ta_read [.ref (x + 7)] (am_mk x bb Z C L R D) = some (some v, am_mk x bb Z' C' L' R' D') ∧ ly_fr (tx_T t) x Z C L R D Z' C' L' R' D' ∧ tp_Z x Z' D' ∧ D'.1 ≤ D.1 + 4 ∧ C' 7 1 = Int32.ofNat 0 ∧ (match pa_text b n with
    | .inl (cl, ce) => ∃ q, v = .ref q ∧ tx_ok x bb Z' C' R' q t cl ce
    | .inr e => v = .null ∧ C' 7 6 = Int32.ofNat e) := by
  generalize hC0 : ux C 7 2 (Int32.ofNat 0) = C0
  have hB0 : tp_B b n C0 := by rw [← hC0]; exact tp_ux hB (by decide) (by decide)
  have h02 : C0 7 2 = Int32.ofNat 0 := by rw [← hC0, ux_eq, if_pos ⟨rfl, rfl⟩]
  have f0 : tp_f2 C C0 := fun k j hk => by rw [← hC0, ux_eq, if_neg (fun e => hk (Or.inl e.1))]
  obtain ⟨C1, e1, at1, f1⟩ := x_Ta_step (d := d + 37) (bb := bb) (L := L) (R := R) hS hB0 h02 (Nat.zero_le _)
  have hp := x_Ta_readPart (d := d) (t := t + 8000) (k := 8) (key := 306) (K := 6) (L := L) (R := R) hS hZ hD (Or.inl rfl) (by omega) (Or.inl ⟨rfl, rfl⟩) at1
  have F1 : ly_fr tp_T79 x Z C L R D Z C1 L R D := ly_fr_f2 (tp_f2_tr f0 (tp_f2_fr f1))
  unfold pa_text
  cases hc : pa_part b n 306 (pa_sk b n 0) with
  | inr e =>
    rw [hc] at hp
    obtain ⟨C2, e2, f2, B2, s2⟩ := hp
    refine ⟨Z, ux (ux C2 7 6 (Int32.ofNat e)) 7 1 (Int32.ofNat 0), L, R, D, .null, ?_, ?_, hZ, by omega, by rw [ux_eq, if_pos ⟨rfl, rfl⟩], rfl, by simp only [ux_eq, Nat.reduceEqDiff, and_false, if_false, if_true, and_self]⟩
    · by_cases hend : C2 7 3 = -Int32.ofNat 1
      · simp only [e_Ta_read, r_Ta_read_0, r_Ta_read_1, r_Ta_read_2, r_Ta_read_5, r_Ta_read_6, r_Ta_read_9, r_Ta_read_10, r_Ta_read_12, r_Ta_read_15, r_Ta_read_15_k, r_Ta_read_16, r_Ta_read_17, r_Ta_read_20, r_Ta_read_21, r_Ta_read_24, r_Ta_read_25, r_Ta_read_27, r_Ta_read_30, r_Ta_read_30_k, r_Ta_read_31, r_Ta_read_32, r_Ta_read_33, r_Ta_read_36, r_Ta_read_39, r_Ta_read_40, r_Ta_read_43, r_Ta_read_44, r_Ta_read_47, r_Ta_read_48, r_Ta_read_51, r_Ta_read_52, r_Ta_read_52_k, r_Ta_read_53, r_Ta_read_54, r_Ta_read_55, r_Ta_read_58, r_Ta_read_59, r_Ta_read_62, r_Ta_read_63, r_Ta_read_66, r_Ta_read_69, r_Ta_read_70, r_Ta_read_71, r_Ta_read_72, r_Ta_read_75, r_Ta_read_78, r_Ta_read_79, ly_g7_2, ly_p7_2, ly_k7, ly_g7_4, ly_g7_6, ly_p7_6, ly_g7_3, ly_g7_1, ly_p7_1, i3n_0, i3n_1, i3n_6, i3n_7, l6n_0, l6n_1, am_kf_s, am_km_s, am_kn_s, am_k_v, am_k_0, am_isr_r, am_isr_n, am_isr_v, am_sw_0, am_sw_i, am_sw_l, am_sw_r, am_sw_n, am_sw_v, am_ct_i, am_ct_r, am_ct_n, am_c1_o, am_c1_n, am_c1_i, am_c1_r, am_c1_v, am_mk_1, lc_lt, lc_gt, lc_eq, lc_le, lc_ge, i01_eq, i01_ok, ite_not, true_or, or_true, true_and, and_true, false_or, or_false, false_and, and_false, if_true, if_false, not_true_eq_false, not_false_eq_true, eq_self, Nat.reduceAdd, Nat.reduceLeDiff, Nat.reduceLT, Nat.reduceEqDiff, Nat.reduceMul, Nat.reduceSub, Nat.reduceDiv, Nat.reduceMod, reduceCtorEq, Nat.zero_le, i3_le, i3_lt, i3_eq, i3_eqN, i3_leN, i3_Nle, i3_ltN, i3_NleN, i3_NeqN, i3_Neq, i3_NltN, i3_Nlt, l6_le, l6_lt, l6_eq, l6_leN, l6_Nle, l6_ltN, l6_Nlt, l6_eqN, l6_Neq, ux_eq, hC0, e1, e2, s2, hend]
      · simp only [e_Ta_read, r_Ta_read_0, r_Ta_read_1, r_Ta_read_2, r_Ta_read_5, r_Ta_read_6, r_Ta_read_9, r_Ta_read_10, r_Ta_read_12, r_Ta_read_15, r_Ta_read_15_k, r_Ta_read_16, r_Ta_read_17, r_Ta_read_20, r_Ta_read_21, r_Ta_read_24, r_Ta_read_25, r_Ta_read_27, r_Ta_read_30, r_Ta_read_30_k, r_Ta_read_31, r_Ta_read_32, r_Ta_read_33, r_Ta_read_36, r_Ta_read_39, r_Ta_read_40, r_Ta_read_43, r_Ta_read_44, r_Ta_read_47, r_Ta_read_48, r_Ta_read_51, r_Ta_read_52, r_Ta_read_52_k, r_Ta_read_53, r_Ta_read_54, r_Ta_read_55, r_Ta_read_58, r_Ta_read_59, r_Ta_read_62, r_Ta_read_63, r_Ta_read_66, r_Ta_read_69, r_Ta_read_70, r_Ta_read_71, r_Ta_read_72, r_Ta_read_75, r_Ta_read_78, r_Ta_read_79, ly_g7_2, ly_p7_2, ly_k7, ly_g7_4, ly_g7_6, ly_p7_6, ly_g7_3, ly_g7_1, ly_p7_1, i3n_0, i3n_1, i3n_6, i3n_7, l6n_0, l6n_1, am_kf_s, am_km_s, am_kn_s, am_k_v, am_k_0, am_isr_r, am_isr_n, am_isr_v, am_sw_0, am_sw_i, am_sw_l, am_sw_r, am_sw_n, am_sw_v, am_ct_i, am_ct_r, am_ct_n, am_c1_o, am_c1_n, am_c1_i, am_c1_r, am_c1_v, am_mk_1, lc_lt, lc_gt, lc_eq, lc_le, lc_ge, i01_eq, i01_ok, ite_not, true_or, or_true, true_and, and_true, false_or, or_false, false_and, and_false, if_true, if_false, not_true_eq_false, not_false_eq_true, eq_self, Nat.reduceAdd, Nat.reduceLeDiff, Nat.reduceLT, Nat.reduceEqDiff, Nat.reduceMul, Nat.reduceSub, Nat.reduceDiv, Nat.reduceMod, reduceCtorEq, Nat.zero_le, i3_le, i3_lt, i3_eq, i3_eqN, i3_leN, i3_Nle, i3_ltN, i3_NleN, i3_NeqN, i3_Neq, i3_NltN, i3_Nlt, l6_le, l6_lt, l6_eq, l6_leN, l6_Nle, l6_ltN, l6_Nlt, l6_eqN, l6_Neq, ux_eq, hC0, e1, e2, s2, hend]
    · refine ly_fr_sub (ly_fr_tr F1 (ly_fr_tr (ly_fr_f2 f2) (ly_fr_C (T := fun u => u = 7) (C' := ux (ux C2 7 6 (Int32.ofNat e)) 7 1 (Int32.ofNat 0)) (fun u j hu => by rw [ux_eq, if_neg (fun e => hu e.1), ux_eq, if_neg (fun e => hu e.1)])))) ?_
      intro u hu
      rcases hu with (h | h) | (h | h) | h
      · exact Or.inl h
      · exact Or.inr (Or.inl h)
      · exact Or.inl h
      · exact Or.inr (Or.inl h)
      · exact Or.inl h
  | inl q =>
    obtain ⟨cl, s1⟩ := q
    rw [hc] at hp
    obtain ⟨Z2, C2, L2, R2, D2, e2, F2, hZ2, hD2, i2, n2, c2, at2, l2⟩ := hp
    have hS2 := tp_S_fr hS F2 hZ2
    have hDD2 : tp_D x bb D2 := tp_D_up hD (by omega)
    have hp2 := x_Ta_readPart (d := d) (t := t + 9000) (k := 9) (key := 307) (K := 7) (L := L2) (R := R2) hS2 hZ2 hDD2 (Or.inr rfl) (by omega) (Or.inr ⟨rfl, rfl⟩) at2
    simp only
    cases hc2 : pa_part b n 307 s1 with
    | inr e =>
      rw [hc2] at hp2
      obtain ⟨C3, e3, f3, B3, s3⟩ := hp2
      refine ⟨Z2, ux (ux C3 7 6 (Int32.ofNat e)) 7 1 (Int32.ofNat 0), L2, R2, D2, .null, ?_, ?_, hZ2, by omega, by rw [ux_eq, if_pos ⟨rfl, rfl⟩], rfl, by simp only [ux_eq, Nat.reduceEqDiff, and_false, if_false, if_true, and_self]⟩
      · by_cases hend : C3 7 3 = -Int32.ofNat 1
        · simp only [e_Ta_read, r_Ta_read_0, r_Ta_read_1, r_Ta_read_2, r_Ta_read_5, r_Ta_read_6, r_Ta_read_9, r_Ta_read_10, r_Ta_read_12, r_Ta_read_15, r_Ta_read_15_k, r_Ta_read_16, r_Ta_read_17, r_Ta_read_20, r_Ta_read_21, r_Ta_read_24, r_Ta_read_25, r_Ta_read_27, r_Ta_read_30, r_Ta_read_30_k, r_Ta_read_31, r_Ta_read_32, r_Ta_read_33, r_Ta_read_36, r_Ta_read_39, r_Ta_read_40, r_Ta_read_43, r_Ta_read_44, r_Ta_read_47, r_Ta_read_48, r_Ta_read_51, r_Ta_read_52, r_Ta_read_52_k, r_Ta_read_53, r_Ta_read_54, r_Ta_read_55, r_Ta_read_58, r_Ta_read_59, r_Ta_read_62, r_Ta_read_63, r_Ta_read_66, r_Ta_read_69, r_Ta_read_70, r_Ta_read_71, r_Ta_read_72, r_Ta_read_75, r_Ta_read_78, r_Ta_read_79, ly_g7_2, ly_p7_2, ly_k7, ly_g7_4, ly_g7_6, ly_p7_6, ly_g7_3, ly_g7_1, ly_p7_1, i3n_0, i3n_1, i3n_6, i3n_7, l6n_0, l6n_1, am_kf_s, am_km_s, am_kn_s, am_k_v, am_k_0, am_isr_r, am_isr_n, am_isr_v, am_sw_0, am_sw_i, am_sw_l, am_sw_r, am_sw_n, am_sw_v, am_ct_i, am_ct_r, am_ct_n, am_c1_o, am_c1_n, am_c1_i, am_c1_r, am_c1_v, am_mk_1, lc_lt, lc_gt, lc_eq, lc_le, lc_ge, i01_eq, i01_ok, ite_not, true_or, or_true, true_and, and_true, false_or, or_false, false_and, and_false, if_true, if_false, not_true_eq_false, not_false_eq_true, eq_self, Nat.reduceAdd, Nat.reduceLeDiff, Nat.reduceLT, Nat.reduceEqDiff, Nat.reduceMul, Nat.reduceSub, Nat.reduceDiv, Nat.reduceMod, reduceCtorEq, Nat.zero_le, i3_le, i3_lt, i3_eq, i3_eqN, i3_leN, i3_Nle, i3_ltN, i3_NleN, i3_NeqN, i3_Neq, i3_NltN, i3_Nlt, l6_le, l6_lt, l6_eq, l6_leN, l6_Nle, l6_ltN, l6_Nlt, l6_eqN, l6_Neq, ux_eq, hC0, e1, e2, e3, s3, hend]
        · simp only [e_Ta_read, r_Ta_read_0, r_Ta_read_1, r_Ta_read_2, r_Ta_read_5, r_Ta_read_6, r_Ta_read_9, r_Ta_read_10, r_Ta_read_12, r_Ta_read_15, r_Ta_read_15_k, r_Ta_read_16, r_Ta_read_17, r_Ta_read_20, r_Ta_read_21, r_Ta_read_24, r_Ta_read_25, r_Ta_read_27, r_Ta_read_30, r_Ta_read_30_k, r_Ta_read_31, r_Ta_read_32, r_Ta_read_33, r_Ta_read_36, r_Ta_read_39, r_Ta_read_40, r_Ta_read_43, r_Ta_read_44, r_Ta_read_47, r_Ta_read_48, r_Ta_read_51, r_Ta_read_52, r_Ta_read_52_k, r_Ta_read_53, r_Ta_read_54, r_Ta_read_55, r_Ta_read_58, r_Ta_read_59, r_Ta_read_62, r_Ta_read_63, r_Ta_read_66, r_Ta_read_69, r_Ta_read_70, r_Ta_read_71, r_Ta_read_72, r_Ta_read_75, r_Ta_read_78, r_Ta_read_79, ly_g7_2, ly_p7_2, ly_k7, ly_g7_4, ly_g7_6, ly_p7_6, ly_g7_3, ly_g7_1, ly_p7_1, i3n_0, i3n_1, i3n_6, i3n_7, l6n_0, l6n_1, am_kf_s, am_km_s, am_kn_s, am_k_v, am_k_0, am_isr_r, am_isr_n, am_isr_v, am_sw_0, am_sw_i, am_sw_l, am_sw_r, am_sw_n, am_sw_v, am_ct_i, am_ct_r, am_ct_n, am_c1_o, am_c1_n, am_c1_i, am_c1_r, am_c1_v, am_mk_1, lc_lt, lc_gt, lc_eq, lc_le, lc_ge, i01_eq, i01_ok, ite_not, true_or, or_true, true_and, and_true, false_or, or_false, false_and, and_false, if_true, if_false, not_true_eq_false, not_false_eq_true, eq_self, Nat.reduceAdd, Nat.reduceLeDiff, Nat.reduceLT, Nat.reduceEqDiff, Nat.reduceMul, Nat.reduceSub, Nat.reduceDiv, Nat.reduceMod, reduceCtorEq, Nat.zero_le, i3_le, i3_lt, i3_eq, i3_eqN, i3_leN, i3_Nle, i3_ltN, i3_NleN, i3_NeqN, i3_Neq, i3_NltN, i3_Nlt, l6_le, l6_lt, l6_eq, l6_leN, l6_Nle, l6_ltN, l6_Nlt, l6_eqN, l6_Neq, ux_eq, hC0, e1, e2, e3, s3, hend]
      · refine ly_fr_sub (ly_fr_tr F1 (ly_fr_tr F2 (ly_fr_tr (ly_fr_f2 f3) (ly_fr_C (T := fun u => u = 7) (C' := ux (ux C3 7 6 (Int32.ofNat e)) 7 1 (Int32.ofNat 0)) (fun u j hu => by rw [ux_eq, if_neg (fun e => hu e.1), ux_eq, if_neg (fun e => hu e.1)]))))) ?_
        intro u hu
        unfold tp_T79 at hu
        unfold tx_T
        omega
    | inl q =>
      obtain ⟨ce, s2⟩ := q
      rw [hc2] at hp2
      obtain ⟨Z3, C3, L3, R3, D3, e3, F3, hZ3, hD3, i3, n3, c3, at3, l3⟩ := hp2
      have h33 := at3.2.2.2.1
      have h34 := at3.2.2.2.2.1
      have hS3 := tp_S_fr hS2 F3 hZ3
      have i2' := ly_is_fr i2 hZ2 F3 (by omega)
      have n2' : R3 (t + 8000) 0 = some cl.length := by rw [(F3.1 (t + 8000) (by omega)).2.2.1]; exact n2
      have c2' : ∀ j, j < cl.length → C3 (t + 8000) j = cl.getD j 0 := fun j hj => by rw [(F3.1 (t + 8000) (by omega)).1]; exact c2 j hj
      generalize hC4 : ux (ux C3 7 6 (Int32.ofNat s2)) 7 1 (Int32.ofNat 0) = C4
      have F4 : ly_fr tp_T79 x Z3 C3 L3 R3 D3 Z3 C4 L3 R3 D3 := ly_fr_C (fun u j hu => by rw [← hC4, ux_eq, if_neg (fun e => hu (Or.inl e.1)), ux_eq, if_neg (fun e => hu (Or.inl e.1))])
      have C41 : C4 7 1 = Int32.ofNat 0 := by rw [← hC4, ux_eq, if_pos ⟨rfl, rfl⟩]
      have C46 : C4 7 6 = Int32.ofNat s2 := by rw [← hC4]; simp only [ux_eq, Nat.reduceEqDiff, and_false, if_false, if_true, and_self]
      simp only
      by_cases hend : pa_tk b n s2 = 256
      · rw [if_pos hend]
        have h3p : C3 7 3 = -Int32.ofNat 1 := by rw [h33, ct_m1]; exact hend
        have hDD3 : tp_D x bb D3 := tp_D_up hD (by omega)
        have hadd := ly_a7 (x := x) (b := bb) (Z := Z3) (C := C4) (L := L3) (R := R3) (D := D3) (t := t + 7000) (by omega) (by omega) (tp_D_ns hDD3 (Nat.le_refl _))
        have F5 := ly_fr_new (t := t + 7000) (C := C4) (L := L3) (R := R3) (f := fun _ => Int32.ofNat 0) (g := fun _ => Int64.ofNat 0) (r := fun _ => none) hZ3
        have hZ5 := tp_Z_new (t := t + 7000) (C := C4) (L := L3) (R := R3) hZ3
        have i5 : ly_is x bb (ly_new Z3 D3.1 (t + 7000)) D3.1 (t + 7000) 7 := ly_is_new (tp_D_ns hDD3 (Nat.le_refl _)) (by omega) (by omega)
        have i2'' := ly_is_fr i2' hZ3 F5 (by omega)
        have i3' := ly_is_fr i3 hZ3 F5 (by omega)
        have hDD5 : tp_D x bb (ly_fz x Z3 C4 L3 R3 D3 (t + 7000)) := tp_D_up hDD3 (Nat.le_succ _)
        obtain ⟨Z6, C6, L6, R6, D6, e6, F6, hZ6, hD6, i6, r0, r1, r2, i7, r3⟩ := x_Te_init (G := G) (d := d + 44) (C := uk C4 (t + 7000) (fun _ => Int32.ofNat 0)) (L := uk L3 (t + 7000) (fun _ => Int64.ofNat 0)) (R := uk R3 (t + 7000) (fun _ => none)) (s := t + 7000) (t := t + 10000) (by omega) (by omega) i5 hDD5 hZ5 i2'' i3' (m1 := cl.length) (m2 := ce.length) (by rw [uk_eq, if_neg (by omega)]; exact n2') (by rw [uk_eq, if_neg (by omega)]; exact n3) (by omega) (by omega)
        have F45 := ly_fr_tr F4 (ly_fr_tr F5 F6)
        have FF := ly_fr_tr F1 (ly_fr_tr F2 (ly_fr_tr F3 F45))
        have i2f := ly_is_fr i2' hZ3 F45 (by unfold tp_T79; omega)
        have i3f := ly_is_fr i3 hZ3 F45 (by unfold tp_T79; omega)
        refine ⟨Z6, C6, L6, R6, D6, .ref D3.1, ?_, ly_fr_sub FF ?_, hZ6, ?_, ?_, D3.1, rfl, D.1, D2.1, D3.1 + 1, i6, i2f, i3f, i7, r0, r1, r2, ?_, ?_, r3, ?_, ?_, l2, l3⟩
        · simp only [e_Ta_read, r_Ta_read_0, r_Ta_read_1, r_Ta_read_2, r_Ta_read_5, r_Ta_read_6, r_Ta_read_9, r_Ta_read_10, r_Ta_read_12, r_Ta_read_15, r_Ta_read_15_k, r_Ta_read_16, r_Ta_read_17, r_Ta_read_20, r_Ta_read_21, r_Ta_read_24, r_Ta_read_25, r_Ta_read_27, r_Ta_read_30, r_Ta_read_30_k, r_Ta_read_31, r_Ta_read_32, r_Ta_read_33, r_Ta_read_36, r_Ta_read_39, r_Ta_read_40, r_Ta_read_43, r_Ta_read_44, r_Ta_read_47, r_Ta_read_48, r_Ta_read_51, r_Ta_read_52, r_Ta_read_52_k, r_Ta_read_53, r_Ta_read_54, r_Ta_read_55, r_Ta_read_58, r_Ta_read_59, r_Ta_read_62, r_Ta_read_63, r_Ta_read_66, r_Ta_read_69, r_Ta_read_70, r_Ta_read_71, r_Ta_read_72, r_Ta_read_75, r_Ta_read_78, r_Ta_read_79, ly_g7_2, ly_p7_2, ly_k7, ly_g7_4, ly_g7_6, ly_p7_6, ly_g7_3, ly_g7_1, ly_p7_1, i3n_0, i3n_1, i3n_6, i3n_7, l6n_0, l6n_1, am_kf_s, am_km_s, am_kn_s, am_k_v, am_k_0, am_isr_r, am_isr_n, am_isr_v, am_sw_0, am_sw_i, am_sw_l, am_sw_r, am_sw_n, am_sw_v, am_ct_i, am_ct_r, am_ct_n, am_c1_o, am_c1_n, am_c1_i, am_c1_r, am_c1_v, am_mk_1, lc_lt, lc_gt, lc_eq, lc_le, lc_ge, i01_eq, i01_ok, ite_not, true_or, or_true, true_and, and_true, false_or, or_false, false_and, and_false, if_true, if_false, not_true_eq_false, not_false_eq_true, eq_self, Nat.reduceAdd, Nat.reduceLeDiff, Nat.reduceLT, Nat.reduceEqDiff, Nat.reduceMul, Nat.reduceSub, Nat.reduceDiv, Nat.reduceMod, reduceCtorEq, Nat.zero_le, i3_le, i3_lt, i3_eq, i3_eqN, i3_leN, i3_Nle, i3_ltN, i3_NleN, i3_NeqN, i3_Neq, i3_NltN, i3_Nlt, l6_le, l6_lt, l6_eq, l6_leN, l6_Nle, l6_ltN, l6_Nlt, l6_eqN, l6_Neq, ux_eq, hC0, e1, e2, e3, h3p, h34, hC4, hadd, e6]
        · intro u hu
          unfold tp_T79 at hu
          unfold tx_T
          omega
        · have hfz : (ly_fz x Z3 C4 L3 R3 D3 (t + 7000)).1 = D3.1 + 1 := rfl
          omega
        · rw [(F6.1 7 (by omega)).1, uk_eq, if_neg (by omega)]; exact C41
        · rw [(F45.1 (t + 8000) (by unfold tp_T79; omega)).2.2.1]; exact n2'
        · rw [(F45.1 (t + 9000) (by unfold tp_T79; omega)).2.2.1]; exact n3
        · intro j hj
          rw [(F45.1 (t + 8000) (by unfold tp_T79; omega)).1]; exact c2' j hj
        · intro j hj
          rw [(F45.1 (t + 9000) (by unfold tp_T79; omega)).1]; exact c3 j hj
      · rw [if_neg hend]
        have h3n : ¬ C3 7 3 = -Int32.ofNat 1 := by rw [h33, ct_m1]; exact hend
        refine ⟨Z3, C4, L3, R3, D3, .null, ?_, ly_fr_sub (ly_fr_tr F1 (ly_fr_tr F2 (ly_fr_tr F3 F4))) ?_, hZ3, by omega, C41, rfl, C46⟩
        · simp only [e_Ta_read, r_Ta_read_0, r_Ta_read_1, r_Ta_read_2, r_Ta_read_5, r_Ta_read_6, r_Ta_read_9, r_Ta_read_10, r_Ta_read_12, r_Ta_read_15, r_Ta_read_15_k, r_Ta_read_16, r_Ta_read_17, r_Ta_read_20, r_Ta_read_21, r_Ta_read_24, r_Ta_read_25, r_Ta_read_27, r_Ta_read_30, r_Ta_read_30_k, r_Ta_read_31, r_Ta_read_32, r_Ta_read_33, r_Ta_read_36, r_Ta_read_39, r_Ta_read_40, r_Ta_read_43, r_Ta_read_44, r_Ta_read_47, r_Ta_read_48, r_Ta_read_51, r_Ta_read_52, r_Ta_read_52_k, r_Ta_read_53, r_Ta_read_54, r_Ta_read_55, r_Ta_read_58, r_Ta_read_59, r_Ta_read_62, r_Ta_read_63, r_Ta_read_66, r_Ta_read_69, r_Ta_read_70, r_Ta_read_71, r_Ta_read_72, r_Ta_read_75, r_Ta_read_78, r_Ta_read_79, ly_g7_2, ly_p7_2, ly_k7, ly_g7_4, ly_g7_6, ly_p7_6, ly_g7_3, ly_g7_1, ly_p7_1, i3n_0, i3n_1, i3n_6, i3n_7, l6n_0, l6n_1, am_kf_s, am_km_s, am_kn_s, am_k_v, am_k_0, am_isr_r, am_isr_n, am_isr_v, am_sw_0, am_sw_i, am_sw_l, am_sw_r, am_sw_n, am_sw_v, am_ct_i, am_ct_r, am_ct_n, am_c1_o, am_c1_n, am_c1_i, am_c1_r, am_c1_v, am_mk_1, lc_lt, lc_gt, lc_eq, lc_le, lc_ge, i01_eq, i01_ok, ite_not, true_or, or_true, true_and, and_true, false_or, or_false, false_and, and_false, if_true, if_false, not_true_eq_false, not_false_eq_true, eq_self, Nat.reduceAdd, Nat.reduceLeDiff, Nat.reduceLT, Nat.reduceEqDiff, Nat.reduceMul, Nat.reduceSub, Nat.reduceDiv, Nat.reduceMod, reduceCtorEq, Nat.zero_le, i3_le, i3_lt, i3_eq, i3_eqN, i3_leN, i3_Nle, i3_ltN, i3_NleN, i3_NeqN, i3_Neq, i3_NltN, i3_Nlt, l6_le, l6_lt, l6_eq, l6_leN, l6_Nle, l6_ltN, l6_Nlt, l6_eqN, l6_Neq, ux_eq, hC0, e1, e2, e3, h3n, h34, hC4]
        · intro u hu
          unfold tp_T79 at hu
          unfold tx_T
          omega
end
