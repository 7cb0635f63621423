/-! the class's readers keep to the function -/
def tp_cb (cb : List Int32) (C : Nat → Nat → Int32) : Prop := C 7 8 = Int32.ofNat cb.length ∧ ∀ j, j < cb.length → C 9 j = cb.getD j 0
def tp_fw (C C' : Nat → Nat → Int32) : Prop := ∀ k j, ¬ (k = 9 ∨ (k = 7 ∧ j = 8)) → C' k j = C k j
def tp_f2 (C C' : Nat → Nat → Int32) : Prop := ∀ k j, ¬ (k = 7 ∨ k = 9) → C' k j = C k j
theorem tp_f2_fr {C C' : Nat → Nat → Int32} (h : tp_fr C C') : tp_f2 C C' := fun k j hk => h k j (fun e => hk (Or.inl e.1))
theorem tp_f2_fw {C C' : Nat → Nat → Int32} (h : tp_fw C C') : tp_f2 C C' := fun k j hk => h k j (fun e => hk (e.elim Or.inr (fun q => Or.inl q.1)))
theorem tp_f2_tr {C C' C'' : Nat → Nat → Int32} (h : tp_f2 C C') (h' : tp_f2 C' C'') : tp_f2 C C'' := fun k j hk => (h' k j hk).trans (h k j hk)
theorem tp_f2_rf {C : Nat → Nat → Int32} : tp_f2 C C := fun _ _ _ => rfl
theorem tp_B_fw {b : Nat → Nat} {n : Nat} {C C' : Nat → Nat → Int32} (h : tp_B b n C) (hf : tp_fw C C') : tp_B b n C' := by
  obtain ⟨h1, h2, h3, h4⟩ := h
  exact ⟨(hf 7 1 (by omega)).trans h1, h2, h3, fun j hj => (hf 8 j (by omega)).trans (h4 j hj)⟩
theorem tp_at_fw {b : Nat → Nat} {n s : Nat} {C C' : Nat → Nat → Int32} (h : tp_at b n s C) (hf : tp_fw C C') : tp_at b n s C' := by
  obtain ⟨h0, h1, h2, h3, h4, h5⟩ := h
  exact ⟨tp_B_fw h0 hf, h1, (hf 7 2 (by omega)).trans h2, (hf 7 3 (by omega)).trans h3, (hf 7 4 (by omega)).trans h4, fun e => (hf 7 5 (by omega)).trans (h5 e)⟩
theorem tp_cb_fr {cb : List Int32} {C C' : Nat → Nat → Int32} (h : tp_cb cb C) (hf : tp_fr C C') : tp_cb cb C' :=
  ⟨(hf 7 8 (by omega)).trans h.1, fun j hj => (hf 9 j (by omega)).trans (h.2 j hj)⟩
def tp_res (x : Nat) (bb : Bool) (Z : ly_Z) (L : Nat → Nat → Int64) (R : Nat → Nat → Option Nat) (D : am_M) (b : Nat → Nat) (n : Nat) (run : Option am_R) (cb : List Int32) (r : pa_R) (C : Nat → Nat → Int32) : Prop := match r with
  | .inl (c, t) => ∃ C', run = some (some (.int (Int32.ofNat 1)), am_mk x bb Z C' L R D) ∧ tp_at b n t C' ∧ tp_cb (cb ++ c) C' ∧ tp_f2 C C'
  | .inr e => ∃ C', run = some (some (.int (Int32.ofNat 0)), am_mk x bb Z C' L R D) ∧ tp_B b n C' ∧ C' 7 4 = Int32.ofNat e ∧ tp_f2 C C'
theorem tp_res_tr {x : Nat} {bb : Bool} {Z : ly_Z} {L : Nat → Nat → Int64} {R : Nat → Nat → Option Nat} {D : am_M} {b : Nat → Nat} {n : Nat} {run : Option am_R} {cb : List Int32} {r : pa_R} {C C' : Nat → Nat → Int32} (hf : tp_f2 C C') (h : tp_res x bb Z L R D b n run cb r C') : tp_res x bb Z L R D b n run cb r C := by
  cases r with
  | inl q =>
    obtain ⟨c, t⟩ := q
    obtain ⟨C1, h1, h2, h3, h4⟩ := h
    exact ⟨C1, h1, h2, h3, tp_f2_tr hf h4⟩
  | inr e =>
    obtain ⟨C1, h1, h2, h3, h4⟩ := h
    exact ⟨C1, h1, h2, h3, tp_f2_tr hf h4⟩
def tp_rd (G : Nat → Value) (x : Nat) (bb : Bool) (Z : ly_Z) (L : Nat → Nat → Int64) (R : Nat → Nat → Option Nat) (D : am_M) (b : Nat → Nat) (n K lo o : Nat) (P : Nat → pa_R) : Prop := ∀ d, lo ≤ d → ∀ (C : Nat → Nat → Int32) (cb : List Int32) (s : Nat), tp_at b n s C → tp_cb cb C → cb.length ≤ s → tp_res x bb Z L R D b n (am_ex G d K [.ref (x + 7), .int (Int32.ofNat o)] (am_mk x bb Z C L R D)) cb (P s) C
section
variable {G : Nat → Value} {x : Nat} {bb : Bool} {Z : ly_Z} {L : Nat → Nat → Int64} {R : Nat → Nat → Option Nat} {D : am_M} {b : Nat → Nat} {n : Nat}
theorem x_Ta_write {d : Nat} {C : Nat → Nat → Int32} {cb : List Int32} {v : Int32} (hc : tp_cb cb C) (hl : cb.length < 160) : ∃ C', am_ex G (d + 1) K_Ta_write [.ref (x + 7), .int v] (am_mk x bb Z C L R D) = some (none, am_mk x bb Z C' L R D) ∧ tp_cb (cb ++ [v]) C' ∧ tp_fw C C' := by
  obtain ⟨h1, h2⟩ := hc
  have a1 : cb.length < 2147483648 := by omega
  refine ⟨ux (ux C 9 cb.length v) 7 8 (Int32.ofNat (cb.length + 1)), ?_, ⟨?_, ?_⟩, ?_⟩
  · simp only [e_Ta_write, r_Ta_write_0, r_Ta_write_1, r_Ta_write_4, r_Ta_write_5, r_Ta_write_8, r_Ta_write_9, r_Ta_write_12, r_Ta_write_13, r_Ta_write_14, r_Ta_write_17, r_Ta_write_18, r_Ta_write_21, r_Ta_write_22, r_Ta_write_23, r_Ta_write_24, r_Ta_write_25, r_Ta_write_28, r_Ta_write_29, r_Ta_write_30, r_Ta_write_33, ly_g7_8, ly_g7_7, ly_n9, ly_r9, ly_w9, ly_p7_8, i3n_0, i3n_1, l6n_0, l6n_1, am_kf_s, am_km_s, am_kn_s, am_k_v, am_k_0, am_isr_r, am_isr_n, am_isr_v, am_sw_0, am_sw_i, am_sw_l, am_sw_r, am_sw_n, am_sw_v, am_ct_i, am_ct_r, am_ct_n, am_c1_o, am_c1_n, am_c1_i, am_c1_r, am_c1_v, am_mk_1, lc_lt, lc_gt, lc_eq, lc_le, lc_ge, i01_eq, i01_ok, ite_not, true_or, or_true, true_and, and_true, false_or, or_false, false_and, and_false, if_true, if_false, not_true_eq_false, not_false_eq_true, eq_self, Nat.reduceAdd, Nat.reduceLeDiff, Nat.reduceLT, Nat.reduceEqDiff, Nat.reduceMul, Nat.reduceSub, Nat.reduceDiv, Nat.reduceMod, reduceCtorEq, Nat.zero_le, i3_le, i3_lt, i3_eq, i3_eqN, i3_leN, i3_Nle, i3_ltN, i3_NleN, i3_NeqN, i3_Neq, i3_NltN, i3_Nlt, l6_le, l6_lt, l6_eq, l6_leN, l6_Nle, l6_ltN, l6_Nlt, l6_eqN, l6_Neq, ux_eq, h1, a1, hl, i3_add]
  · rw [List.length_append]; simp only [ux_eq, if_true, and_self]; rfl
  · intro j hj
    rw [List.length_append, List.length_cons, List.length_nil] at hj
    rw [ux_eq, if_neg (by omega), ux_eq]
    by_cases hjl : j = cb.length
    · subst hjl
      rw [if_pos ⟨rfl, rfl⟩, List.getD_eq_getElem?_getD, List.getElem?_append_right (Nat.le_refl _), Nat.sub_self]
      rfl
    · rw [if_neg (fun e => hjl e.2), h2 j (by omega), List.getD_eq_getElem?_getD, List.getD_eq_getElem?_getD, List.getElem?_append_left (by omega)]
  · intro k j hk
    rw [ux_eq, if_neg (by omega), ux_eq, if_neg (by omega)]
theorem x_Ta_next {d : Nat} {C : Nat → Nat → Int32} {cb : List Int32} {s : Nat} (hS : tp_S G x Z D) (h : tp_at b n s C) (hc : tp_cb cb C) : ∃ C', am_ex G (d + 8) K_Ta_step [.ref (x + 7)] (am_mk x bb Z C L R D) = some (none, am_mk x bb Z C' L R D) ∧ tp_at b n (pa_nx b n s) C' ∧ tp_cb cb C' ∧ tp_f2 C C' := by
  obtain ⟨C', e1, e2, e3⟩ := x_Ta_step (d := d) (L := L) (R := R) (bb := bb) hS h.1 h.2.2.1 (pa_te_le h.2.1).2.1
  exact ⟨C', e1, e2, tp_cb_fr hc e3, tp_f2_fr e3⟩
theorem l_Ta_readTerm (hS : tp_S G x Z D) {sub : Nat → pa_R} (hg : pa_good n sub) {lo o d : Nat} (hsub : tp_rd G x bb Z L R D b n K_Ta_readOne lo o sub) (hd : lo ≤ d + 8) : ∀ f i : Nat, i + f = 160 → ∀ (C : Nat → Nat → Int32) (cb c : List Int32) (t : Nat), tp_at b n t C → tp_cb (cb ++ c) C → (cb ++ c).length ≤ t → tp_res x bb Z L R D b n (am_run G (d + 8) K_Ta_readTerm (12, [some (.ref (x + 7)), some (.int (Int32.ofNat o)), some (.int (Int32.ofNat i))], [], am_mk x bb Z C L R D)) cb (pa_loop b n (pa_is 42) (fun _ => -Int32.ofNat 12) sub f c t) C := by
  intro f
  induction f with
  | zero =>
    intro i hi C cb c t hat hcb hl
    have : i = 160 := by omega
    subst this
    have h3 := hat.2.2.2.1
    rw [pa_loop]
    refine ⟨C, ?_, hat, hcb, tp_f2_rf⟩
    rw [r_Ta_readTerm_12 am_isr_r]
    by_cases hq : pa_tk b n t = 42
    · have h3p : C 7 3 = Int32.ofNat 42 := by rw [h3, ct_42]; exact hq
      simp only [r_Ta_readTerm_13, r_Ta_readTerm_16, r_Ta_readTerm_18, r_Ta_readTerm_21, r_Ta_readTerm_22, r_Ta_readTerm_25, r_Ta_readTerm_28, r_Ta_readTerm_29, r_Ta_readTerm_32, r_Ta_readTerm_33, r_Ta_readTerm_34, r_Ta_readTerm_37, r_Ta_readTerm_40, r_Ta_readTerm_41, r_Ta_readTerm_42, r_Ta_readTerm_43, r_Ta_readTerm_45, r_Ta_readTerm_48, r_Ta_readTerm_48_k, r_Ta_readTerm_51, r_Ta_readTerm_54, r_Ta_readTerm_55, ly_k7, ly_g7_3, i3n_0, i3n_1, i3n_12, i3n_42, i3n_160, l6n_0, l6n_1, am_kf_s, am_km_s, am_kn_s, am_k_v, am_k_0, am_isr_r, am_isr_n, am_isr_v, am_sw_0, am_sw_i, am_sw_l, am_sw_r, am_sw_n, am_sw_v, am_ct_i, am_ct_r, am_ct_n, am_c1_o, am_c1_n, am_c1_i, am_c1_r, am_c1_v, am_mk_1, lc_lt, lc_gt, lc_eq, lc_le, lc_ge, i01_eq, i01_ok, ite_not, true_or, or_true, true_and, and_true, false_or, or_false, false_and, and_false, if_true, if_false, not_true_eq_false, not_false_eq_true, eq_self, Nat.reduceAdd, Nat.reduceLeDiff, Nat.reduceLT, Nat.reduceEqDiff, Nat.reduceMul, Nat.reduceSub, Nat.reduceDiv, Nat.reduceMod, reduceCtorEq, Nat.zero_le, i3_le, i3_lt, i3_eq, i3_eqN, i3_leN, i3_Nle, i3_ltN, i3_NleN, i3_NeqN, i3_Neq, i3_NltN, i3_Nlt, l6_le, l6_lt, l6_eq, l6_leN, l6_Nle, l6_ltN, l6_Nlt, l6_eqN, l6_Neq, h3p]
    · simp only [r_Ta_readTerm_13, r_Ta_readTerm_16, r_Ta_readTerm_18, r_Ta_readTerm_21, r_Ta_readTerm_22, r_Ta_readTerm_25, r_Ta_readTerm_28, r_Ta_readTerm_29, r_Ta_readTerm_32, r_Ta_readTerm_33, r_Ta_readTerm_34, r_Ta_readTerm_37, r_Ta_readTerm_40, r_Ta_readTerm_41, r_Ta_readTerm_42, r_Ta_readTerm_43, r_Ta_readTerm_45, r_Ta_readTerm_48, r_Ta_readTerm_48_k, r_Ta_readTerm_51, r_Ta_readTerm_54, r_Ta_readTerm_55, ly_k7, ly_g7_3, i3n_0, i3n_1, i3n_12, i3n_42, i3n_160, l6n_0, l6n_1, am_kf_s, am_km_s, am_kn_s, am_k_v, am_k_0, am_isr_r, am_isr_n, am_isr_v, am_sw_0, am_sw_i, am_sw_l, am_sw_r, am_sw_n, am_sw_v, am_ct_i, am_ct_r, am_ct_n, am_c1_o, am_c1_n, am_c1_i, am_c1_r, am_c1_v, am_mk_1, lc_lt, lc_gt, lc_eq, lc_le, lc_ge, i01_eq, i01_ok, ite_not, true_or, or_true, true_and, and_true, false_or, or_false, false_and, and_false, if_true, if_false, not_true_eq_false, not_false_eq_true, eq_self, Nat.reduceAdd, Nat.reduceLeDiff, Nat.reduceLT, Nat.reduceEqDiff, Nat.reduceMul, Nat.reduceSub, Nat.reduceDiv, Nat.reduceMod, reduceCtorEq, Nat.zero_le, i3_le, i3_lt, i3_eq, i3_eqN, i3_leN, i3_Nle, i3_ltN, i3_NleN, i3_NeqN, i3_Neq, i3_NltN, i3_Nlt, l6_le, l6_lt, l6_eq, l6_leN, l6_Nle, l6_ltN, l6_Nlt, l6_eqN, l6_Neq, h3, ct_42, hq]
  | succ f ih =>
    intro i hi C cb c t hat hcb hl
    have a1 : i < 2147483648 := by omega
    have a2 : ¬ 160 ≤ i := by omega
    have h3 := hat.2.2.2.1
    have hn := hat.1.2.1
    rw [pa_loop, r_Ta_readTerm_12 am_isr_r]
    by_cases hq : pa_tk b n t = 42
    · have ht : (pa_is 42) (pa_tk b n t) = true := decide_eq_true hq
      have h3p : C 7 3 = Int32.ofNat 42 := by rw [h3, ct_42]; exact hq
      rw [if_pos ht]
      have htn := pa_tk_end (b := b) (n := n) (s := t) (by rw [hq]; decide)
      obtain ⟨k1, k2, k3⟩ := pa_nx_le (b := b) hat.2.1
      have k3 := k3 htn
      obtain ⟨C1, e1, at1, cb1, f1⟩ := x_Ta_next (d := d) (bb := bb) (L := L) (R := R) hS hat hcb
      have hs := hsub (d + 8) hd C1 (cb ++ c) (pa_nx b n t) at1 cb1 (by omega)
      have hgs := hg (pa_nx b n t) k2
      cases hc : sub (pa_nx b n t) with
      | inr e =>
        rw [hc] at hs
        obtain ⟨C2, e2, B2, t2, f2⟩ := hs
        refine ⟨C2, ?_, B2, t2, tp_f2_tr f1 f2⟩
        simp only [r_Ta_readTerm_13, r_Ta_readTerm_16, r_Ta_readTerm_18, r_Ta_readTerm_21, r_Ta_readTerm_22, r_Ta_readTerm_25, r_Ta_readTerm_28, r_Ta_readTerm_29, r_Ta_readTerm_32, r_Ta_readTerm_33, r_Ta_readTerm_34, r_Ta_readTerm_37, r_Ta_readTerm_40, r_Ta_readTerm_41, r_Ta_readTerm_42, r_Ta_readTerm_43, r_Ta_readTerm_45, r_Ta_readTerm_48, r_Ta_readTerm_48_k, r_Ta_readTerm_51, r_Ta_readTerm_54, r_Ta_readTerm_55, ly_k7, ly_g7_3, i3n_0, i3n_1, i3n_12, i3n_42, i3n_160, l6n_0, l6n_1, am_kf_s, am_km_s, am_kn_s, am_k_v, am_k_0, am_isr_r, am_isr_n, am_isr_v, am_sw_0, am_sw_i, am_sw_l, am_sw_r, am_sw_n, am_sw_v, am_ct_i, am_ct_r, am_ct_n, am_c1_o, am_c1_n, am_c1_i, am_c1_r, am_c1_v, am_mk_1, lc_lt, lc_gt, lc_eq, lc_le, lc_ge, i01_eq, i01_ok, ite_not, true_or, or_true, true_and, and_true, false_or, or_false, false_and, and_false, if_true, if_false, not_true_eq_false, not_false_eq_true, eq_self, Nat.reduceAdd, Nat.reduceLeDiff, Nat.reduceLT, Nat.reduceEqDiff, Nat.reduceMul, Nat.reduceSub, Nat.reduceDiv, Nat.reduceMod, reduceCtorEq, Nat.zero_le, i3_le, i3_lt, i3_eq, i3_eqN, i3_leN, i3_Nle, i3_ltN, i3_NleN, i3_NeqN, i3_Neq, i3_NltN, i3_Nlt, l6_le, l6_lt, l6_eq, l6_leN, l6_Nle, l6_ltN, l6_Nlt, l6_eqN, l6_Neq, h3p, a1, a2, e1, e2]
      | inl q =>
        obtain ⟨c', t'⟩ := q
        rw [hc] at hs hgs
        obtain ⟨C2, e2, at2, cb2, f2⟩ := hs
        obtain ⟨g1, g2, g3⟩ := hgs
        have hlen : ((cb ++ c) ++ c').length < 160 := by
          rw [List.length_append]; omega
        obtain ⟨C3, e3, cb3, f3⟩ := x_Ta_write (G := G) (x := x) (bb := bb) (Z := Z) (L := L) (R := R) (D := D) (d := d + 7) (v := (-Int32.ofNat 12)) cb2 hlen
        have hi3 := ih (i + 1) (by omega) C3 cb (c ++ c' ++ [(-Int32.ofNat 12)]) t' (tp_at_fw at2 f3) (by rw [← List.append_assoc, ← List.append_assoc]; exact cb3) (by rw [← List.append_assoc, ← List.append_assoc, List.length_append, List.length_append, List.length_cons, List.length_nil]; omega)
        have key : am_run G (d + 8) K_Ta_readTerm (13, [some (.ref (x + 7)), some (.int (Int32.ofNat o)), some (.int (Int32.ofNat i))], [.ref (x + 7)], am_mk x bb Z C L R D) = am_run G (d + 8) K_Ta_readTerm (12, [some (.ref (x + 7)), some (.int (Int32.ofNat o)), some (.int (Int32.ofNat (i + 1)))], [], am_mk x bb Z C3 L R D) := by
          simp only [r_Ta_readTerm_13, r_Ta_readTerm_16, r_Ta_readTerm_18, r_Ta_readTerm_21, r_Ta_readTerm_22, r_Ta_readTerm_25, r_Ta_readTerm_28, r_Ta_readTerm_29, r_Ta_readTerm_32, r_Ta_readTerm_33, r_Ta_readTerm_34, r_Ta_readTerm_37, r_Ta_readTerm_40, r_Ta_readTerm_41, r_Ta_readTerm_42, r_Ta_readTerm_43, r_Ta_readTerm_45, r_Ta_readTerm_48, r_Ta_readTerm_48_k, r_Ta_readTerm_51, r_Ta_readTerm_54, r_Ta_readTerm_55, ly_k7, ly_g7_3, i3n_0, i3n_1, i3n_12, i3n_42, i3n_160, l6n_0, l6n_1, am_kf_s, am_km_s, am_kn_s, am_k_v, am_k_0, am_isr_r, am_isr_n, am_isr_v, am_sw_0, am_sw_i, am_sw_l, am_sw_r, am_sw_n, am_sw_v, am_ct_i, am_ct_r, am_ct_n, am_c1_o, am_c1_n, am_c1_i, am_c1_r, am_c1_v, am_mk_1, lc_lt, lc_gt, lc_eq, lc_le, lc_ge, i01_eq, i01_ok, ite_not, true_or, or_true, true_and, and_true, false_or, or_false, false_and, and_false, if_true, if_false, not_true_eq_false, not_false_eq_true, eq_self, Nat.reduceAdd, Nat.reduceLeDiff, Nat.reduceLT, Nat.reduceEqDiff, Nat.reduceMul, Nat.reduceSub, Nat.reduceDiv, Nat.reduceMod, reduceCtorEq, Nat.zero_le, i3_le, i3_lt, i3_eq, i3_eqN, i3_leN, i3_Nle, i3_ltN, i3_NleN, i3_NeqN, i3_Neq, i3_NltN, i3_Nlt, l6_le, l6_lt, l6_eq, l6_leN, l6_Nle, l6_ltN, l6_Nlt, l6_eqN, l6_Neq, h3p, a1, a2, e1, e2, e3, i3_add]
        rw [key]
        exact tp_res_tr (tp_f2_tr f1 (tp_f2_tr f2 (tp_f2_fw f3))) hi3
    · have ht : ¬ (pa_is 42) (pa_tk b n t) = true := fun e => hq (of_decide_eq_true e)
      rw [if_neg ht]
      refine ⟨C, ?_, hat, hcb, tp_f2_rf⟩
      simp only [r_Ta_readTerm_13, r_Ta_readTerm_16, r_Ta_readTerm_18, r_Ta_readTerm_21, r_Ta_readTerm_22, r_Ta_readTerm_25, r_Ta_readTerm_28, r_Ta_readTerm_29, r_Ta_readTerm_32, r_Ta_readTerm_33, r_Ta_readTerm_34, r_Ta_readTerm_37, r_Ta_readTerm_40, r_Ta_readTerm_41, r_Ta_readTerm_42, r_Ta_readTerm_43, r_Ta_readTerm_45, r_Ta_readTerm_48, r_Ta_readTerm_48_k, r_Ta_readTerm_51, r_Ta_readTerm_54, r_Ta_readTerm_55, ly_k7, ly_g7_3, i3n_0, i3n_1, i3n_12, i3n_42, i3n_160, l6n_0, l6n_1, am_kf_s, am_km_s, am_kn_s, am_k_v, am_k_0, am_isr_r, am_isr_n, am_isr_v, am_sw_0, am_sw_i, am_sw_l, am_sw_r, am_sw_n, am_sw_v, am_ct_i, am_ct_r, am_ct_n, am_c1_o, am_c1_n, am_c1_i, am_c1_r, am_c1_v, am_mk_1, lc_lt, lc_gt, lc_eq, lc_le, lc_ge, i01_eq, i01_ok, ite_not, true_or, or_true, true_and, and_true, false_or, or_false, false_and, and_false, if_true, if_false, not_true_eq_false, not_false_eq_true, eq_self, Nat.reduceAdd, Nat.reduceLeDiff, Nat.reduceLT, Nat.reduceEqDiff, Nat.reduceMul, Nat.reduceSub, Nat.reduceDiv, Nat.reduceMod, reduceCtorEq, Nat.zero_le, i3_le, i3_lt, i3_eq, i3_eqN, i3_leN, i3_Nle, i3_ltN, i3_NleN, i3_NeqN, i3_Neq, i3_NltN, i3_Nlt, l6_le, l6_lt, l6_eq, l6_leN, l6_Nle, l6_ltN, l6_Nlt, l6_eqN, l6_Neq, h3, ct_42, hq]
theorem x_Ta_readTerm (hS : tp_S G x Z D) {sub : Nat → pa_R} (hg : pa_good n sub) {lo o : Nat} (hlo : 8 ≤ lo) (hsub : tp_rd G x bb Z L R D b n K_Ta_readOne lo o sub) : tp_rd G x bb Z L R D b n K_Ta_readTerm (lo + 1) o (pa_seq b n (pa_is 42) (fun _ => -Int32.ofNat 12) sub) := by
  intro d hd C cb s hat hcb hl
  obtain ⟨d, rfl⟩ : ∃ d', d = d' + 9 := ⟨d - 9, by omega⟩
  have hs := hsub (d + 8) (by omega) C cb s hat hcb hl
  have hgs := hg s hat.2.1
  unfold pa_seq
  cases hc : sub s with
  | inr e =>
    rw [hc] at hs
    obtain ⟨C2, e2, B2, t2, f2⟩ := hs
    refine ⟨C2, ?_, B2, t2, f2⟩
    simp only [e_Ta_readTerm, r_Ta_readTerm_0, r_Ta_readTerm_1, r_Ta_readTerm_2, r_Ta_readTerm_5, r_Ta_readTerm_8, r_Ta_readTerm_9, r_Ta_readTerm_10, r_Ta_readTerm_11, r_Ta_readTerm_11_k, r_Ta_readTerm_13, r_Ta_readTerm_16, r_Ta_readTerm_18, r_Ta_readTerm_21, r_Ta_readTerm_22, r_Ta_readTerm_25, r_Ta_readTerm_28, r_Ta_readTerm_29, r_Ta_readTerm_32, r_Ta_readTerm_33, r_Ta_readTerm_34, r_Ta_readTerm_37, r_Ta_readTerm_40, r_Ta_readTerm_41, r_Ta_readTerm_42, r_Ta_readTerm_43, r_Ta_readTerm_45, r_Ta_readTerm_48, r_Ta_readTerm_48_k, r_Ta_readTerm_51, r_Ta_readTerm_54, r_Ta_readTerm_55, ly_k7, ly_g7_3, i3n_0, i3n_1, i3n_12, i3n_42, i3n_160, l6n_0, l6n_1, am_kf_s, am_km_s, am_kn_s, am_k_v, am_k_0, am_isr_r, am_isr_n, am_isr_v, am_sw_0, am_sw_i, am_sw_l, am_sw_r, am_sw_n, am_sw_v, am_ct_i, am_ct_r, am_ct_n, am_c1_o, am_c1_n, am_c1_i, am_c1_r, am_c1_v, am_mk_1, lc_lt, lc_gt, lc_eq, lc_le, lc_ge, i01_eq, i01_ok, ite_not, true_or, or_true, true_and, and_true, false_or, or_false, false_and, and_false, if_true, if_false, not_true_eq_false, not_false_eq_true, eq_self, Nat.reduceAdd, Nat.reduceLeDiff, Nat.reduceLT, Nat.reduceEqDiff, Nat.reduceMul, Nat.reduceSub, Nat.reduceDiv, Nat.reduceMod, reduceCtorEq, Nat.zero_le, i3_le, i3_lt, i3_eq, i3_eqN, i3_leN, i3_Nle, i3_ltN, i3_NleN, i3_NeqN, i3_Neq, i3_NltN, i3_Nlt, l6_le, l6_lt, l6_eq, l6_leN, l6_Nle, l6_ltN, l6_Nlt, l6_eqN, l6_Neq, e2]
  | inl q =>
    obtain ⟨c', t'⟩ := q
    rw [hc] at hs hgs
    obtain ⟨C2, e2, at2, cb2, f2⟩ := hs
    obtain ⟨g1, g2, g3⟩ := hgs
    have hi3 := l_Ta_readTerm (d := d) hS hg hsub (by omega) 160 0 rfl C2 cb c' t' at2 cb2 (by rw [List.length_append]; omega)
    have key : am_ex G (d + 9) K_Ta_readTerm [.ref (x + 7), .int (Int32.ofNat o)] (am_mk x bb Z C L R D) = am_run G (d + 8) K_Ta_readTerm (12, [some (.ref (x + 7)), some (.int (Int32.ofNat o)), some (.int (Int32.ofNat 0))], [], am_mk x bb Z C2 L R D) := by
      simp only [e_Ta_readTerm, r_Ta_readTerm_0, r_Ta_readTerm_1, r_Ta_readTerm_2, r_Ta_readTerm_5, r_Ta_readTerm_8, r_Ta_readTerm_9, r_Ta_readTerm_10, r_Ta_readTerm_11, r_Ta_readTerm_11_k, r_Ta_readTerm_13, r_Ta_readTerm_16, r_Ta_readTerm_18, r_Ta_readTerm_21, r_Ta_readTerm_22, r_Ta_readTerm_25, r_Ta_readTerm_28, r_Ta_readTerm_29, r_Ta_readTerm_32, r_Ta_readTerm_33, r_Ta_readTerm_34, r_Ta_readTerm_37, r_Ta_readTerm_40, r_Ta_readTerm_41, r_Ta_readTerm_42, r_Ta_readTerm_43, r_Ta_readTerm_45, r_Ta_readTerm_48, r_Ta_readTerm_48_k, r_Ta_readTerm_51, r_Ta_readTerm_54, r_Ta_readTerm_55, ly_k7, ly_g7_3, i3n_0, i3n_1, i3n_12, i3n_42, i3n_160, l6n_0, l6n_1, am_kf_s, am_km_s, am_kn_s, am_k_v, am_k_0, am_isr_r, am_isr_n, am_isr_v, am_sw_0, am_sw_i, am_sw_l, am_sw_r, am_sw_n, am_sw_v, am_ct_i, am_ct_r, am_ct_n, am_c1_o, am_c1_n, am_c1_i, am_c1_r, am_c1_v, am_mk_1, lc_lt, lc_gt, lc_eq, lc_le, lc_ge, i01_eq, i01_ok, ite_not, true_or, or_true, true_and, and_true, false_or, or_false, false_and, and_false, if_true, if_false, not_true_eq_false, not_false_eq_true, eq_self, Nat.reduceAdd, Nat.reduceLeDiff, Nat.reduceLT, Nat.reduceEqDiff, Nat.reduceMul, Nat.reduceSub, Nat.reduceDiv, Nat.reduceMod, reduceCtorEq, Nat.zero_le, i3_le, i3_lt, i3_eq, i3_eqN, i3_leN, i3_Nle, i3_ltN, i3_NleN, i3_NeqN, i3_Neq, i3_NltN, i3_Nlt, l6_le, l6_lt, l6_eq, l6_leN, l6_Nle, l6_ltN, l6_Nlt, l6_eqN, l6_Neq, e2]
    rw [key]
    exact tp_res_tr f2 hi3
theorem l_Ta_readAnd (hS : tp_S G x Z D) {sub : Nat → pa_R} (hg : pa_good n sub) {lo o d : Nat} (hsub : tp_rd G x bb Z L R D b n K_Ta_readNot lo o sub) (hd : lo ≤ d + 8) : ∀ f i : Nat, i + f = 160 → ∀ (C : Nat → Nat → Int32) (cb c : List Int32) (t : Nat), tp_at b n t C → tp_cb (cb ++ c) C → (cb ++ c).length ≤ t → tp_res x bb Z L R D b n (am_run G (d + 8) K_Ta_readAnd (12, [some (.ref (x + 7)), some (.int (Int32.ofNat o)), some (.int (Int32.ofNat i))], [], am_mk x bb Z C L R D)) cb (pa_loop b n (pa_is 309) (fun _ => -Int32.ofNat 15) sub f c t) C := by
  intro f
  induction f with
  | zero =>
    intro i hi C cb c t hat hcb hl
    have : i = 160 := by omega
    subst this
    have h3 := hat.2.2.2.1
    rw [pa_loop]
    refine ⟨C, ?_, hat, hcb, tp_f2_rf⟩
    rw [r_Ta_readAnd_12 am_isr_r]
    by_cases hq : pa_tk b n t = 309
    · have h3p : C 7 3 = Int32.ofNat 9 := by rw [h3, ct_9]; exact hq
      simp only [r_Ta_readAnd_13, r_Ta_readAnd_16, r_Ta_readAnd_18, r_Ta_readAnd_21, r_Ta_readAnd_22, r_Ta_readAnd_25, r_Ta_readAnd_28, r_Ta_readAnd_29, r_Ta_readAnd_32, r_Ta_readAnd_33, r_Ta_readAnd_34, r_Ta_readAnd_37, r_Ta_readAnd_40, r_Ta_readAnd_41, r_Ta_readAnd_42, r_Ta_readAnd_43, r_Ta_readAnd_45, r_Ta_readAnd_48, r_Ta_readAnd_48_k, r_Ta_readAnd_51, r_Ta_readAnd_54, r_Ta_readAnd_55, ly_k7, ly_g7_3, i3n_0, i3n_1, i3n_9, i3n_15, i3n_160, l6n_0, l6n_1, am_kf_s, am_km_s, am_kn_s, am_k_v, am_k_0, am_isr_r, am_isr_n, am_isr_v, am_sw_0, am_sw_i, am_sw_l, am_sw_r, am_sw_n, am_sw_v, am_ct_i, am_ct_r, am_ct_n, am_c1_o, am_c1_n, am_c1_i, am_c1_r, am_c1_v, am_mk_1, lc_lt, lc_gt, lc_eq, lc_le, lc_ge, i01_eq, i01_ok, ite_not, true_or, or_true, true_and, and_true, false_or, or_false, false_and, and_false, if_true, if_false, not_true_eq_false, not_false_eq_true, eq_self, Nat.reduceAdd, Nat.reduceLeDiff, Nat.reduceLT, Nat.reduceEqDiff, Nat.reduceMul, Nat.reduceSub, Nat.reduceDiv, Nat.reduceMod, reduceCtorEq, Nat.zero_le, i3_le, i3_lt, i3_eq, i3_eqN, i3_leN, i3_Nle, i3_ltN, i3_NleN, i3_NeqN, i3_Neq, i3_NltN, i3_Nlt, l6_le, l6_lt, l6_eq, l6_leN, l6_Nle, l6_ltN, l6_Nlt, l6_eqN, l6_Neq, h3p]
    · simp only [r_Ta_readAnd_13, r_Ta_readAnd_16, r_Ta_readAnd_18, r_Ta_readAnd_21, r_Ta_readAnd_22, r_Ta_readAnd_25, r_Ta_readAnd_28, r_Ta_readAnd_29, r_Ta_readAnd_32, r_Ta_readAnd_33, r_Ta_readAnd_34, r_Ta_readAnd_37, r_Ta_readAnd_40, r_Ta_readAnd_41, r_Ta_readAnd_42, r_Ta_readAnd_43, r_Ta_readAnd_45, r_Ta_readAnd_48, r_Ta_readAnd_48_k, r_Ta_readAnd_51, r_Ta_readAnd_54, r_Ta_readAnd_55, ly_k7, ly_g7_3, i3n_0, i3n_1, i3n_9, i3n_15, i3n_160, l6n_0, l6n_1, am_kf_s, am_km_s, am_kn_s, am_k_v, am_k_0, am_isr_r, am_isr_n, am_isr_v, am_sw_0, am_sw_i, am_sw_l, am_sw_r, am_sw_n, am_sw_v, am_ct_i, am_ct_r, am_ct_n, am_c1_o, am_c1_n, am_c1_i, am_c1_r, am_c1_v, am_mk_1, lc_lt, lc_gt, lc_eq, lc_le, lc_ge, i01_eq, i01_ok, ite_not, true_or, or_true, true_and, and_true, false_or, or_false, false_and, and_false, if_true, if_false, not_true_eq_false, not_false_eq_true, eq_self, Nat.reduceAdd, Nat.reduceLeDiff, Nat.reduceLT, Nat.reduceEqDiff, Nat.reduceMul, Nat.reduceSub, Nat.reduceDiv, Nat.reduceMod, reduceCtorEq, Nat.zero_le, i3_le, i3_lt, i3_eq, i3_eqN, i3_leN, i3_Nle, i3_ltN, i3_NleN, i3_NeqN, i3_Neq, i3_NltN, i3_Nlt, l6_le, l6_lt, l6_eq, l6_leN, l6_Nle, l6_ltN, l6_Nlt, l6_eqN, l6_Neq, h3, ct_9, hq]
  | succ f ih =>
    intro i hi C cb c t hat hcb hl
    have a1 : i < 2147483648 := by omega
    have a2 : ¬ 160 ≤ i := by omega
    have h3 := hat.2.2.2.1
    have hn := hat.1.2.1
    rw [pa_loop, r_Ta_readAnd_12 am_isr_r]
    by_cases hq : pa_tk b n t = 309
    · have ht : (pa_is 309) (pa_tk b n t) = true := decide_eq_true hq
      have h3p : C 7 3 = Int32.ofNat 9 := by rw [h3, ct_9]; exact hq
      rw [if_pos ht]
      have htn := pa_tk_end (b := b) (n := n) (s := t) (by rw [hq]; decide)
      obtain ⟨k1, k2, k3⟩ := pa_nx_le (b := b) hat.2.1
      have k3 := k3 htn
      obtain ⟨C1, e1, at1, cb1, f1⟩ := x_Ta_next (d := d) (bb := bb) (L := L) (R := R) hS hat hcb
      have hs := hsub (d + 8) hd C1 (cb ++ c) (pa_nx b n t) at1 cb1 (by omega)
      have hgs := hg (pa_nx b n t) k2
      cases hc : sub (pa_nx b n t) with
      | inr e =>
        rw [hc] at hs
        obtain ⟨C2, e2, B2, t2, f2⟩ := hs
        refine ⟨C2, ?_, B2, t2, tp_f2_tr f1 f2⟩
        simp only [r_Ta_readAnd_13, r_Ta_readAnd_16, r_Ta_readAnd_18, r_Ta_readAnd_21, r_Ta_readAnd_22, r_Ta_readAnd_25, r_Ta_readAnd_28, r_Ta_readAnd_29, r_Ta_readAnd_32, r_Ta_readAnd_33, r_Ta_readAnd_34, r_Ta_readAnd_37, r_Ta_readAnd_40, r_Ta_readAnd_41, r_Ta_readAnd_42, r_Ta_readAnd_43, r_Ta_readAnd_45, r_Ta_readAnd_48, r_Ta_readAnd_48_k, r_Ta_readAnd_51, r_Ta_readAnd_54, r_Ta_readAnd_55, ly_k7, ly_g7_3, i3n_0, i3n_1, i3n_9, i3n_15, i3n_160, l6n_0, l6n_1, am_kf_s, am_km_s, am_kn_s, am_k_v, am_k_0, am_isr_r, am_isr_n, am_isr_v, am_sw_0, am_sw_i, am_sw_l, am_sw_r, am_sw_n, am_sw_v, am_ct_i, am_ct_r, am_ct_n, am_c1_o, am_c1_n, am_c1_i, am_c1_r, am_c1_v, am_mk_1, lc_lt, lc_gt, lc_eq, lc_le, lc_ge, i01_eq, i01_ok, ite_not, true_or, or_true, true_and, and_true, false_or, or_false, false_and, and_false, if_true, if_false, not_true_eq_false, not_false_eq_true, eq_self, Nat.reduceAdd, Nat.reduceLeDiff, Nat.reduceLT, Nat.reduceEqDiff, Nat.reduceMul, Nat.reduceSub, Nat.reduceDiv, Nat.reduceMod, reduceCtorEq, Nat.zero_le, i3_le, i3_lt, i3_eq, i3_eqN, i3_leN, i3_Nle, i3_ltN, i3_NleN, i3_NeqN, i3_Neq, i3_NltN, i3_Nlt, l6_le, l6_lt, l6_eq, l6_leN, l6_Nle, l6_ltN, l6_Nlt, l6_eqN, l6_Neq, h3p, a1, a2, e1, e2]
      | inl q =>
        obtain ⟨c', t'⟩ := q
        rw [hc] at hs hgs
        obtain ⟨C2, e2, at2, cb2, f2⟩ := hs
        obtain ⟨g1, g2, g3⟩ := hgs
        have hlen : ((cb ++ c) ++ c').length < 160 := by
          rw [List.length_append]; omega
        obtain ⟨C3, e3, cb3, f3⟩ := x_Ta_write (G := G) (x := x) (bb := bb) (Z := Z) (L := L) (R := R) (D := D) (d := d + 7) (v := (-Int32.ofNat 15)) cb2 hlen
        have hi3 := ih (i + 1) (by omega) C3 cb (c ++ c' ++ [(-Int32.ofNat 15)]) t' (tp_at_fw at2 f3) (by rw [← List.append_assoc, ← List.append_assoc]; exact cb3) (by rw [← List.append_assoc, ← List.append_assoc, List.length_append, List.length_append, List.length_cons, List.length_nil]; omega)
        have key : am_run G (d + 8) K_Ta_readAnd (13, [some (.ref (x + 7)), some (.int (Int32.ofNat o)), some (.int (Int32.ofNat i))], [.ref (x + 7)], am_mk x bb Z C L R D) = am_run G (d + 8) K_Ta_readAnd (12, [some (.ref (x + 7)), some (.int (Int32.ofNat o)), some (.int (Int32.ofNat (i + 1)))], [], am_mk x bb Z C3 L R D) := by
          simp only [r_Ta_readAnd_13, r_Ta_readAnd_16, r_Ta_readAnd_18, r_Ta_readAnd_21, r_Ta_readAnd_22, r_Ta_readAnd_25, r_Ta_readAnd_28, r_Ta_readAnd_29, r_Ta_readAnd_32, r_Ta_readAnd_33, r_Ta_readAnd_34, r_Ta_readAnd_37, r_Ta_readAnd_40, r_Ta_readAnd_41, r_Ta_readAnd_42, r_Ta_readAnd_43, r_Ta_readAnd_45, r_Ta_readAnd_48, r_Ta_readAnd_48_k, r_Ta_readAnd_51, r_Ta_readAnd_54, r_Ta_readAnd_55, ly_k7, ly_g7_3, i3n_0, i3n_1, i3n_9, i3n_15, i3n_160, l6n_0, l6n_1, am_kf_s, am_km_s, am_kn_s, am_k_v, am_k_0, am_isr_r, am_isr_n, am_isr_v, am_sw_0, am_sw_i, am_sw_l, am_sw_r, am_sw_n, am_sw_v, am_ct_i, am_ct_r, am_ct_n, am_c1_o, am_c1_n, am_c1_i, am_c1_r, am_c1_v, am_mk_1, lc_lt, lc_gt, lc_eq, lc_le, lc_ge, i01_eq, i01_ok, ite_not, true_or, or_true, true_and, and_true, false_or, or_false, false_and, and_false, if_true, if_false, not_true_eq_false, not_false_eq_true, eq_self, Nat.reduceAdd, Nat.reduceLeDiff, Nat.reduceLT, Nat.reduceEqDiff, Nat.reduceMul, Nat.reduceSub, Nat.reduceDiv, Nat.reduceMod, reduceCtorEq, Nat.zero_le, i3_le, i3_lt, i3_eq, i3_eqN, i3_leN, i3_Nle, i3_ltN, i3_NleN, i3_NeqN, i3_Neq, i3_NltN, i3_Nlt, l6_le, l6_lt, l6_eq, l6_leN, l6_Nle, l6_ltN, l6_Nlt, l6_eqN, l6_Neq, h3p, a1, a2, e1, e2, e3, i3_add]
        rw [key]
        exact tp_res_tr (tp_f2_tr f1 (tp_f2_tr f2 (tp_f2_fw f3))) hi3
    · have ht : ¬ (pa_is 309) (pa_tk b n t) = true := fun e => hq (of_decide_eq_true e)
      rw [if_neg ht]
      refine ⟨C, ?_, hat, hcb, tp_f2_rf⟩
      simp only [r_Ta_readAnd_13, r_Ta_readAnd_16, r_Ta_readAnd_18, r_Ta_readAnd_21, r_Ta_readAnd_22, r_Ta_readAnd_25, r_Ta_readAnd_28, r_Ta_readAnd_29, r_Ta_readAnd_32, r_Ta_readAnd_33, r_Ta_readAnd_34, r_Ta_readAnd_37, r_Ta_readAnd_40, r_Ta_readAnd_41, r_Ta_readAnd_42, r_Ta_readAnd_43, r_Ta_readAnd_45, r_Ta_readAnd_48, r_Ta_readAnd_48_k, r_Ta_readAnd_51, r_Ta_readAnd_54, r_Ta_readAnd_55, ly_k7, ly_g7_3, i3n_0, i3n_1, i3n_9, i3n_15, i3n_160, l6n_0, l6n_1, am_kf_s, am_km_s, am_kn_s, am_k_v, am_k_0, am_isr_r, am_isr_n, am_isr_v, am_sw_0, am_sw_i, am_sw_l, am_sw_r, am_sw_n, am_sw_v, am_ct_i, am_ct_r, am_ct_n, am_c1_o, am_c1_n, am_c1_i, am_c1_r, am_c1_v, am_mk_1, lc_lt, lc_gt, lc_eq, lc_le, lc_ge, i01_eq, i01_ok, ite_not, true_or, or_true, true_and, and_true, false_or, or_false, false_and, and_false, if_true, if_false, not_true_eq_false, not_false_eq_true, eq_self, Nat.reduceAdd, Nat.reduceLeDiff, Nat.reduceLT, Nat.reduceEqDiff, Nat.reduceMul, Nat.reduceSub, Nat.reduceDiv, Nat.reduceMod, reduceCtorEq, Nat.zero_le, i3_le, i3_lt, i3_eq, i3_eqN, i3_leN, i3_Nle, i3_ltN, i3_NleN, i3_NeqN, i3_Neq, i3_NltN, i3_Nlt, l6_le, l6_lt, l6_eq, l6_leN, l6_Nle, l6_ltN, l6_Nlt, l6_eqN, l6_Neq, h3, ct_9, hq]
theorem x_Ta_readAnd (hS : tp_S G x Z D) {sub : Nat → pa_R} (hg : pa_good n sub) {lo o : Nat} (hlo : 8 ≤ lo) (hsub : tp_rd G x bb Z L R D b n K_Ta_readNot lo o sub) : tp_rd G x bb Z L R D b n K_Ta_readAnd (lo + 1) o (pa_seq b n (pa_is 309) (fun _ => -Int32.ofNat 15) sub) := by
  intro d hd C cb s hat hcb hl
  obtain ⟨d, rfl⟩ : ∃ d', d = d' + 9 := ⟨d - 9, by omega⟩
  have hs := hsub (d + 8) (by omega) C cb s hat hcb hl
  have hgs := hg s hat.2.1
  unfold pa_seq
  cases hc : sub s with
  | inr e =>
    rw [hc] at hs
    obtain ⟨C2, e2, B2, t2, f2⟩ := hs
    refine ⟨C2, ?_, B2, t2, f2⟩
    simp only [e_Ta_readAnd, r_Ta_readAnd_0, r_Ta_readAnd_1, r_Ta_readAnd_2, r_Ta_readAnd_5, r_Ta_readAnd_8, r_Ta_readAnd_9, r_Ta_readAnd_10, r_Ta_readAnd_11, r_Ta_readAnd_11_k, r_Ta_readAnd_13, r_Ta_readAnd_16, r_Ta_readAnd_18, r_Ta_readAnd_21, r_Ta_readAnd_22, r_Ta_readAnd_25, r_Ta_readAnd_28, r_Ta_readAnd_29, r_Ta_readAnd_32, r_Ta_readAnd_33, r_Ta_readAnd_34, r_Ta_readAnd_37, r_Ta_readAnd_40, r_Ta_readAnd_41, r_Ta_readAnd_42, r_Ta_readAnd_43, r_Ta_readAnd_45, r_Ta_readAnd_48, r_Ta_readAnd_48_k, r_Ta_readAnd_51, r_Ta_readAnd_54, r_Ta_readAnd_55, ly_k7, ly_g7_3, i3n_0, i3n_1, i3n_9, i3n_15, i3n_160, l6n_0, l6n_1, am_kf_s, am_km_s, am_kn_s, am_k_v, am_k_0, am_isr_r, am_isr_n, am_isr_v, am_sw_0, am_sw_i, am_sw_l, am_sw_r, am_sw_n, am_sw_v, am_ct_i, am_ct_r, am_ct_n, am_c1_o, am_c1_n, am_c1_i, am_c1_r, am_c1_v, am_mk_1, lc_lt, lc_gt, lc_eq, lc_le, lc_ge, i01_eq, i01_ok, ite_not, true_or, or_true, true_and, and_true, false_or, or_false, false_and, and_false, if_true, if_false, not_true_eq_false, not_false_eq_true, eq_self, Nat.reduceAdd, Nat.reduceLeDiff, Nat.reduceLT, Nat.reduceEqDiff, Nat.reduceMul, Nat.reduceSub, Nat.reduceDiv, Nat.reduceMod, reduceCtorEq, Nat.zero_le, i3_le, i3_lt, i3_eq, i3_eqN, i3_leN, i3_Nle, i3_ltN, i3_NleN, i3_NeqN, i3_Neq, i3_NltN, i3_Nlt, l6_le, l6_lt, l6_eq, l6_leN, l6_Nle, l6_ltN, l6_Nlt, l6_eqN, l6_Neq, e2]
  | inl q =>
    obtain ⟨c', t'⟩ := q
    rw [hc] at hs hgs
    obtain ⟨C2, e2, at2, cb2, f2⟩ := hs
    obtain ⟨g1, g2, g3⟩ := hgs
    have hi3 := l_Ta_readAnd (d := d) hS hg hsub (by omega) 160 0 rfl C2 cb c' t' at2 cb2 (by rw [List.length_append]; omega)
    have key : am_ex G (d + 9) K_Ta_readAnd [.ref (x + 7), .int (Int32.ofNat o)] (am_mk x bb Z C L R D) = am_run G (d + 8) K_Ta_readAnd (12, [some (.ref (x + 7)), some (.int (Int32.ofNat o)), some (.int (Int32.ofNat 0))], [], am_mk x bb Z C2 L R D) := by
      simp only [e_Ta_readAnd, r_Ta_readAnd_0, r_Ta_readAnd_1, r_Ta_readAnd_2, r_Ta_readAnd_5, r_Ta_readAnd_8, r_Ta_readAnd_9, r_Ta_readAnd_10, r_Ta_readAnd_11, r_Ta_readAnd_11_k, r_Ta_readAnd_13, r_Ta_readAnd_16, r_Ta_readAnd_18, r_Ta_readAnd_21, r_Ta_readAnd_22, r_Ta_readAnd_25, r_Ta_readAnd_28, r_Ta_readAnd_29, r_Ta_readAnd_32, r_Ta_readAnd_33, r_Ta_readAnd_34, r_Ta_readAnd_37, r_Ta_readAnd_40, r_Ta_readAnd_41, r_Ta_readAnd_42, r_Ta_readAnd_43, r_Ta_readAnd_45, r_Ta_readAnd_48, r_Ta_readAnd_48_k, r_Ta_readAnd_51, r_Ta_readAnd_54, r_Ta_readAnd_55, ly_k7, ly_g7_3, i3n_0, i3n_1, i3n_9, i3n_15, i3n_160, l6n_0, l6n_1, am_kf_s, am_km_s, am_kn_s, am_k_v, am_k_0, am_isr_r, am_isr_n, am_isr_v, am_sw_0, am_sw_i, am_sw_l, am_sw_r, am_sw_n, am_sw_v, am_ct_i, am_ct_r, am_ct_n, am_c1_o, am_c1_n, am_c1_i, am_c1_r, am_c1_v, am_mk_1, lc_lt, lc_gt, lc_eq, lc_le, lc_ge, i01_eq, i01_ok, ite_not, true_or, or_true, true_and, and_true, false_or, or_false, false_and, and_false, if_true, if_false, not_true_eq_false, not_false_eq_true, eq_self, Nat.reduceAdd, Nat.reduceLeDiff, Nat.reduceLT, Nat.reduceEqDiff, Nat.reduceMul, Nat.reduceSub, Nat.reduceDiv, Nat.reduceMod, reduceCtorEq, Nat.zero_le, i3_le, i3_lt, i3_eq, i3_eqN, i3_leN, i3_Nle, i3_ltN, i3_NleN, i3_NeqN, i3_Neq, i3_NltN, i3_Nlt, l6_le, l6_lt, l6_eq, l6_leN, l6_Nle, l6_ltN, l6_Nlt, l6_eqN, l6_Neq, e2]
    rw [key]
    exact tp_res_tr f2 hi3
theorem l_Ta_readE (hS : tp_S G x Z D) {sub : Nat → pa_R} (hg : pa_good n sub) {lo o d : Nat} (hsub : tp_rd G x bb Z L R D b n K_Ta_readAnd lo o sub) (hd : lo ≤ d + 8) : ∀ f i : Nat, i + f = 160 → ∀ (C : Nat → Nat → Int32) (cb c : List Int32) (t : Nat), tp_at b n t C → tp_cb (cb ++ c) C → (cb ++ c).length ≤ t → tp_res x bb Z L R D b n (am_run G (d + 8) K_Ta_readE (12, [some (.ref (x + 7)), some (.int (Int32.ofNat o)), some (.int (Int32.ofNat i))], [], am_mk x bb Z C L R D)) cb (pa_loop b n (pa_is 308) (fun _ => -Int32.ofNat 16) sub f c t) C := by
  intro f
  induction f with
  | zero =>
    intro i hi C cb c t hat hcb hl
    have : i = 160 := by omega
    subst this
    have h3 := hat.2.2.2.1
    rw [pa_loop]
    refine ⟨C, ?_, hat, hcb, tp_f2_rf⟩
    rw [r_Ta_readE_12 am_isr_r]
    by_cases hq : pa_tk b n t = 308
    · have h3p : C 7 3 = Int32.ofNat 8 := by rw [h3, ct_8]; exact hq
      simp only [r_Ta_readE_13, r_Ta_readE_16, r_Ta_readE_18, r_Ta_readE_21, r_Ta_readE_22, r_Ta_readE_25, r_Ta_readE_28, r_Ta_readE_29, r_Ta_readE_32, r_Ta_readE_33, r_Ta_readE_34, r_Ta_readE_37, r_Ta_readE_40, r_Ta_readE_41, r_Ta_readE_42, r_Ta_readE_43, r_Ta_readE_45, r_Ta_readE_48, r_Ta_readE_48_k, r_Ta_readE_51, r_Ta_readE_54, r_Ta_readE_55, ly_k7, ly_g7_3, i3n_0, i3n_1, i3n_8, i3n_16, i3n_160, l6n_0, l6n_1, am_kf_s, am_km_s, am_kn_s, am_k_v, am_k_0, am_isr_r, am_isr_n, am_isr_v, am_sw_0, am_sw_i, am_sw_l, am_sw_r, am_sw_n, am_sw_v, am_ct_i, am_ct_r, am_ct_n, am_c1_o, am_c1_n, am_c1_i, am_c1_r, am_c1_v, am_mk_1, lc_lt, lc_gt, lc_eq, lc_le, lc_ge, i01_eq, i01_ok, ite_not, true_or, or_true, true_and, and_true, false_or, or_false, false_and, and_false, if_true, if_false, not_true_eq_false, not_false_eq_true, eq_self, Nat.reduceAdd, Nat.reduceLeDiff, Nat.reduceLT, Nat.reduceEqDiff, Nat.reduceMul, Nat.reduceSub, Nat.reduceDiv, Nat.reduceMod, reduceCtorEq, Nat.zero_le, i3_le, i3_lt, i3_eq, i3_eqN, i3_leN, i3_Nle, i3_ltN, i3_NleN, i3_NeqN, i3_Neq, i3_NltN, i3_Nlt, l6_le, l6_lt, l6_eq, l6_leN, l6_Nle, l6_ltN, l6_Nlt, l6_eqN, l6_Neq, h3p]
    · simp only [r_Ta_readE_13, r_Ta_readE_16, r_Ta_readE_18, r_Ta_readE_21, r_Ta_readE_22, r_Ta_readE_25, r_Ta_readE_28, r_Ta_readE_29, r_Ta_readE_32, r_Ta_readE_33, r_Ta_readE_34, r_Ta_readE_37, r_Ta_readE_40, r_Ta_readE_41, r_Ta_readE_42, r_Ta_readE_43, r_Ta_readE_45, r_Ta_readE_48, r_Ta_readE_48_k, r_Ta_readE_51, r_Ta_readE_54, r_Ta_readE_55, ly_k7, ly_g7_3, i3n_0, i3n_1, i3n_8, i3n_16, i3n_160, l6n_0, l6n_1, am_kf_s, am_km_s, am_kn_s, am_k_v, am_k_0, am_isr_r, am_isr_n, am_isr_v, am_sw_0, am_sw_i, am_sw_l, am_sw_r, am_sw_n, am_sw_v, am_ct_i, am_ct_r, am_ct_n, am_c1_o, am_c1_n, am_c1_i, am_c1_r, am_c1_v, am_mk_1, lc_lt, lc_gt, lc_eq, lc_le, lc_ge, i01_eq, i01_ok, ite_not, true_or, or_true, true_and, and_true, false_or, or_false, false_and, and_false, if_true, if_false, not_true_eq_false, not_false_eq_true, eq_self, Nat.reduceAdd, Nat.reduceLeDiff, Nat.reduceLT, Nat.reduceEqDiff, Nat.reduceMul, Nat.reduceSub, Nat.reduceDiv, Nat.reduceMod, reduceCtorEq, Nat.zero_le, i3_le, i3_lt, i3_eq, i3_eqN, i3_leN, i3_Nle, i3_ltN, i3_NleN, i3_NeqN, i3_Neq, i3_NltN, i3_Nlt, l6_le, l6_lt, l6_eq, l6_leN, l6_Nle, l6_ltN, l6_Nlt, l6_eqN, l6_Neq, h3, ct_8, hq]
  | succ f ih =>
    intro i hi C cb c t hat hcb hl
    have a1 : i < 2147483648 := by omega
    have a2 : ¬ 160 ≤ i := by omega
    have h3 := hat.2.2.2.1
    have hn := hat.1.2.1
    rw [pa_loop, r_Ta_readE_12 am_isr_r]
    by_cases hq : pa_tk b n t = 308
    · have ht : (pa_is 308) (pa_tk b n t) = true := decide_eq_true hq
      have h3p : C 7 3 = Int32.ofNat 8 := by rw [h3, ct_8]; exact hq
      rw [if_pos ht]
      have htn := pa_tk_end (b := b) (n := n) (s := t) (by rw [hq]; decide)
      obtain ⟨k1, k2, k3⟩ := pa_nx_le (b := b) hat.2.1
      have k3 := k3 htn
      obtain ⟨C1, e1, at1, cb1, f1⟩ := x_Ta_next (d := d) (bb := bb) (L := L) (R := R) hS hat hcb
      have hs := hsub (d + 8) hd C1 (cb ++ c) (pa_nx b n t) at1 cb1 (by omega)
      have hgs := hg (pa_nx b n t) k2
      cases hc : sub (pa_nx b n t) with
      | inr e =>
        rw [hc] at hs
        obtain ⟨C2, e2, B2, t2, f2⟩ := hs
        refine ⟨C2, ?_, B2, t2, tp_f2_tr f1 f2⟩
        simp only [r_Ta_readE_13, r_Ta_readE_16, r_Ta_readE_18, r_Ta_readE_21, r_Ta_readE_22, r_Ta_readE_25, r_Ta_readE_28, r_Ta_readE_29, r_Ta_readE_32, r_Ta_readE_33, r_Ta_readE_34, r_Ta_readE_37, r_Ta_readE_40, r_Ta_readE_41, r_Ta_readE_42, r_Ta_readE_43, r_Ta_readE_45, r_Ta_readE_48, r_Ta_readE_48_k, r_Ta_readE_51, r_Ta_readE_54, r_Ta_readE_55, ly_k7, ly_g7_3, i3n_0, i3n_1, i3n_8, i3n_16, i3n_160, l6n_0, l6n_1, am_kf_s, am_km_s, am_kn_s, am_k_v, am_k_0, am_isr_r, am_isr_n, am_isr_v, am_sw_0, am_sw_i, am_sw_l, am_sw_r, am_sw_n, am_sw_v, am_ct_i, am_ct_r, am_ct_n, am_c1_o, am_c1_n, am_c1_i, am_c1_r, am_c1_v, am_mk_1, lc_lt, lc_gt, lc_eq, lc_le, lc_ge, i01_eq, i01_ok, ite_not, true_or, or_true, true_and, and_true, false_or, or_false, false_and, and_false, if_true, if_false, not_true_eq_false, not_false_eq_true, eq_self, Nat.reduceAdd, Nat.reduceLeDiff, Nat.reduceLT, Nat.reduceEqDiff, Nat.reduceMul, Nat.reduceSub, Nat.reduceDiv, Nat.reduceMod, reduceCtorEq, Nat.zero_le, i3_le, i3_lt, i3_eq, i3_eqN, i3_leN, i3_Nle, i3_ltN, i3_NleN, i3_NeqN, i3_Neq, i3_NltN, i3_Nlt, l6_le, l6_lt, l6_eq, l6_leN, l6_Nle, l6_ltN, l6_Nlt, l6_eqN, l6_Neq, h3p, a1, a2, e1, e2]
      | inl q =>
        obtain ⟨c', t'⟩ := q
        rw [hc] at hs hgs
        obtain ⟨C2, e2, at2, cb2, f2⟩ := hs
        obtain ⟨g1, g2, g3⟩ := hgs
        have hlen : ((cb ++ c) ++ c').length < 160 := by
          rw [List.length_append]; omega
        obtain ⟨C3, e3, cb3, f3⟩ := x_Ta_write (G := G) (x := x) (bb := bb) (Z := Z) (L := L) (R := R) (D := D) (d := d + 7) (v := (-Int32.ofNat 16)) cb2 hlen
        have hi3 := ih (i + 1) (by omega) C3 cb (c ++ c' ++ [(-Int32.ofNat 16)]) t' (tp_at_fw at2 f3) (by rw [← List.append_assoc, ← List.append_assoc]; exact cb3) (by rw [← List.append_assoc, ← List.append_assoc, List.length_append, List.length_append, List.length_cons, List.length_nil]; omega)
        have key : am_run G (d + 8) K_Ta_readE (13, [some (.ref (x + 7)), some (.int (Int32.ofNat o)), some (.int (Int32.ofNat i))], [.ref (x + 7)], am_mk x bb Z C L R D) = am_run G (d + 8) K_Ta_readE (12, [some (.ref (x + 7)), some (.int (Int32.ofNat o)), some (.int (Int32.ofNat (i + 1)))], [], am_mk x bb Z C3 L R D) := by
          simp only [r_Ta_readE_13, r_Ta_readE_16, r_Ta_readE_18, r_Ta_readE_21, r_Ta_readE_22, r_Ta_readE_25, r_Ta_readE_28, r_Ta_readE_29, r_Ta_readE_32, r_Ta_readE_33, r_Ta_readE_34, r_Ta_readE_37, r_Ta_readE_40, r_Ta_readE_41, r_Ta_readE_42, r_Ta_readE_43, r_Ta_readE_45, r_Ta_readE_48, r_Ta_readE_48_k, r_Ta_readE_51, r_Ta_readE_54, r_Ta_readE_55, ly_k7, ly_g7_3, i3n_0, i3n_1, i3n_8, i3n_16, i3n_160, l6n_0, l6n_1, am_kf_s, am_km_s, am_kn_s, am_k_v, am_k_0, am_isr_r, am_isr_n, am_isr_v, am_sw_0, am_sw_i, am_sw_l, am_sw_r, am_sw_n, am_sw_v, am_ct_i, am_ct_r, am_ct_n, am_c1_o, am_c1_n, am_c1_i, am_c1_r, am_c1_v, am_mk_1, lc_lt, lc_gt, lc_eq, lc_le, lc_ge, i01_eq, i01_ok, ite_not, true_or, or_true, true_and, and_true, false_or, or_false, false_and, and_false, if_true, if_false, not_true_eq_false, not_false_eq_true, eq_self, Nat.reduceAdd, Nat.reduceLeDiff, Nat.reduceLT, Nat.reduceEqDiff, Nat.reduceMul, Nat.reduceSub, Nat.reduceDiv, Nat.reduceMod, reduceCtorEq, Nat.zero_le, i3_le, i3_lt, i3_eq, i3_eqN, i3_leN, i3_Nle, i3_ltN, i3_NleN, i3_NeqN, i3_Neq, i3_NltN, i3_Nlt, l6_le, l6_lt, l6_eq, l6_leN, l6_Nle, l6_ltN, l6_Nlt, l6_eqN, l6_Neq, h3p, a1, a2, e1, e2, e3, i3_add]
        rw [key]
        exact tp_res_tr (tp_f2_tr f1 (tp_f2_tr f2 (tp_f2_fw f3))) hi3
    · have ht : ¬ (pa_is 308) (pa_tk b n t) = true := fun e => hq (of_decide_eq_true e)
      rw [if_neg ht]
      refine ⟨C, ?_, hat, hcb, tp_f2_rf⟩
      simp only [r_Ta_readE_13, r_Ta_readE_16, r_Ta_readE_18, r_Ta_readE_21, r_Ta_readE_22, r_Ta_readE_25, r_Ta_readE_28, r_Ta_readE_29, r_Ta_readE_32, r_Ta_readE_33, r_Ta_readE_34, r_Ta_readE_37, r_Ta_readE_40, r_Ta_readE_41, r_Ta_readE_42, r_Ta_readE_43, r_Ta_readE_45, r_Ta_readE_48, r_Ta_readE_48_k, r_Ta_readE_51, r_Ta_readE_54, r_Ta_readE_55, ly_k7, ly_g7_3, i3n_0, i3n_1, i3n_8, i3n_16, i3n_160, l6n_0, l6n_1, am_kf_s, am_km_s, am_kn_s, am_k_v, am_k_0, am_isr_r, am_isr_n, am_isr_v, am_sw_0, am_sw_i, am_sw_l, am_sw_r, am_sw_n, am_sw_v, am_ct_i, am_ct_r, am_ct_n, am_c1_o, am_c1_n, am_c1_i, am_c1_r, am_c1_v, am_mk_1, lc_lt, lc_gt, lc_eq, lc_le, lc_ge, i01_eq, i01_ok, ite_not, true_or, or_true, true_and, and_true, false_or, or_false, false_and, and_false, if_true, if_false, not_true_eq_false, not_false_eq_true, eq_self, Nat.reduceAdd, Nat.reduceLeDiff, Nat.reduceLT, Nat.reduceEqDiff, Nat.reduceMul, Nat.reduceSub, Nat.reduceDiv, Nat.reduceMod, reduceCtorEq, Nat.zero_le, i3_le, i3_lt, i3_eq, i3_eqN, i3_leN, i3_Nle, i3_ltN, i3_NleN, i3_NeqN, i3_Neq, i3_NltN, i3_Nlt, l6_le, l6_lt, l6_eq, l6_leN, l6_Nle, l6_ltN, l6_Nlt, l6_eqN, l6_Neq, h3, ct_8, hq]
theorem x_Ta_readE (hS : tp_S G x Z D) {sub : Nat → pa_R} (hg : pa_good n sub) {lo o : Nat} (hlo : 8 ≤ lo) (hsub : tp_rd G x bb Z L R D b n K_Ta_readAnd lo o sub) : tp_rd G x bb Z L R D b n K_Ta_readE (lo + 1) o (pa_seq b n (pa_is 308) (fun _ => -Int32.ofNat 16) sub) := by
  intro d hd C cb s hat hcb hl
  obtain ⟨d, rfl⟩ : ∃ d', d = d' + 9 := ⟨d - 9, by omega⟩
  have hs := hsub (d + 8) (by omega) C cb s hat hcb hl
  have hgs := hg s hat.2.1
  unfold pa_seq
  cases hc : sub s with
  | inr e =>
    rw [hc] at hs
    obtain ⟨C2, e2, B2, t2, f2⟩ := hs
    refine ⟨C2, ?_, B2, t2, f2⟩
    simp only [e_Ta_readE, r_Ta_readE_0, r_Ta_readE_1, r_Ta_readE_2, r_Ta_readE_5, r_Ta_readE_8, r_Ta_readE_9, r_Ta_readE_10, r_Ta_readE_11, r_Ta_readE_11_k, r_Ta_readE_13, r_Ta_readE_16, r_Ta_readE_18, r_Ta_readE_21, r_Ta_readE_22, r_Ta_readE_25, r_Ta_readE_28, r_Ta_readE_29, r_Ta_readE_32, r_Ta_readE_33, r_Ta_readE_34, r_Ta_readE_37, r_Ta_readE_40, r_Ta_readE_41, r_Ta_readE_42, r_Ta_readE_43, r_Ta_readE_45, r_Ta_readE_48, r_Ta_readE_48_k, r_Ta_readE_51, r_Ta_readE_54, r_Ta_readE_55, ly_k7, ly_g7_3, i3n_0, i3n_1, i3n_8, i3n_16, i3n_160, l6n_0, l6n_1, am_kf_s, am_km_s, am_kn_s, am_k_v, am_k_0, am_isr_r, am_isr_n, am_isr_v, am_sw_0, am_sw_i, am_sw_l, am_sw_r, am_sw_n, am_sw_v, am_ct_i, am_ct_r, am_ct_n, am_c1_o, am_c1_n, am_c1_i, am_c1_r, am_c1_v, am_mk_1, lc_lt, lc_gt, lc_eq, lc_le, lc_ge, i01_eq, i01_ok, ite_not, true_or, or_true, true_and, and_true, false_or, or_false, false_and, and_false, if_true, if_false, not_true_eq_false, not_false_eq_true, eq_self, Nat.reduceAdd, Nat.reduceLeDiff, Nat.reduceLT, Nat.reduceEqDiff, Nat.reduceMul, Nat.reduceSub, Nat.reduceDiv, Nat.reduceMod, reduceCtorEq, Nat.zero_le, i3_le, i3_lt, i3_eq, i3_eqN, i3_leN, i3_Nle, i3_ltN, i3_NleN, i3_NeqN, i3_Neq, i3_NltN, i3_Nlt, l6_le, l6_lt, l6_eq, l6_leN, l6_Nle, l6_ltN, l6_Nlt, l6_eqN, l6_Neq, e2]
  | inl q =>
    obtain ⟨c', t'⟩ := q
    rw [hc] at hs hgs
    obtain ⟨C2, e2, at2, cb2, f2⟩ := hs
    obtain ⟨g1, g2, g3⟩ := hgs
    have hi3 := l_Ta_readE (d := d) hS hg hsub (by omega) 160 0 rfl C2 cb c' t' at2 cb2 (by rw [List.length_append]; omega)
    have key : am_ex G (d + 9) K_Ta_readE [.ref (x + 7), .int (Int32.ofNat o)] (am_mk x bb Z C L R D) = am_run G (d + 8) K_Ta_readE (12, [some (.ref (x + 7)), some (.int (Int32.ofNat o)), some (.int (Int32.ofNat 0))], [], am_mk x bb Z C2 L R D) := by
      simp only [e_Ta_readE, r_Ta_readE_0, r_Ta_readE_1, r_Ta_readE_2, r_Ta_readE_5, r_Ta_readE_8, r_Ta_readE_9, r_Ta_readE_10, r_Ta_readE_11, r_Ta_readE_11_k, r_Ta_readE_13, r_Ta_readE_16, r_Ta_readE_18, r_Ta_readE_21, r_Ta_readE_22, r_Ta_readE_25, r_Ta_readE_28, r_Ta_readE_29, r_Ta_readE_32, r_Ta_readE_33, r_Ta_readE_34, r_Ta_readE_37, r_Ta_readE_40, r_Ta_readE_41, r_Ta_readE_42, r_Ta_readE_43, r_Ta_readE_45, r_Ta_readE_48, r_Ta_readE_48_k, r_Ta_readE_51, r_Ta_readE_54, r_Ta_readE_55, ly_k7, ly_g7_3, i3n_0, i3n_1, i3n_8, i3n_16, i3n_160, l6n_0, l6n_1, am_kf_s, am_km_s, am_kn_s, am_k_v, am_k_0, am_isr_r, am_isr_n, am_isr_v, am_sw_0, am_sw_i, am_sw_l, am_sw_r, am_sw_n, am_sw_v, am_ct_i, am_ct_r, am_ct_n, am_c1_o, am_c1_n, am_c1_i, am_c1_r, am_c1_v, am_mk_1, lc_lt, lc_gt, lc_eq, lc_le, lc_ge, i01_eq, i01_ok, ite_not, true_or, or_true, true_and, and_true, false_or, or_false, false_and, and_false, if_true, if_false, not_true_eq_false, not_false_eq_true, eq_self, Nat.reduceAdd, Nat.reduceLeDiff, Nat.reduceLT, Nat.reduceEqDiff, Nat.reduceMul, Nat.reduceSub, Nat.reduceDiv, Nat.reduceMod, reduceCtorEq, Nat.zero_le, i3_le, i3_lt, i3_eq, i3_eqN, i3_leN, i3_Nle, i3_ltN, i3_NleN, i3_NeqN, i3_Neq, i3_NltN, i3_Nlt, l6_le, l6_lt, l6_eq, l6_leN, l6_Nle, l6_ltN, l6_Nlt, l6_eqN, l6_Neq, e2]
    rw [key]
    exact tp_res_tr f2 hi3
end
