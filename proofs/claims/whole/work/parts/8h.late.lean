/-! LATE and LEFT OUT of a NIGHT -/
def tv (ev : Int32 → Int32) (c : List Int32) : Int32 := match ev_run ev c [] with
  | some (v :: _) => v
  | _ => 0
theorem tv_of {ev : Int32 → Int32} {c : List Int32} {v : Int32} (h : ev_val ev c v) : tv ev c = v := by
  unfold tv
  rw [h []]
/-- the NAMES of the NIGHT i -/
def ev_N (N : Nat → Nat → Nat) (i : Nat) (k : Int32) : Int32 := if k = Int32.ofNat 0 then Int32.ofNat (N 43 i) else if k = Int32.ofNat 1 then Int32.ofNat (N 44 i) else if k = Int32.ofNat 2 then Int32.ofNat (N 45 i) else if k = Int32.ofNat 3 then Int32.ofNat (N 46 i) else if k = Int32.ofNat 4 then Int32.ofNat (N 47 i) else Int32.ofNat (N 48 i)
def vl (N : Nat → Nat → Nat) (i : Nat) : Int32 := match pa_text (rl_b N (N 31 4)) (N 33 (N 31 4)) with
  | .inl q => tv (ev_N N i) q.1
  | .inr _ => 0
def ve (N : Nat → Nat → Nat) (i : Nat) : Int32 := match pa_text (rl_b N (N 31 4)) (N 33 (N 31 4)) with
  | .inl q => tv (ev_N N i) q.2
  | .inr _ => 0
/-- held between 0 and 999 -/
def cl9 (v : Int32) : Nat := if v < Int32.ofNat 0 then 0 else if Int32.ofNat 999 < v then 999 else v.toNatClampNeg
/-- LATE of the NIGHT i -/
def mL (N : Nat → Nat → Nat) (i : Nat) : Nat := if N 43 i = 1 ∨ N 43 i = 4 then cl9 (vl N i) + 1 else if N 43 i = 3 then cl9 (vl N i) - 3 else if N 43 i = 5 then 2 * cl9 (vl N i) else cl9 (vl N i)
theorem cl9_cases (v : Int32) : (v < Int32.ofNat 0 ∧ cl9 v = 0) ∨ (Int32.ofNat 999 < v ∧ ¬ v < Int32.ofNat 0 ∧ cl9 v = 999) ∨ ∃ n, n ≤ 999 ∧ v = Int32.ofNat n ∧ cl9 v = n := by
  by_cases h0 : v < Int32.ofNat 0
  · exact Or.inl ⟨h0, by unfold cl9; rw [if_pos h0]⟩
  · by_cases h1 : Int32.ofNat 999 < v
    · exact Or.inr (Or.inl ⟨h1, h0, by unfold cl9; rw [if_neg h0, if_pos h1]⟩)
    · obtain ⟨n, hn, rfl⟩ := i3_rng (by decide) ⟨Int32.not_lt.mp h0, Int32.not_lt.mp h1⟩
      exact Or.inr (Or.inr ⟨n, hn, rfl, by unfold cl9; rw [if_neg h0, if_neg h1, i3_clamp (by omega)]⟩)
theorem cl9_le (v : Int32) : cl9 v ≤ 999 := by
  rcases cl9_cases v with ⟨-, h⟩ | ⟨-, -, h⟩ | ⟨n, hn, -, h⟩ <;> omega
theorem cl9_H {v : Int32} : (if Int32.ofNat 0 < (if v < Int32.ofNat 999 then v else Int32.ofNat 999) then (if v < Int32.ofNat 999 then v else Int32.ofNat 999) else Int32.ofNat 0) = Int32.ofNat (cl9 v) := by
  rcases cl9_cases v with ⟨h, e⟩ | ⟨h, -, e⟩ | ⟨n, hn, rfl, e⟩
  · have h1 : v < Int32.ofNat 999 := Int32.lt_trans h (by decide)
    rw [e, if_pos h1, if_neg (fun q => Int32.lt_irrefl (Int32.lt_trans q h))]
  · rw [e, if_neg (fun q => Int32.lt_irrefl (Int32.lt_trans q h))]
    decide
  · rw [e]
    have e0 : (if Int32.ofNat n < Int32.ofNat 999 then Int32.ofNat n else Int32.ofNat 999) = Int32.ofNat n := by
      by_cases h9 : n < 999
      · exact if_pos (by rw [i3_lt (by omega) (by decide)]; exact h9)
      · have : n = 999 := by omega
        subst this
        decide
    rw [e0]
    by_cases h0 : 0 < n
    · exact if_pos (by rw [i3_lt (by decide) (by omega)]; exact h0)
    · have : n = 0 := by omega
      subst this
      decide
theorem mL3 {c : Nat} (hc : c ≤ 999) : (if Int32.ofNat 0 < Int32.ofNat (c + 1) - Int32.ofNat 4 then Int32.ofNat (c + 1) - Int32.ofNat 4 else Int32.ofNat 0) = Int32.ofNat (c - 3) := by
  by_cases h : 3 ≤ c
  · rw [i3_sub (by omega), show c + 1 - 4 = c - 3 by omega]
    by_cases h0 : 0 < c - 3
    · rw [if_pos (by rw [i3_lt (by decide) (by omega)]; exact h0)]
    · rw [show c - 3 = 0 by omega, if_neg (by decide)]
  · have : c = 0 ∨ c = 1 ∨ c = 2 := by omega
    rcases this with rfl | rfl | rfl <;> decide
theorem mL_le {N : Nat → Nat → Nat} {i : Nat} : mL N i ≤ 1998 := by
  have := cl9_le (vl N i)
  unfold mL
  split
  · omega
  · split
    · omega
    · split <;> omega
section
variable {G : Nat → Value} {x : Nat} {N : Nat → Nat → Nat} {Z : ly_Z} {C : Nat → Nat → Int32} {L : Nat → Nat → Int64} {R : Nat → Nat → Option Nat} {D : am_M}
theorem ni_ev_N (h : rl G N x Z C R D) {i : Nat} (hi : i < N 31 27) : ni_ev C (i + 6000) = ev_N N i := by
  obtain ⟨-, -, -, a4, a5, a6, a7, a8, a9⟩ := h.2.2.2.1 i hi
  funext k
  unfold ni_ev ev_N
  rw [a4.1, a5.1, a6.1, a7.1, a8.1, a9.1]
theorem mr_ev_N (h : rl G N x Z C R D) {i : Nat} (hi : i < N 31 27) : mr_E (ev_N N i) i C := by
  obtain ⟨-, -, -, a4, a5, a6, a7, a8, a9⟩ := h.2.2.2.1 i hi
  exact ⟨a4.2.1.symm, a5.2.1.symm, a6.2.1.symm, a7.2.1.symm, a8.2.1.symm, a9.2.1.symm⟩
theorem vl_of (h : rl G N x Z C R D) {i : Nat} (hi : i < N 31 27) : ∃ cl ce, pa_text (rl_b N (N 31 4)) (N 33 (N 31 4)) = .inl (cl, ce) ∧ tx_ok x true Z C R (Z.2 (N 31 4 + 7000)) (N 31 4) cl ce ∧ ev_val (ev_N N i) cl (vl N i) ∧ ev_val (ev_N N i) ce (ve N i) ∧ ∀ (d : Nat) (w : Int32) (L : Nat → Nat → Int64), ∃ C' L', am_ex G (d + 42) K_M_read [.ref (x + 31), .int (Int32.ofNat (N 31 4)), .int (Int32.ofNat i), .int w] (am_mk x true Z C L R D) = some (some (.int (if w = Int32.ofNat 0 then vl N i else ve N i)), am_mk x true Z C' L' R D) ∧ mr_f3 C C' ∧ mr_fl L L' := by
  have h4 := h.1.2.2.2.2.1.2.2
  obtain ⟨-, hT, cl, ce, hp, htx⟩ := h.2.2.2.2.1 (N 31 4) h4
  have h40 := h.1.2.2.1.2.2
  have main : ∀ (d : Nat) (w : Int32) (L : Nat → Nat → Int64), ∃ C' L' v1 v2, ev_val (ev_N N i) cl v1 ∧ ev_val (ev_N N i) ce v2 ∧ am_ex G (d + 42) K_M_read [.ref (x + 31), .int (Int32.ofNat (N 31 4)), .int (Int32.ofNat i), .int w] (am_mk x true Z C L R D) = some (some (.int (if w = Int32.ofNat 0 then v1 else v2)), am_mk x true Z C' L' R D) ∧ C' 31 35 = Int32.ofNat 0 ∧ mr_f3 C C' ∧ mr_fl L L' := by
    intro d w L
    have q := x_M_read (G := G) (x := x) (Z := Z) (R := R) (D := D) (d := d) (w := w) (L := L) hT (show i < 40 by omega) (mr_ev_N h hi)
    rw [hp] at q
    exact q
  have el : vl N i = tv (ev_N N i) cl := by unfold vl; rw [hp]
  have ee : ve N i = tv (ev_N N i) ce := by unfold ve; rw [hp]
  obtain ⟨-, -, v1, v2, w1, w2, -⟩ := main 0 0 (fun _ _ => 0)
  have t1 := tv_of w1
  have t2 := tv_of w2
  refine ⟨cl, ce, hp, htx, by rw [el, t1]; exact w1, by rw [ee, t2]; exact w2, fun d w L => ?_⟩
  obtain ⟨C', L', u1, u2, k1, k2, k3, -, k5, k6⟩ := main d w L
  refine ⟨C', L', ?_, k5, k6⟩
  rw [el, ee, tv_of k1, tv_of k2]
  exact k3
theorem x_Te_workOff {d q a nq u s t p : Nat} {codes : List Int32} {v : Int32} (hq : ly_is x true Z q s 7) (hR2 : ∃ a3, R s 2 = some a3 ∧ ly_is x true Z a3 u 10) (hp : R u 0 = some p) (hlen : ∀ C' : Nat → Nat → Int32, am_len (am_mk x true Z C' L R D) a = some codes.length) (hrd : ∀ (C' : Nat → Nat → Int32) (j : Nat), (∀ k i, ¬ k = u → C' k i = C k i) → j < codes.length → am_ag 0 (am_mk x true Z C' L R D) a (Int32.ofNat j) = some (.int (codes.getD j 0))) (hm : codes.length ≤ p) (hp2 : p < 1000) (hn : ly_is x true Z nq t 6) (htu : ¬ t = u) (hev : ev_val (ni_ev C t) codes v) : ∃ C'', am_ex G (d + 2) K_Te_workOff [.ref q, .ref a, .ref nq] (am_mk x true Z C L R D) = some (some (.int v), am_mk x true Z C'' L R D) ∧ ∀ k i, ¬ k = u → C'' k i = C k i := by
  obtain ⟨C'', e1, e2⟩ := l_Te_workOff (G := G) (d := d) hq hR2 hp hlen hrd hm hp2 hn htu codes 0 [] C none v [] rfl (Nat.zero_le _) (Nat.le_refl _) (fun j hj => absurd hj (Nat.not_lt_zero j)) (fun _ _ _ => rfl) am_c1_n (hev [])
  refine ⟨C'', ?_, e2⟩
  have e1 : am_run G (d + 1) K_Te_workOff (5, [some (.ref q), some (.ref a), some (.ref nq), some (.int (Int32.ofNat 0)), some (.int (Int32.ofNat 0)), none], [], am_mk x true Z C L R D) = some (some (.int v), am_mk x true Z C'' L R D) := e1
  rw [← e1]
  simp only [e_Te_workOff, r_Te_workOff_0, r_Te_workOff_1, r_Te_workOff_1_k, r_Te_workOff_2, r_Te_workOff_3, r_Te_workOff_3_k, i3n_0, i3n_1, i3n_2, i3n_6, i3n_14, i3n_20, i3n_21, l6n_0, l6n_1, am_kf_s, am_km_s, am_kn_s, am_k_v, am_k_0, am_isr_r, am_isr_n, am_isr_v, am_sw_0, am_sw_i, am_sw_l, am_sw_r, am_sw_n, am_sw_v, am_ct_i, am_ct_r, am_ct_n, am_c1_o, am_c1_n, am_c1_i, am_c1_r, am_c1_v, am_mk_1, lc_lt, lc_gt, lc_eq, lc_le, lc_ge, i01_eq, i01_ok, ite_not, true_or, or_true, true_and, and_true, false_or, or_false, false_and, and_false, if_true, if_false, not_true_eq_false, not_false_eq_true, eq_self, Nat.reduceAdd, Nat.reduceLeDiff, Nat.reduceLT, Nat.reduceEqDiff, Nat.reduceMul, Nat.reduceSub, Nat.reduceDiv, Nat.reduceMod, reduceCtorEq, Nat.zero_le, i3_le, i3_lt, i3_eq, i3_eqN, i3_leN, i3_Nle, i3_ltN, i3_NleN, i3_NeqN, i3_Neq, i3_NltN, i3_Nlt, l6_le, l6_lt, l6_eq, l6_leN, l6_Nle, l6_ltN, l6_Nlt, l6_eqN, l6_Neq, ↓reduceIte]
theorem x_Te_late (h : rl G N x Z C R D) {d i : Nat} (hi : i < N 31 27) : ∃ C', am_ex G (d + 3) K_Te_lateOf [.ref (Z.2 (N 31 4 + 7000)), .ref (Z.2 (i + 6000))] (am_mk x true Z C L R D) = some (some (.int (vl N i)), am_mk x true Z C' L R D) ∧ ∀ k j, ¬ (10000 ≤ k ∧ k < 11000) → C' k j = C k j := by
  obtain ⟨cl, ce, -, ⟨a1, a2, a3, y1, y2, y3, y4, r0, r1, r2, n1, n2, n3, c1, c2, l1, l2⟩, w1, w2, -⟩ := vl_of h hi
  have h6 := h.1.2.2.2.1.2.2
  have h4 := h.1.2.2.2.2.1.2.2
  have h40 := h.1.2.2.1.2.2
  have hn := (h.2.2.2.1 i hi).2.1
  obtain ⟨C', e1, e2⟩ := x_Te_workOff (G := G) (d := d) (L := L) (D := D) (C := C) (a := a1) (codes := cl) y1 ⟨a3, r2, y4⟩ n3 (fun C' => ly_dn8 n1 y2) (fun C' j q1 q2 => by rw [ly_dr8 n1 y2 q2 (by omega), q1 _ _ (by omega), c1 j q2]) (by omega) (by omega) hn (by omega) (by rw [ni_ev_N h hi]; exact w1)
  refine ⟨C', ?_, fun k j q => e2 k j (by omega)⟩
  have g := ly_dg7_0 (C := C) (L := L) (R := R) (D := D) y1
  rw [r0, va_rf_s] at g
  have k7 := ly_dk7 (C := C) (L := L) (R := R) (D := D) y1
  simp only [e_Te_lateOf, r_Te_lateOf_0, r_Te_lateOf_1, r_Te_lateOf_2, r_Te_lateOf_5, r_Te_lateOf_6, r_Te_lateOf_9, i3n_0, i3n_1, l6n_0, l6n_1, am_kf_s, am_km_s, am_kn_s, am_k_v, am_k_0, am_isr_r, am_isr_n, am_isr_v, am_sw_0, am_sw_i, am_sw_l, am_sw_r, am_sw_n, am_sw_v, am_ct_i, am_ct_r, am_ct_n, am_c1_o, am_c1_n, am_c1_i, am_c1_r, am_c1_v, am_mk_1, lc_lt, lc_gt, lc_eq, lc_le, lc_ge, i01_eq, i01_ok, ite_not, true_or, or_true, true_and, and_true, false_or, or_false, false_and, and_false, if_true, if_false, not_true_eq_false, not_false_eq_true, eq_self, Nat.reduceAdd, Nat.reduceLeDiff, Nat.reduceLT, Nat.reduceEqDiff, Nat.reduceMul, Nat.reduceSub, Nat.reduceDiv, Nat.reduceMod, reduceCtorEq, Nat.zero_le, i3_le, i3_lt, i3_eq, i3_eqN, i3_leN, i3_Nle, i3_ltN, i3_NleN, i3_NeqN, i3_Neq, i3_NltN, i3_Nlt, l6_le, l6_lt, l6_eq, l6_leN, l6_Nle, l6_ltN, l6_Nlt, l6_eqN, l6_Neq, g, k7, e1, ↓reduceIte]
theorem x_Te_leave (h : rl G N x Z C R D) {d i : Nat} (hi : i < N 31 27) : ∃ C', am_ex G (d + 3) K_Te_leavesOut [.ref (Z.2 (N 31 4 + 7000)), .ref (Z.2 (i + 6000))] (am_mk x true Z C L R D) = some (some (.int (if ve N i = Int32.ofNat 0 then Int32.ofNat 0 else Int32.ofNat 1)), am_mk x true Z C' L R D) ∧ ∀ k j, ¬ (10000 ≤ k ∧ k < 11000) → C' k j = C k j := by
  obtain ⟨cl, ce, -, ⟨a1, a2, a3, y1, y2, y3, y4, r0, r1, r2, n1, n2, n3, c1, c2, l1, l2⟩, w1, w2, -⟩ := vl_of h hi
  have h6 := h.1.2.2.2.1.2.2
  have h4 := h.1.2.2.2.2.1.2.2
  have h40 := h.1.2.2.1.2.2
  have hn := (h.2.2.2.1 i hi).2.1
  obtain ⟨C', e1, e2⟩ := x_Te_workOff (G := G) (d := d) (L := L) (D := D) (C := C) (a := a2) (codes := ce) y1 ⟨a3, r2, y4⟩ n3 (fun C' => ly_dn9 n2 y3) (fun C' j q1 q2 => by rw [ly_dr9 n2 y3 q2 (by omega), q1 _ _ (by omega), c2 j q2]) (by omega) (by omega) hn (by omega) (by rw [ni_ev_N h hi]; exact w2)
  refine ⟨C', ?_, fun k j q => e2 k j (by omega)⟩
  have g := ly_dg7_1 (C := C) (L := L) (R := R) (D := D) y1
  rw [r1, va_rf_s] at g
  have k7 := ly_dk7 (C := C) (L := L) (R := R) (D := D) y1
  by_cases hv : ve N i = Int32.ofNat 0
  · rw [hv] at e1
    simp only [e_Te_leavesOut, r_Te_leavesOut_0, r_Te_leavesOut_1, r_Te_leavesOut_2, r_Te_leavesOut_5, r_Te_leavesOut_6, r_Te_leavesOut_9, r_Te_leavesOut_12, r_Te_leavesOut_13, r_Te_leavesOut_16, r_Te_leavesOut_17, i3n_0, i3n_1, l6n_0, l6n_1, am_kf_s, am_km_s, am_kn_s, am_k_v, am_k_0, am_isr_r, am_isr_n, am_isr_v, am_sw_0, am_sw_i, am_sw_l, am_sw_r, am_sw_n, am_sw_v, am_ct_i, am_ct_r, am_ct_n, am_c1_o, am_c1_n, am_c1_i, am_c1_r, am_c1_v, am_mk_1, lc_lt, lc_gt, lc_eq, lc_le, lc_ge, i01_eq, i01_ok, ite_not, true_or, or_true, true_and, and_true, false_or, or_false, false_and, and_false, if_true, if_false, not_true_eq_false, not_false_eq_true, eq_self, Nat.reduceAdd, Nat.reduceLeDiff, Nat.reduceLT, Nat.reduceEqDiff, Nat.reduceMul, Nat.reduceSub, Nat.reduceDiv, Nat.reduceMod, reduceCtorEq, Nat.zero_le, i3_le, i3_lt, i3_eq, i3_eqN, i3_leN, i3_Nle, i3_ltN, i3_NleN, i3_NeqN, i3_Neq, i3_NltN, i3_Nlt, l6_le, l6_lt, l6_eq, l6_leN, l6_Nle, l6_ltN, l6_Nlt, l6_eqN, l6_Neq, g, k7, e1, hv, ↓reduceIte]
  · simp only [e_Te_leavesOut, r_Te_leavesOut_0, r_Te_leavesOut_1, r_Te_leavesOut_2, r_Te_leavesOut_5, r_Te_leavesOut_6, r_Te_leavesOut_9, r_Te_leavesOut_12, r_Te_leavesOut_13, r_Te_leavesOut_16, r_Te_leavesOut_17, i3n_0, i3n_1, l6n_0, l6n_1, am_kf_s, am_km_s, am_kn_s, am_k_v, am_k_0, am_isr_r, am_isr_n, am_isr_v, am_sw_0, am_sw_i, am_sw_l, am_sw_r, am_sw_n, am_sw_v, am_ct_i, am_ct_r, am_ct_n, am_c1_o, am_c1_n, am_c1_i, am_c1_r, am_c1_v, am_mk_1, lc_lt, lc_gt, lc_eq, lc_le, lc_ge, i01_eq, i01_ok, ite_not, true_or, or_true, true_and, and_true, false_or, or_false, false_and, and_false, if_true, if_false, not_true_eq_false, not_false_eq_true, eq_self, Nat.reduceAdd, Nat.reduceLeDiff, Nat.reduceLT, Nat.reduceEqDiff, Nat.reduceMul, Nat.reduceSub, Nat.reduceDiv, Nat.reduceMod, reduceCtorEq, Nat.zero_le, i3_le, i3_lt, i3_eq, i3_eqN, i3_leN, i3_Nle, i3_ltN, i3_NleN, i3_NeqN, i3_Neq, i3_NltN, i3_Nlt, l6_le, l6_lt, l6_eq, l6_leN, l6_Nle, l6_ltN, l6_Nlt, l6_eqN, l6_Neq, g, k7, e1, hv, ↓reduceIte]
theorem x_H_ruleNow (h : rl G N x Z C R D) {d : Nat} : am_ex G (d + 1) K_H_ruleNow [.ref x] (am_mk x true Z C L R D) = some (some (.ref (Z.2 (N 31 4 + 7000))), am_mk x true Z C L R D) := by
  have k3 := h.1.2.2.2.1
  have k4 := h.1.2.2.2.2.1
  have hr := (h.2.2.2.2.1 (N 31 4) k4.2.2).1
  have b1 : N 31 4 < 2147483648 := by omega
  have b2 : N 31 3 < 2147483648 := by omega
  have b3 : ¬ N 31 4 < 0 := by omega
  have b4 : ¬ N 31 3 ≤ N 31 4 := by omega
  have b5 : ¬ 6 ≤ N 31 4 := by omega
  have b6 : N 31 4 < 6 := by omega
  simp only [e_H_ruleNow, r_H_ruleNow_0, r_H_ruleNow_1, r_H_ruleNow_4, r_H_ruleNow_7, r_H_ruleNow_8, r_H_ruleNow_11, r_H_ruleNow_12, r_H_ruleNow_15, r_H_ruleNow_18, r_H_ruleNow_19, r_H_ruleNow_22, r_H_ruleNow_23, r_H_ruleNow_26, r_H_ruleNow_27, r_H_ruleNow_30, r_H_ruleNow_31, r_H_ruleNow_34, r_H_ruleNow_35, r_H_ruleNow_38, r_H_ruleNow_39, r_H_ruleNow_42, r_H_ruleNow_43, ly_g0_10, ly_g0_8, ly_g0_3, ly_n4, ly_r4, ly_w4, i3n_0, i3n_1, l6n_0, l6n_1, am_kf_s, am_km_s, am_kn_s, am_k_v, am_k_0, am_isr_r, am_isr_n, am_isr_v, am_sw_0, am_sw_i, am_sw_l, am_sw_r, am_sw_n, am_sw_v, am_ct_i, am_ct_r, am_ct_n, am_c1_o, am_c1_n, am_c1_i, am_c1_r, am_c1_v, am_mk_1, lc_lt, lc_gt, lc_eq, lc_le, lc_ge, i01_eq, i01_ok, ite_not, true_or, or_true, true_and, and_true, false_or, or_false, false_and, and_false, if_true, if_false, not_true_eq_false, not_false_eq_true, eq_self, Nat.reduceAdd, Nat.reduceLeDiff, Nat.reduceLT, Nat.reduceEqDiff, Nat.reduceMul, Nat.reduceSub, Nat.reduceDiv, Nat.reduceMod, reduceCtorEq, Nat.zero_le, i3_le, i3_lt, i3_eq, i3_eqN, i3_leN, i3_Nle, i3_ltN, i3_NleN, i3_NeqN, i3_Neq, i3_NltN, i3_Nlt, l6_le, l6_lt, l6_eq, l6_leN, l6_Nle, l6_ltN, l6_Nlt, l6_eqN, l6_Neq, k3.1, k4.1, b1, b2, b3, b4, b5, b6, hr, va_rf_s, ↓reduceIte]
theorem x_H_isLeftOut (h : rl G N x Z C R D) {d i : Nat} (hi : i < N 31 27) : ∃ C', am_ex G (d + 4) K_H_isLeftOut [.ref x, .ref (Z.2 (i + 6000))] (am_mk x true Z C L R D) = some (some (.int (if ve N i = Int32.ofNat 0 then Int32.ofNat 0 else Int32.ofNat 1)), am_mk x true Z C' L R D) ∧ ∀ k j, ¬ (10000 ≤ k ∧ k < 11000) → C' k j = C k j := by
  obtain ⟨C', e1, e2⟩ := x_Te_leave (L := L) (d := d) h hi
  obtain ⟨-, -, cl, ce, -, htx⟩ := h.2.2.2.2.1 (N 31 4) h.1.2.2.2.2.1.2.2
  obtain ⟨-, -, -, y1, -⟩ := htx
  have k7 := ly_dk7 (C := C) (L := L) (R := R) (D := D) y1
  refine ⟨C', ?_, e2⟩
  by_cases hv : ve N i = Int32.ofNat 0
  · rw [if_pos hv] at e1 ⊢
    simp only [e_H_isLeftOut, r_H_isLeftOut_0, r_H_isLeftOut_1, r_H_isLeftOut_4, r_H_isLeftOut_4_k, r_H_isLeftOut_5, r_H_isLeftOut_6, r_H_isLeftOut_9, r_H_isLeftOut_10, r_H_isLeftOut_11, r_H_isLeftOut_14, r_H_isLeftOut_17, r_H_isLeftOut_18, r_H_isLeftOut_21, r_H_isLeftOut_22, ly_k0, i3n_0, i3n_1, l6n_0, l6n_1, am_kf_s, am_km_s, am_kn_s, am_k_v, am_k_0, am_isr_r, am_isr_n, am_isr_v, am_sw_0, am_sw_i, am_sw_l, am_sw_r, am_sw_n, am_sw_v, am_ct_i, am_ct_r, am_ct_n, am_c1_o, am_c1_n, am_c1_i, am_c1_r, am_c1_v, am_mk_1, lc_lt, lc_gt, lc_eq, lc_le, lc_ge, i01_eq, i01_ok, ite_not, true_or, or_true, true_and, and_true, false_or, or_false, false_and, and_false, if_true, if_false, not_true_eq_false, not_false_eq_true, eq_self, Nat.reduceAdd, Nat.reduceLeDiff, Nat.reduceLT, Nat.reduceEqDiff, Nat.reduceMul, Nat.reduceSub, Nat.reduceDiv, Nat.reduceMod, reduceCtorEq, Nat.zero_le, i3_le, i3_lt, i3_eq, i3_eqN, i3_leN, i3_Nle, i3_ltN, i3_NleN, i3_NeqN, i3_Neq, i3_NltN, i3_Nlt, l6_le, l6_lt, l6_eq, l6_leN, l6_Nle, l6_ltN, l6_Nlt, l6_eqN, l6_Neq, x_H_ruleNow h, k7, e1, ↓reduceIte]
  · rw [if_neg hv] at e1 ⊢
    simp only [e_H_isLeftOut, r_H_isLeftOut_0, r_H_isLeftOut_1, r_H_isLeftOut_4, r_H_isLeftOut_4_k, r_H_isLeftOut_5, r_H_isLeftOut_6, r_H_isLeftOut_9, r_H_isLeftOut_10, r_H_isLeftOut_11, r_H_isLeftOut_14, r_H_isLeftOut_17, r_H_isLeftOut_18, r_H_isLeftOut_21, r_H_isLeftOut_22, ly_k0, i3n_0, i3n_1, l6n_0, l6n_1, am_kf_s, am_km_s, am_kn_s, am_k_v, am_k_0, am_isr_r, am_isr_n, am_isr_v, am_sw_0, am_sw_i, am_sw_l, am_sw_r, am_sw_n, am_sw_v, am_ct_i, am_ct_r, am_ct_n, am_c1_o, am_c1_n, am_c1_i, am_c1_r, am_c1_v, am_mk_1, lc_lt, lc_gt, lc_eq, lc_le, lc_ge, i01_eq, i01_ok, ite_not, true_or, or_true, true_and, and_true, false_or, or_false, false_and, and_false, if_true, if_false, not_true_eq_false, not_false_eq_true, eq_self, Nat.reduceAdd, Nat.reduceLeDiff, Nat.reduceLT, Nat.reduceEqDiff, Nat.reduceMul, Nat.reduceSub, Nat.reduceDiv, Nat.reduceMod, reduceCtorEq, Nat.zero_le, i3_le, i3_lt, i3_eq, i3_eqN, i3_leN, i3_Nle, i3_ltN, i3_NleN, i3_NeqN, i3_Neq, i3_NltN, i3_Nlt, l6_le, l6_lt, l6_eq, l6_leN, l6_Nle, l6_ltN, l6_Nlt, l6_eqN, l6_Neq, x_H_ruleNow h, k7, e1, ↓reduceIte]
theorem x_H_lateOf (h : rl G N x Z C R D) {d i : Nat} (hi : i < N 31 27) : ∃ C', am_ex G (d + 4) K_H_lateOf [.ref x, .ref (Z.2 (i + 6000))] (am_mk x true Z C L R D) = some (some (.int (Int32.ofNat (mL N i))), am_mk x true Z C' L R D) ∧ ∀ k j, ¬ (10000 ≤ k ∧ k < 11000) → C' k j = C k j := by
  obtain ⟨C', e1, e2⟩ := x_Te_late (L := L) (d := d) h hi
  obtain ⟨-, -, cl, ce, -, htx⟩ := h.2.2.2.2.1 (N 31 4) h.1.2.2.2.2.1.2.2
  obtain ⟨-, -, -, y1, -⟩ := htx
  have h40 := h.1.2.2.1.2.2
  have k7 := ly_dk7 (C := C) (L := L) (R := R) (D := D) y1
  obtain ⟨-, n2, -, a4, -⟩ := h.2.2.2.1 i hi
  have g0 := ly_dg6_0 (C := C') (L := L) (R := R) (D := D) n2
  rw [e2 _ _ (by omega), a4.1] at g0
  refine ⟨C', ?_, e2⟩
  have hk := a4.2.2
  have hc := cl9_le (vl N i)
  have e3 := mL3 hc
  unfold mL
  generalize N 43 i = k at g0 hk
  have kk : k = 0 ∨ k = 1 ∨ k = 2 ∨ k = 3 ∨ k = 4 ∨ k = 5 := by omega
  rcases kk with rfl | rfl | rfl | rfl | rfl | rfl <;> simp only [e_H_lateOf, r_H_lateOf_0, r_H_lateOf_1, r_H_lateOf_4, r_H_lateOf_4_k, r_H_lateOf_5, r_H_lateOf_6, r_H_lateOf_9, r_H_lateOf_10, r_H_lateOf_13, r_H_lateOf_14, r_H_lateOf_17, r_H_lateOf_18, r_H_lateOf_19, r_H_lateOf_22, r_H_lateOf_25, r_H_lateOf_28, r_H_lateOf_28_k, r_H_lateOf_29, r_H_lateOf_30, r_H_lateOf_33, r_H_lateOf_68, r_H_lateOf_69, r_H_lateOf_70, r_H_lateOf_71, r_H_lateOf_72, r_H_lateOf_73, r_H_lateOf_74, r_H_lateOf_75, r_H_lateOf_76, r_H_lateOf_77, r_H_lateOf_78, r_H_lateOf_81, r_H_lateOf_82, r_H_lateOf_83, r_H_lateOf_84, r_H_lateOf_85, r_H_lateOf_86, r_H_lateOf_87, ly_k0, i3n_0, i3n_1, i3n_2, i3n_3, i3n_4, i3n_5, i3n_999, l6n_0, l6n_1, am_kf_s, am_km_s, am_kn_s, am_k_v, am_k_0, am_isr_r, am_isr_n, am_isr_v, am_sw_0, am_sw_i, am_sw_l, am_sw_r, am_sw_n, am_sw_v, am_ct_i, am_ct_r, am_ct_n, am_c1_o, am_c1_n, am_c1_i, am_c1_r, am_c1_v, am_mk_1, lc_lt, lc_gt, lc_eq, lc_le, lc_ge, i01_eq, i01_ok, ite_not, true_or, or_true, true_and, and_true, false_or, or_false, false_and, and_false, if_true, if_false, not_true_eq_false, not_false_eq_true, eq_self, Nat.reduceAdd, Nat.reduceLeDiff, Nat.reduceLT, Nat.reduceEqDiff, Nat.reduceMul, Nat.reduceSub, Nat.reduceDiv, Nat.reduceMod, reduceCtorEq, Nat.zero_le, i3_le, i3_lt, i3_eq, i3_eqN, i3_leN, i3_Nle, i3_ltN, i3_NleN, i3_NeqN, i3_Neq, i3_NltN, i3_Nlt, l6_le, l6_lt, l6_eq, l6_leN, l6_Nle, l6_ltN, l6_Nlt, l6_eqN, l6_Neq, x_H_ruleNow h, k7, e1, g0, cl9_H, e3, i3_add, i3_mul, ↓reduceIte, Nat.mul_comm 2]
theorem x_M_isLeft (h : rl G N x Z C R D) {d i : Nat} (hi : i < N 31 27) : ∃ C' L', am_ex G (d + 43) K_M_isLeft [.ref (x + 31), .int (Int32.ofNat i)] (am_mk x true Z C L R D) = some (some (.int (if ve N i = Int32.ofNat 0 then Int32.ofNat 0 else Int32.ofNat 1)), am_mk x true Z C' L' R D) ∧ mr_f3 C C' ∧ mr_fl L L' := by
  obtain ⟨-, -, -, -, -, -, hr⟩ := vl_of h hi
  obtain ⟨C', L', e1, e2, e3⟩ := hr d (Int32.ofNat 1) L
  have k4 := h.1.2.2.2.2.1
  rw [if_neg (by decide)] at e1
  refine ⟨C', L', ?_, e2, e3⟩
  by_cases hv : ve N i = Int32.ofNat 0
  · rw [hv] at e1
    simp only [e_M_isLeft, r_M_isLeft_0, r_M_isLeft_1, r_M_isLeft_2, r_M_isLeft_5, r_M_isLeft_6, r_M_isLeft_7, r_M_isLeft_10, r_M_isLeft_13, r_M_isLeft_14, r_M_isLeft_17, r_M_isLeft_18, ly_g31_4, ly_k31, i3n_0, i3n_1, l6n_0, l6n_1, am_kf_s, am_km_s, am_kn_s, am_k_v, am_k_0, am_isr_r, am_isr_n, am_isr_v, am_sw_0, am_sw_i, am_sw_l, am_sw_r, am_sw_n, am_sw_v, am_ct_i, am_ct_r, am_ct_n, am_c1_o, am_c1_n, am_c1_i, am_c1_r, am_c1_v, am_mk_1, lc_lt, lc_gt, lc_eq, lc_le, lc_ge, i01_eq, i01_ok, ite_not, true_or, or_true, true_and, and_true, false_or, or_false, false_and, and_false, if_true, if_false, not_true_eq_false, not_false_eq_true, eq_self, Nat.reduceAdd, Nat.reduceLeDiff, Nat.reduceLT, Nat.reduceEqDiff, Nat.reduceMul, Nat.reduceSub, Nat.reduceDiv, Nat.reduceMod, reduceCtorEq, Nat.zero_le, i3_le, i3_lt, i3_eq, i3_eqN, i3_leN, i3_Nle, i3_ltN, i3_NleN, i3_NeqN, i3_Neq, i3_NltN, i3_Nlt, l6_le, l6_lt, l6_eq, l6_leN, l6_Nle, l6_ltN, l6_Nlt, l6_eqN, l6_Neq, k4.2.1, e1, hv, ↓reduceIte]
  · simp only [e_M_isLeft, r_M_isLeft_0, r_M_isLeft_1, r_M_isLeft_2, r_M_isLeft_5, r_M_isLeft_6, r_M_isLeft_7, r_M_isLeft_10, r_M_isLeft_13, r_M_isLeft_14, r_M_isLeft_17, r_M_isLeft_18, ly_g31_4, ly_k31, i3n_0, i3n_1, l6n_0, l6n_1, am_kf_s, am_km_s, am_kn_s, am_k_v, am_k_0, am_isr_r, am_isr_n, am_isr_v, am_sw_0, am_sw_i, am_sw_l, am_sw_r, am_sw_n, am_sw_v, am_ct_i, am_ct_r, am_ct_n, am_c1_o, am_c1_n, am_c1_i, am_c1_r, am_c1_v, am_mk_1, lc_lt, lc_gt, lc_eq, lc_le, lc_ge, i01_eq, i01_ok, ite_not, true_or, or_true, true_and, and_true, false_or, or_false, false_and, and_false, if_true, if_false, not_true_eq_false, not_false_eq_true, eq_self, Nat.reduceAdd, Nat.reduceLeDiff, Nat.reduceLT, Nat.reduceEqDiff, Nat.reduceMul, Nat.reduceSub, Nat.reduceDiv, Nat.reduceMod, reduceCtorEq, Nat.zero_le, i3_le, i3_lt, i3_eq, i3_eqN, i3_leN, i3_Nle, i3_ltN, i3_NleN, i3_NeqN, i3_Neq, i3_NltN, i3_Nlt, l6_le, l6_lt, l6_eq, l6_leN, l6_Nle, l6_ltN, l6_Nlt, l6_eqN, l6_Neq, k4.2.1, e1, hv, ↓reduceIte]
theorem x_M_lateOf (h : rl G N x Z C R D) {d i : Nat} (hi : i < N 31 27) : ∃ C' L', am_ex G (d + 43) K_M_lateOf [.ref (x + 31), .int (Int32.ofNat i)] (am_mk x true Z C L R D) = some (some (.int (Int32.ofNat (mL N i))), am_mk x true Z C' L' R D) ∧ mr_f3 C C' ∧ mr_fl L L' := by
  obtain ⟨-, -, -, -, -, -, hr⟩ := vl_of h hi
  obtain ⟨C', L', e1, e2, e3⟩ := hr d (Int32.ofNat 0) L
  have k4 := h.1.2.2.2.2.1
  have h40 := h.1.2.2.1.2.2
  have i40 : i < 40 := by omega
  obtain ⟨-, n2, -, a4, -⟩ := h.2.2.2.1 i hi
  have g0 : C' 43 i = Int32.ofNat (N 43 i) := (e2 43 i (by omega)).trans a4.2.1
  rw [if_pos rfl] at e1
  refine ⟨C', L', ?_, e2, e3⟩
  have hk := a4.2.2
  unfold mL
  generalize N 43 i = k at g0 hk
  have kk : k = 0 ∨ k = 1 ∨ k = 2 ∨ k = 3 ∨ k = 4 ∨ k = 5 := by omega
  generalize vl N i = v at e1
  rcases cl9_cases v with ⟨h1, e⟩ | ⟨h1, h2, e⟩ | ⟨n, hn, rfl, e⟩
  · rw [e]
    have h5 : ¬ Int32.ofNat 0 ≤ v := Int32.not_le.mpr h1
    rcases kk with rfl | rfl | rfl | rfl | rfl | rfl <;> simp only [e_M_lateOf, r_M_lateOf_0, r_M_lateOf_1, r_M_lateOf_2, r_M_lateOf_5, r_M_lateOf_6, r_M_lateOf_7, r_M_lateOf_10, r_M_lateOf_10_k, r_M_lateOf_11, r_M_lateOf_12, r_M_lateOf_15, r_M_lateOf_16, r_M_lateOf_19, r_M_lateOf_20, r_M_lateOf_23, r_M_lateOf_26, r_M_lateOf_29, r_M_lateOf_32, r_M_lateOf_33, r_M_lateOf_33_k, r_M_lateOf_34, r_M_lateOf_35, r_M_lateOf_38, r_M_lateOf_39, r_M_lateOf_40, r_M_lateOf_76, r_M_lateOf_77, r_M_lateOf_78, r_M_lateOf_79, r_M_lateOf_80, r_M_lateOf_81, r_M_lateOf_82, r_M_lateOf_85, r_M_lateOf_86, r_M_lateOf_87, r_M_lateOf_88, r_M_lateOf_91, r_M_lateOf_92, r_M_lateOf_93, r_M_lateOf_94, r_M_lateOf_95, r_M_lateOf_96, r_M_lateOf_97, r_M_lateOf_98, ly_g31_4, ly_k31, ly_g31_21, ly_n43, ly_r43, ly_w43, i3n_0, i3n_1, i3n_2, i3n_3, i3n_4, i3n_5, i3n_999, l6n_0, l6n_1, am_kf_s, am_km_s, am_kn_s, am_k_v, am_k_0, am_isr_r, am_isr_n, am_isr_v, am_sw_0, am_sw_i, am_sw_l, am_sw_r, am_sw_n, am_sw_v, am_ct_i, am_ct_r, am_ct_n, am_c1_o, am_c1_n, am_c1_i, am_c1_r, am_c1_v, am_mk_1, lc_lt, lc_gt, lc_eq, lc_le, lc_ge, i01_eq, i01_ok, ite_not, true_or, or_true, true_and, and_true, false_or, or_false, false_and, and_false, if_true, if_false, not_true_eq_false, not_false_eq_true, eq_self, Nat.reduceAdd, Nat.reduceLeDiff, Nat.reduceLT, Nat.reduceEqDiff, Nat.reduceMul, Nat.reduceSub, Nat.reduceDiv, Nat.reduceMod, reduceCtorEq, Nat.zero_le, i3_le, i3_lt, i3_eq, i3_eqN, i3_leN, i3_Nle, i3_ltN, i3_NleN, i3_NeqN, i3_Neq, i3_NltN, i3_Nlt, l6_le, l6_lt, l6_eq, l6_leN, l6_Nle, l6_ltN, l6_Nlt, l6_eqN, l6_Neq, k4.2.1, e1, h1, h5, i40, g0, i3_add, i3_mul, ↓reduceIte]
  · have h3 : ¬ Int32.ofNat 0 ≤ v → False := fun q => h2 (Int32.not_le.mp q)
    have h4 : ¬ v ≤ Int32.ofNat 999 := Int32.not_le.mpr h1
    have h5 : Int32.ofNat 0 ≤ v := Int32.not_lt.mp h2
    rw [e]
    have e999 : Int32.ofNat 999 - Int32.ofNat 3 = Int32.ofNat 996 := by decide
    rcases kk with rfl | rfl | rfl | rfl | rfl | rfl <;> simp only [e_M_lateOf, r_M_lateOf_0, r_M_lateOf_1, r_M_lateOf_2, r_M_lateOf_5, r_M_lateOf_6, r_M_lateOf_7, r_M_lateOf_10, r_M_lateOf_10_k, r_M_lateOf_11, r_M_lateOf_12, r_M_lateOf_15, r_M_lateOf_16, r_M_lateOf_19, r_M_lateOf_20, r_M_lateOf_23, r_M_lateOf_26, r_M_lateOf_29, r_M_lateOf_32, r_M_lateOf_33, r_M_lateOf_33_k, r_M_lateOf_34, r_M_lateOf_35, r_M_lateOf_38, r_M_lateOf_39, r_M_lateOf_40, r_M_lateOf_76, r_M_lateOf_77, r_M_lateOf_78, r_M_lateOf_79, r_M_lateOf_80, r_M_lateOf_81, r_M_lateOf_82, r_M_lateOf_85, r_M_lateOf_86, r_M_lateOf_87, r_M_lateOf_88, r_M_lateOf_91, r_M_lateOf_92, r_M_lateOf_93, r_M_lateOf_94, r_M_lateOf_95, r_M_lateOf_96, r_M_lateOf_97, r_M_lateOf_98, ly_g31_4, ly_k31, ly_g31_21, ly_n43, ly_r43, ly_w43, i3n_0, i3n_1, i3n_2, i3n_3, i3n_4, i3n_5, i3n_999, l6n_0, l6n_1, am_kf_s, am_km_s, am_kn_s, am_k_v, am_k_0, am_isr_r, am_isr_n, am_isr_v, am_sw_0, am_sw_i, am_sw_l, am_sw_r, am_sw_n, am_sw_v, am_ct_i, am_ct_r, am_ct_n, am_c1_o, am_c1_n, am_c1_i, am_c1_r, am_c1_v, am_mk_1, lc_lt, lc_gt, lc_eq, lc_le, lc_ge, i01_eq, i01_ok, ite_not, true_or, or_true, true_and, and_true, false_or, or_false, false_and, and_false, if_true, if_false, not_true_eq_false, not_false_eq_true, eq_self, Nat.reduceAdd, Nat.reduceLeDiff, Nat.reduceLT, Nat.reduceEqDiff, Nat.reduceMul, Nat.reduceSub, Nat.reduceDiv, Nat.reduceMod, reduceCtorEq, Nat.zero_le, i3_le, i3_lt, i3_eq, i3_eqN, i3_leN, i3_Nle, i3_ltN, i3_NleN, i3_NeqN, i3_Neq, i3_NltN, i3_Nlt, l6_le, l6_lt, l6_eq, l6_leN, l6_Nle, l6_ltN, l6_Nlt, l6_eqN, l6_Neq, k4.2.1, e1, h2, h4, h5, i40, g0, i3_add, i3_mul, e999, ↓reduceIte]
  · rw [e]
    have n1 : n < 2147483648 := by omega
    have n2 : ¬ n < 0 := by omega
    by_cases h3 : n ≤ 3
    · have : n - 3 = 0 := by omega
      rcases kk with rfl | rfl | rfl | rfl | rfl | rfl <;> simp only [e_M_lateOf, r_M_lateOf_0, r_M_lateOf_1, r_M_lateOf_2, r_M_lateOf_5, r_M_lateOf_6, r_M_lateOf_7, r_M_lateOf_10, r_M_lateOf_10_k, r_M_lateOf_11, r_M_lateOf_12, r_M_lateOf_15, r_M_lateOf_16, r_M_lateOf_19, r_M_lateOf_20, r_M_lateOf_23, r_M_lateOf_26, r_M_lateOf_29, r_M_lateOf_32, r_M_lateOf_33, r_M_lateOf_33_k, r_M_lateOf_34, r_M_lateOf_35, r_M_lateOf_38, r_M_lateOf_39, r_M_lateOf_40, r_M_lateOf_76, r_M_lateOf_77, r_M_lateOf_78, r_M_lateOf_79, r_M_lateOf_80, r_M_lateOf_81, r_M_lateOf_82, r_M_lateOf_85, r_M_lateOf_86, r_M_lateOf_87, r_M_lateOf_88, r_M_lateOf_91, r_M_lateOf_92, r_M_lateOf_93, r_M_lateOf_94, r_M_lateOf_95, r_M_lateOf_96, r_M_lateOf_97, r_M_lateOf_98, ly_g31_4, ly_k31, ly_g31_21, ly_n43, ly_r43, ly_w43, i3n_0, i3n_1, i3n_2, i3n_3, i3n_4, i3n_5, i3n_999, l6n_0, l6n_1, am_kf_s, am_km_s, am_kn_s, am_k_v, am_k_0, am_isr_r, am_isr_n, am_isr_v, am_sw_0, am_sw_i, am_sw_l, am_sw_r, am_sw_n, am_sw_v, am_ct_i, am_ct_r, am_ct_n, am_c1_o, am_c1_n, am_c1_i, am_c1_r, am_c1_v, am_mk_1, lc_lt, lc_gt, lc_eq, lc_le, lc_ge, i01_eq, i01_ok, ite_not, true_or, or_true, true_and, and_true, false_or, or_false, false_and, and_false, if_true, if_false, not_true_eq_false, not_false_eq_true, eq_self, Nat.reduceAdd, Nat.reduceLeDiff, Nat.reduceLT, Nat.reduceEqDiff, Nat.reduceMul, Nat.reduceSub, Nat.reduceDiv, Nat.reduceMod, reduceCtorEq, Nat.zero_le, i3_le, i3_lt, i3_eq, i3_eqN, i3_leN, i3_Nle, i3_ltN, i3_NleN, i3_NeqN, i3_Neq, i3_NltN, i3_Nlt, l6_le, l6_lt, l6_eq, l6_leN, l6_Nle, l6_ltN, l6_Nlt, l6_eqN, l6_Neq, k4.2.1, e1, n1, n2, hn, h3, this, i40, g0, i3_add, i3_mul, ↓reduceIte]
    · have e3 : Int32.ofNat n - Int32.ofNat 3 = Int32.ofNat (n - 3) := i3_sub (by omega)
      rcases kk with rfl | rfl | rfl | rfl | rfl | rfl <;> simp only [e_M_lateOf, r_M_lateOf_0, r_M_lateOf_1, r_M_lateOf_2, r_M_lateOf_5, r_M_lateOf_6, r_M_lateOf_7, r_M_lateOf_10, r_M_lateOf_10_k, r_M_lateOf_11, r_M_lateOf_12, r_M_lateOf_15, r_M_lateOf_16, r_M_lateOf_19, r_M_lateOf_20, r_M_lateOf_23, r_M_lateOf_26, r_M_lateOf_29, r_M_lateOf_32, r_M_lateOf_33, r_M_lateOf_33_k, r_M_lateOf_34, r_M_lateOf_35, r_M_lateOf_38, r_M_lateOf_39, r_M_lateOf_40, r_M_lateOf_76, r_M_lateOf_77, r_M_lateOf_78, r_M_lateOf_79, r_M_lateOf_80, r_M_lateOf_81, r_M_lateOf_82, r_M_lateOf_85, r_M_lateOf_86, r_M_lateOf_87, r_M_lateOf_88, r_M_lateOf_91, r_M_lateOf_92, r_M_lateOf_93, r_M_lateOf_94, r_M_lateOf_95, r_M_lateOf_96, r_M_lateOf_97, r_M_lateOf_98, ly_g31_4, ly_k31, ly_g31_21, ly_n43, ly_r43, ly_w43, i3n_0, i3n_1, i3n_2, i3n_3, i3n_4, i3n_5, i3n_999, l6n_0, l6n_1, am_kf_s, am_km_s, am_kn_s, am_k_v, am_k_0, am_isr_r, am_isr_n, am_isr_v, am_sw_0, am_sw_i, am_sw_l, am_sw_r, am_sw_n, am_sw_v, am_ct_i, am_ct_r, am_ct_n, am_c1_o, am_c1_n, am_c1_i, am_c1_r, am_c1_v, am_mk_1, lc_lt, lc_gt, lc_eq, lc_le, lc_ge, i01_eq, i01_ok, ite_not, true_or, or_true, true_and, and_true, false_or, or_false, false_and, and_false, if_true, if_false, not_true_eq_false, not_false_eq_true, eq_self, Nat.reduceAdd, Nat.reduceLeDiff, Nat.reduceLT, Nat.reduceEqDiff, Nat.reduceMul, Nat.reduceSub, Nat.reduceDiv, Nat.reduceMod, reduceCtorEq, Nat.zero_le, i3_le, i3_lt, i3_eq, i3_eqN, i3_leN, i3_Nle, i3_ltN, i3_NleN, i3_NeqN, i3_Neq, i3_NltN, i3_Nlt, l6_le, l6_lt, l6_eq, l6_leN, l6_Nle, l6_ltN, l6_Nlt, l6_eqN, l6_Neq, k4.2.1, e1, n1, n2, hn, h3, e3, i40, g0, i3_add, i3_mul, ↓reduceIte]
end
