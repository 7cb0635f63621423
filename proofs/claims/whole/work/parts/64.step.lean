/-! the class's step: the next TOKEN -/
def tp_ct (t : Nat) : Int32 := if t = 256 then -Int32.ofNat 1 else if t = 257 then -Int32.ofNat 2 else if t = 258 then -Int32.ofNat 3 else if t = 259 then -Int32.ofNat 4 else if 300 ≤ t then Int32.ofNat (t - 300) else Int32.ofNat t
/-- the class stands at the TOKEN that begins at s -/
def tp_at (b : Nat → Nat) (n s : Nat) (C : Nat → Nat → Int32) : Prop := tp_B b n C ∧ s ≤ n ∧ C 7 2 = Int32.ofNat (pa_te b n s) ∧ C 7 3 = tp_ct (pa_tk b n s) ∧ C 7 4 = Int32.ofNat s ∧ (pa_tk b n s = 258 ∨ pa_tk b n s = 259 → C 7 5 = Int32.ofNat (pa_tv b n s))
/-- but for what a step changes -/
def tp_fr (C C' : Nat → Nat → Int32) : Prop := ∀ k j, ¬ (k = 7 ∧ (j = 2 ∨ j = 3 ∨ j = 4 ∨ j = 5)) → C' k j = C k j
theorem pa_sk_le {b : Nat → Nat} {n p : Nat} (h : p ≤ n) : p ≤ pa_sk b n p ∧ pa_sk b n p ≤ n := by
  obtain ⟨h1, h2, -, -⟩ := pa_end_spec (P := pa_bl b) h
  exact ⟨h1, h2⟩
theorem pa_te_le {b : Nat → Nat} {n s : Nat} (h : s ≤ n) : s ≤ pa_te b n s ∧ pa_te b n s ≤ n ∧ (s < n → s < pa_te b n s) := by
  unfold pa_te
  by_cases h1 : n ≤ s
  · rw [if_pos h1]; exact ⟨Nat.le_refl _, h, fun e => by omega⟩
  · rw [if_neg h1]
    by_cases h2 : pa_lt b s = true
    · rw [if_pos h2, pa_end_y (by omega) h2]
      obtain ⟨g1, g2, -, -⟩ := pa_end_spec (P := pa_lt b) (p := s + 1) (n := n) (by omega)
      exact ⟨by omega, g2, fun _ => by omega⟩
    · rw [if_neg h2]
      by_cases h3 : pa_dg b s = true
      · rw [if_pos h3, pa_end_y (by omega) h3]
        obtain ⟨g1, g2, -, -⟩ := pa_end_spec (P := pa_dg b) (p := s + 1) (n := n) (by omega)
        exact ⟨by omega, g2, fun _ => by omega⟩
      · rw [if_neg h3]
        exact ⟨by omega, by omega, fun _ => by omega⟩
theorem pa_nx_le {b : Nat → Nat} {n s : Nat} (h : s ≤ n) : s ≤ pa_nx b n s ∧ pa_nx b n s ≤ n ∧ (s < n → s < pa_nx b n s) := by
  obtain ⟨h1, h2, h3⟩ := pa_te_le (b := b) h
  obtain ⟨h4, h5⟩ := pa_sk_le (b := b) h2
  refine ⟨?_, h5, fun e => ?_⟩
  · exact Nat.le_trans h1 h4
  · exact Nat.lt_of_lt_of_le (h3 e) h4
/-- indexOf, in a row of bytes -/
def tp_ix (f : Nat → Int32) (c : Int32) : Nat → Nat → Int32
  | 0, _ => -Int32.ofNat 1
  | k + 1, i => if f i = c then Int32.ofNat i else tp_ix f c k (i + 1)
theorem tp_sign : ∀ c : Fin 256, (tp_ix (am_bf 12) (Int32.ofNat c.val).toInt8.toInt32 8 0 < Int32.ofNat 0) = ¬ pa_sign c.val = true := by
  intro c
  rw [eq_iff_iff]
  revert c
  decide +kernel
theorem tp_chr : ∀ c : Fin 256, ((Int32.ofNat c.val).toUInt32 % 65536).toInt32 = Int32.ofNat c.val := by decide +kernel
section
variable {G : Nat → Value} {d x : Nat} {bb : Bool} {Z : ly_Z} {C : Nat → Nat → Int32} {L : Nat → Nat → Int64} {R : Nat → Nat → Option Nat} {D : am_M} {b : Nat → Nat} {n : Nat}
theorem l_Jl_indexOfChar {M : am_M} {v m : Nat} {f : Nat → Int32} (hv : M.2 v = some (.inl (3, m, .inl f))) (hm : m < 2147483648) {l1 l2 : Option Value} {c : Int32} : ∀ k i : Nat, m - i = k → i ≤ m → am_run G d K_Jl_indexOfChar (7, [some (.ref v), l1, l2, some (.int (Int32.ofNat m)), some (.int c), some (.int (Int32.ofNat i))], [], M) = some (some (.int (tp_ix f c k i)), M) := by
  intro k
  induction k with
  | zero =>
    intro i hk hi
    have e1 : m ≤ i := by omega
    have e2 : i < 2147483648 := by omega
    rw [r_Jl_indexOfChar_7]
    simp only [r_Jl_indexOfChar_9, r_Jl_indexOfChar_10, r_Jl_indexOfChar_13, r_Jl_indexOfChar_14, r_Jl_indexOfChar_16, r_Jl_indexOfChar_17, r_Jl_indexOfChar_19, r_Jl_indexOfChar_22, r_Jl_indexOfChar_24, r_Jl_indexOfChar_25, r_Jl_indexOfChar_25_k, r_Jl_indexOfChar_28, r_Jl_indexOfChar_31, r_Jl_indexOfChar_32, i3n_0, i3n_1, l6n_0, l6n_1, am_kf_s, am_km_s, am_kn_s, am_k_v, am_k_0, am_isr_r, am_isr_n, am_isr_v, am_sw_0, am_sw_i, am_sw_l, am_sw_r, am_sw_n, am_sw_v, am_ct_i, am_ct_r, am_ct_n, am_c1_o, am_c1_n, am_c1_i, am_c1_r, am_c1_v, am_mk_1, lc_lt, lc_gt, lc_eq, lc_le, lc_ge, i01_eq, i01_ok, ite_not, true_or, or_true, true_and, and_true, false_or, or_false, false_and, and_false, if_true, if_false, not_true_eq_false, not_false_eq_true, eq_self, Nat.reduceAdd, Nat.reduceLeDiff, Nat.reduceLT, Nat.reduceEqDiff, Nat.reduceMul, Nat.reduceSub, Nat.reduceDiv, Nat.reduceMod, reduceCtorEq, Nat.zero_le, i3_le, i3_lt, i3_eq, i3_eqN, i3_leN, i3_Nle, i3_ltN, i3_NleN, i3_NeqN, i3_Neq, i3_NltN, i3_Nlt, l6_le, l6_lt, l6_eq, l6_leN, l6_Nle, l6_ltN, l6_Nlt, l6_eqN, l6_Neq, e1, e2, hm, tp_ix]
  | succ k ih =>
    intro i hk hi
    have e1 : ¬ m ≤ i := by omega
    have e2 : i < 2147483648 := by omega
    have e3 := am_ag_b hv (k := i) (by omega) hm
    rw [r_Jl_indexOfChar_7, tp_ix]
    by_cases hf : f i = c
    · simp only [r_Jl_indexOfChar_9, r_Jl_indexOfChar_10, r_Jl_indexOfChar_13, r_Jl_indexOfChar_14, r_Jl_indexOfChar_16, r_Jl_indexOfChar_17, r_Jl_indexOfChar_19, r_Jl_indexOfChar_22, r_Jl_indexOfChar_24, r_Jl_indexOfChar_25, r_Jl_indexOfChar_25_k, r_Jl_indexOfChar_28, r_Jl_indexOfChar_31, r_Jl_indexOfChar_32, i3n_0, i3n_1, l6n_0, l6n_1, am_kf_s, am_km_s, am_kn_s, am_k_v, am_k_0, am_isr_r, am_isr_n, am_isr_v, am_sw_0, am_sw_i, am_sw_l, am_sw_r, am_sw_n, am_sw_v, am_ct_i, am_ct_r, am_ct_n, am_c1_o, am_c1_n, am_c1_i, am_c1_r, am_c1_v, am_mk_1, lc_lt, lc_gt, lc_eq, lc_le, lc_ge, i01_eq, i01_ok, ite_not, true_or, or_true, true_and, and_true, false_or, or_false, false_and, and_false, if_true, if_false, not_true_eq_false, not_false_eq_true, eq_self, Nat.reduceAdd, Nat.reduceLeDiff, Nat.reduceLT, Nat.reduceEqDiff, Nat.reduceMul, Nat.reduceSub, Nat.reduceDiv, Nat.reduceMod, reduceCtorEq, Nat.zero_le, i3_le, i3_lt, i3_eq, i3_eqN, i3_leN, i3_Nle, i3_ltN, i3_NleN, i3_NeqN, i3_Neq, i3_NltN, i3_Nlt, l6_le, l6_lt, l6_eq, l6_leN, l6_Nle, l6_ltN, l6_Nlt, l6_eqN, l6_Neq, e1, e2, e3, hm, hf]
    · simp only [r_Jl_indexOfChar_9, r_Jl_indexOfChar_10, r_Jl_indexOfChar_13, r_Jl_indexOfChar_14, r_Jl_indexOfChar_16, r_Jl_indexOfChar_17, r_Jl_indexOfChar_19, r_Jl_indexOfChar_22, r_Jl_indexOfChar_24, r_Jl_indexOfChar_25, r_Jl_indexOfChar_25_k, r_Jl_indexOfChar_28, r_Jl_indexOfChar_31, r_Jl_indexOfChar_32, i3n_0, i3n_1, l6n_0, l6n_1, am_kf_s, am_km_s, am_kn_s, am_k_v, am_k_0, am_isr_r, am_isr_n, am_isr_v, am_sw_0, am_sw_i, am_sw_l, am_sw_r, am_sw_n, am_sw_v, am_ct_i, am_ct_r, am_ct_n, am_c1_o, am_c1_n, am_c1_i, am_c1_r, am_c1_v, am_mk_1, lc_lt, lc_gt, lc_eq, lc_le, lc_ge, i01_eq, i01_ok, ite_not, true_or, or_true, true_and, and_true, false_or, or_false, false_and, and_false, if_true, if_false, not_true_eq_false, not_false_eq_true, eq_self, Nat.reduceAdd, Nat.reduceLeDiff, Nat.reduceLT, Nat.reduceEqDiff, Nat.reduceMul, Nat.reduceSub, Nat.reduceDiv, Nat.reduceMod, reduceCtorEq, Nat.zero_le, i3_le, i3_lt, i3_eq, i3_eqN, i3_leN, i3_Nle, i3_ltN, i3_NleN, i3_NeqN, i3_Neq, i3_NltN, i3_Nlt, l6_le, l6_lt, l6_eq, l6_leN, l6_Nle, l6_ltN, l6_Nlt, l6_eqN, l6_Neq, e1, e2, e3, hm, hf, i3_add]
      rw [ih (i + 1) (by omega) (by omega)]
theorem x_Js_indexOf {M : am_M} {q v m : Nat} {f : Nat → Int32} (hq : M.2 q = some (.inr (11, [.ref v, .int 0]))) (hv : M.2 v = some (.inl (3, m, .inl f))) (hm : m < 2147483648) (hm0 : 0 < m) {c : Nat} (hc : c < 256) : am_ex G (d + 4) K_Js_indexOf [.ref q, .int (Int32.ofNat c)] M = some (some (.int (tp_ix f (Int32.ofNat c).toInt8.toInt32 m 0)), M) := by
  have h0 : am_fld M q 11 0 = some (.ref v) := by rw [am_fld, hq]; rfl
  have h2 : am_cls M q = some 11 := by rw [am_cls, hq]
  have h3 : am_len M v = some m := by rw [am_len, hv]
  have c1 : c < 2147483648 := by omega
  have c2 : ¬ c < 0 := by omega
  have c3 : ¬ 255 < c := by omega
  have c4 : ¬ m < m := by omega
  have c5 : 0 < m := hm0
  have hl := l_Jl_indexOfChar (G := G) (d := d) hv hm (c := (Int32.ofNat c).toInt8.toInt32) (l1 := some (.int (Int32.ofNat c))) (l2 := some (.int (Int32.ofNat 0))) (m - 0) 0 rfl (Nat.zero_le _)
  simp only [e_Js_indexOf, r_Js_indexOf_0, r_Js_indexOf_1, r_Js_indexOf_2, r_Js_indexOf_3, r_Js_indexOf_6, i3n_0, i3n_1, l6n_0, l6n_1, e_Js_indexOf_1, r_Js_indexOf_1_0, r_Js_indexOf_1_1, r_Js_indexOf_1_4, r_Js_indexOf_1_7, r_Js_indexOf_1_8, r_Js_indexOf_1_11, r_Js_indexOf_1_12, r_Js_indexOf_1_13, r_Js_indexOf_1_14, r_Js_indexOf_1_17, r_Js_indexOf_1_20, r_Js_indexOf_1_23, r_Js_indexOf_1_24, r_Js_indexOf_1_27, r_Js_indexOf_1_28, r_Js_indexOf_1_29, r_Js_indexOf_1_30, r_Js_indexOf_1_36, e_Jl_indexOf, r_Jl_indexOf_0, r_Jl_indexOf_1, r_Jl_indexOf_4, r_Jl_indexOf_7, r_Jl_indexOf_8, r_Jl_indexOf_9, r_Jl_indexOf_10, r_Jl_indexOf_11, r_Jl_indexOf_14, r_Jl_indexOf_14_k, r_Jl_indexOf_15, r_Jl_indexOf_16, r_Jl_indexOf_17, r_Jl_indexOf_18, r_Jl_indexOf_21, r_Jl_indexOf_21_k, r_Jl_indexOf_22, r_Jl_indexOf_23, r_Jl_indexOf_24, r_Jl_indexOf_27, r_Jl_indexOf_28, r_Jl_indexOf_29, r_Jl_indexOf_30, r_Jl_indexOf_31, r_Jl_indexOf_32, r_Jl_indexOf_33, r_Jl_indexOf_36, e_Jl_canEncode, r_Jl_canEncode_0, r_Jl_canEncode_1, r_Jl_canEncode_4, r_Jl_canEncode_5, r_Jl_canEncode_8, r_Jl_canEncode_11, r_Jl_canEncode_12, r_Jl_canEncode_15, r_Jl_canEncode_16, i3n_255, e_Jl_indexOfChar, r_Jl_indexOfChar_0, r_Jl_indexOfChar_1, r_Jl_indexOfChar_2, r_Jl_indexOfChar_2_k, r_Jl_indexOfChar_4, r_Jl_indexOfChar_5, r_Jl_indexOfChar_5_k, r_Jl_indexOfChar_9, r_Jl_indexOfChar_10, r_Jl_indexOfChar_13, r_Jl_indexOfChar_14, r_Jl_indexOfChar_16, r_Jl_indexOfChar_17, r_Jl_indexOfChar_19, r_Jl_indexOfChar_22, r_Jl_indexOfChar_24, r_Jl_indexOfChar_25, r_Jl_indexOfChar_25_k, r_Jl_indexOfChar_28, r_Jl_indexOfChar_31, r_Jl_indexOfChar_32, am_kf_s, am_km_s, am_kn_s, am_k_v, am_k_0, am_isr_r, am_isr_n, am_isr_v, am_sw_0, am_sw_i, am_sw_l, am_sw_r, am_sw_n, am_sw_v, am_ct_i, am_ct_r, am_ct_n, am_c1_o, am_c1_n, am_c1_i, am_c1_r, am_c1_v, am_mk_1, lc_lt, lc_gt, lc_eq, lc_le, lc_ge, i01_eq, i01_ok, ite_not, true_or, or_true, true_and, and_true, false_or, or_false, false_and, and_false, if_true, if_false, not_true_eq_false, not_false_eq_true, eq_self, Nat.reduceAdd, Nat.reduceLeDiff, Nat.reduceLT, Nat.reduceEqDiff, Nat.reduceMul, Nat.reduceSub, Nat.reduceDiv, Nat.reduceMod, reduceCtorEq, Nat.zero_le, i3_le, i3_lt, i3_eq, i3_eqN, i3_leN, i3_Nle, i3_ltN, i3_NleN, i3_NeqN, i3_Neq, i3_NltN, i3_Nlt, l6_le, l6_lt, l6_eq, l6_leN, l6_Nle, l6_ltN, l6_Nlt, l6_eqN, l6_Neq, h0, h2, h3, x_Js_isLatin1 hq, x_Js_length hq hv, c1, c2, c3, c4, c5, hm, hl, Nat.sub_zero, Nat.lt_irrefl]
theorem x_Ta_readWord (hS : tp_S G x Z D) (h : tp_B b n C) {s : Nat} (h2 : C 7 2 = Int32.ofNat s) (h4 : C 7 4 = Int32.ofNat s) (hs : s ≤ n) : am_ex G (d + 7) K_Ta_readWord [.ref (x + 7)] (am_mk x bb Z C L R D) = some (none, am_mk x bb Z (if pa_word (pa_sub b s (pa_end (pa_lt b) n s - s)) < 11 then tp_w (pa_word (pa_sub b s (pa_end (pa_lt b) n s - s))) (ux (ux C 7 2 (Int32.ofNat (pa_end (pa_lt b) n s))) 7 3 (-Int32.ofNat 2)) else ux (ux C 7 2 (Int32.ofNat (pa_end (pa_lt b) n s))) 7 3 (-Int32.ofNat 2)) L R D) := by
  have hl := l_Ta_readWord (G := G) (d := d + 5) (x := x) (bb := bb) (Z := Z) (L := L) (R := R) (D := D) h (st := none) (n - s) s rfl hs
  rw [ux_id h2] at hl
  obtain ⟨p1, p2, -, -⟩ := pa_end_spec (P := pa_lt b) hs
  generalize pa_end (pa_lt b) n s = e at hl p1 p2 ⊢
  have hl2 := l_Ta_readWord2 (G := G) (d := d) (bb := bb) (L := L) (R := R) hS p1 p2 (11 - 0) 0 rfl (Nat.zero_le _) (ux (ux C 7 2 (Int32.ofNat e)) 7 3 (-Int32.ofNat 2)) (tp_ux (tp_ux h (by decide) (by decide)) (by decide) (by decide)) (by simp only [ux_eq, Nat.reduceEqDiff, and_false, if_false, if_true, and_self]) (by simp only [ux_eq, Nat.reduceEqDiff, and_false, if_false]; exact h4)
  rw [e_Ta_readWord, hl]
  simp only [r_Ta_readWord_38, r_Ta_readWord_39, r_Ta_readWord_41, r_Ta_readWord_44, r_Ta_readWord_45, r_Ta_readWord_45_k, ly_g7_2, ly_g7_1, ly_k7, ly_p7_2, ly_g7_3, ly_p7_3, ly_g7_5, ly_p7_5, i3n_0, i3n_1, i3n_2, i3n_4, i3n_6, i3n_11, l6n_0, l6n_1, am_kf_s, am_km_s, am_kn_s, am_k_v, am_k_0, am_isr_r, am_isr_n, am_isr_v, am_sw_0, am_sw_i, am_sw_l, am_sw_r, am_sw_n, am_sw_v, am_ct_i, am_ct_r, am_ct_n, am_c1_o, am_c1_n, am_c1_i, am_c1_r, am_c1_v, am_mk_1, lc_lt, lc_gt, lc_eq, lc_le, lc_ge, i01_eq, i01_ok, ite_not, true_or, or_true, true_and, and_true, false_or, or_false, false_and, and_false, if_true, if_false, not_true_eq_false, not_false_eq_true, eq_self, Nat.reduceAdd, Nat.reduceLeDiff, Nat.reduceLT, Nat.reduceEqDiff, Nat.reduceMul, Nat.reduceSub, Nat.reduceDiv, Nat.reduceMod, reduceCtorEq, Nat.zero_le, i3_le, i3_lt, i3_eq, i3_eqN, i3_leN, i3_Nle, i3_ltN, i3_NleN, i3_NeqN, i3_Neq, i3_NltN, i3_Nlt, l6_le, l6_lt, l6_eq, l6_leN, l6_Nle, l6_ltN, l6_Nlt, l6_eqN, l6_Neq, hl2]
theorem x_Ta_step (hS : tp_S G x Z D) (h : tp_B b n C) {p : Nat} (h2 : C 7 2 = Int32.ofNat p) (hp : p ≤ n) : ∃ C', am_ex G (d + 8) K_Ta_step [.ref (x + 7)] (am_mk x bb Z C L R D) = some (none, am_mk x bb Z C' L R D) ∧ tp_at b n (pa_sk b n p) C' ∧ tp_fr C C' := by
  have hl := l_Ta_step (G := G) (d := d + 6) (x := x) (bb := bb) (Z := Z) (L := L) (R := R) (D := D) h (st := none) (n - p) p rfl hp
  rw [ux_id h2] at hl
  obtain ⟨p1, p2⟩ := pa_sk_le (b := b) hp
  have hn := h.2.1
  generalize pa_sk b n p = s at hl p1 p2 ⊢
  have a1 : s < 2147483648 := by omega
  have a2 : n < 2147483648 := by omega
  have hT1 : tp_B b n (ux (ux C 7 2 (Int32.ofNat s)) 7 4 (Int32.ofNat s)) := tp_ux (tp_ux h (by decide) (by decide)) (by decide) (by decide)
  have u2 : ux (ux C 7 2 (Int32.ofNat s)) 7 4 (Int32.ofNat s) 7 2 = Int32.ofNat s := by simp only [ux_eq, Nat.reduceEqDiff, and_false, if_false, if_true, and_self]
  have u4 : ux (ux C 7 2 (Int32.ofNat s)) 7 4 (Int32.ofNat s) 7 4 = Int32.ofNat s := by simp only [ux_eq, if_true, and_self]
  have u1 := hT1.1
  have uf : tp_fr C (ux (ux C 7 2 (Int32.ofNat s)) 7 4 (Int32.ofNat s)) := by
    intro k j hkj
    simp only [ux_eq]
    rw [if_neg (by omega), if_neg (by omega)]
  have frx : ∀ {C1 : Nat → Nat → Int32} {j : Nat} {v : Int32}, tp_fr C C1 → (j = 2 ∨ j = 3 ∨ j = 4 ∨ j = 5) → tp_fr C (ux C1 7 j v) := by
    intro C1 j v hf hj k i hki
    rw [ux_eq, if_neg (by omega)]
    exact hf k i hki
  rw [e_Ta_step, hl]
  generalize hU : ux (ux C 7 2 (Int32.ofNat s)) 7 4 (Int32.ofNat s) = U at hT1 u1 u2 u4 uf
  by_cases hsn : n ≤ s
  · have hB := x_Ta_byteAt_o (G := G) (d := d + 6) (x := x) (bb := bb) (Z := Z) (L := L) (R := R) (D := D) hT1 hsn a1
    have t1 : pa_tk b n s = 256 := by rw [pa_tk, if_pos hsn]
    have hsn2 : ¬ s < n := by omega
    have t2 : pa_te b n s = s := by rw [pa_te, if_pos hsn]
    refine ⟨ux U 7 3 (-Int32.ofNat 1), ?_, ⟨tp_ux hT1 (by decide) (by decide), p2, ?_, ?_, ?_, ?_⟩, frx uf (by omega)⟩
    · simp only [r_Ta_step_50, r_Ta_step_51, r_Ta_step_52, r_Ta_step_55, r_Ta_step_58, r_Ta_step_59, r_Ta_step_60, r_Ta_step_63, r_Ta_step_66, r_Ta_step_66_k, r_Ta_step_67, r_Ta_step_68, r_Ta_step_71, r_Ta_step_72, r_Ta_step_75, r_Ta_step_78, r_Ta_step_79, r_Ta_step_80, r_Ta_step_83, r_Ta_step_86, r_Ta_step_87, r_Ta_step_90, r_Ta_step_93, r_Ta_step_94, r_Ta_step_97, r_Ta_step_100, r_Ta_step_101, r_Ta_step_104, r_Ta_step_107, r_Ta_step_108, r_Ta_step_111, r_Ta_step_114, r_Ta_step_115, r_Ta_step_116, r_Ta_step_119, r_Ta_step_120, r_Ta_step_121, r_Ta_step_124, r_Ta_step_125, r_Ta_step_127, r_Ta_step_128, r_Ta_step_129, r_Ta_step_132, r_Ta_step_135, r_Ta_step_136, r_Ta_step_139, r_Ta_step_141, r_Ta_step_144, ly_g7_2, ly_g7_1, ly_k7, ly_p7_2, ly_g7_4, ly_p7_4, ly_g7_3, ly_p7_3, i3n_0, i3n_1, i3n_2, i3n_10, i3n_32, l6n_0, l6n_1, am_kf_s, am_km_s, am_kn_s, am_k_v, am_k_0, am_isr_r, am_isr_n, am_isr_v, am_sw_0, am_sw_i, am_sw_l, am_sw_r, am_sw_n, am_sw_v, am_ct_i, am_ct_r, am_ct_n, am_c1_o, am_c1_n, am_c1_i, am_c1_r, am_c1_v, am_mk_1, lc_lt, lc_gt, lc_eq, lc_le, lc_ge, i01_eq, i01_ok, ite_not, true_or, or_true, true_and, and_true, false_or, or_false, false_and, and_false, if_true, if_false, not_true_eq_false, not_false_eq_true, eq_self, Nat.reduceAdd, Nat.reduceLeDiff, Nat.reduceLT, Nat.reduceEqDiff, Nat.reduceMul, Nat.reduceSub, Nat.reduceDiv, Nat.reduceMod, reduceCtorEq, Nat.zero_le, i3_le, i3_lt, i3_eq, i3_eqN, i3_leN, i3_Nle, i3_ltN, i3_NleN, i3_NeqN, i3_Neq, i3_NltN, i3_Nlt, l6_le, l6_lt, l6_eq, l6_leN, l6_Nle, l6_ltN, l6_Nlt, l6_eqN, l6_Neq, ux_eq, hU, hB, u1, u2, a1, a2, hsn2]
    · rw [t2]; simp only [ux_eq, Nat.reduceEqDiff, and_false, if_false]; exact u2
    · rw [t1]; simp only [ux_eq, if_true, and_self]; rfl
    · simp only [ux_eq, Nat.reduceEqDiff, and_false, if_false]; exact u4
    · rw [t1]; intro hh; omega
  · have hsn' : s < n := by omega
    have hB := x_Ta_byteAt (G := G) (d := d + 6) (x := x) (bb := bb) (Z := Z) (L := L) (R := R) (D := D) hT1 hsn'
    have hb256 := h.2.2.1 s hsn'
    have hb31 : b s < 2147483648 := by omega
    by_cases hlt : pa_lt b s = true
    · have hq := of_decide_eq_true hlt
      have hW := x_Ta_readWord (G := G) (d := d) (x := x) (bb := bb) (Z := Z) (L := L) (R := R) (D := D) hS hT1 u2 u4 p2
      have t2 : pa_te b n s = pa_end (pa_lt b) n s := by rw [pa_te, if_neg hsn, if_pos hlt]
      have t1 : pa_tk b n s = if pa_word (pa_sub b s (pa_end (pa_lt b) n s - s)) < 6 then 259 else if pa_word (pa_sub b s (pa_end (pa_lt b) n s - s)) < 11 then 300 + pa_word (pa_sub b s (pa_end (pa_lt b) n s - s)) else 257 := by rw [pa_tk, if_neg hsn, if_pos hlt]
      have t3 : pa_tv b n s = pa_word (pa_sub b s (pa_end (pa_lt b) n s - s)) := by rw [pa_tv, if_pos hlt]
      generalize pa_word (pa_sub b s (pa_end (pa_lt b) n s - s)) = W at hW t1 t3
      generalize pa_end (pa_lt b) n s = e at hW t2
      have hT2 : tp_B b n (ux (ux U 7 2 (Int32.ofNat e)) 7 3 (-Int32.ofNat 2)) := tp_ux (tp_ux hT1 (by decide) (by decide)) (by decide) (by decide)
      have hf2 : tp_fr C (ux (ux U 7 2 (Int32.ofNat e)) 7 3 (-Int32.ofNat 2)) := frx (frx uf (by omega)) (by omega)
      have hrun : am_run G (d + 6 + 1) K_Ta_step (50, [some (Value.ref (x + 7)), none], [], am_mk x bb Z (ux C 7 2 (Int32.ofNat s)) L R D) = some (none, am_mk x bb Z (if W < 11 then tp_w W (ux (ux U 7 2 (Int32.ofNat e)) 7 3 (-Int32.ofNat 2)) else ux (ux U 7 2 (Int32.ofNat e)) 7 3 (-Int32.ofNat 2)) L R D) := by
        simp only [r_Ta_step_50, r_Ta_step_51, r_Ta_step_52, r_Ta_step_55, r_Ta_step_58, r_Ta_step_59, r_Ta_step_60, r_Ta_step_63, r_Ta_step_66, r_Ta_step_66_k, r_Ta_step_67, r_Ta_step_68, r_Ta_step_71, r_Ta_step_72, r_Ta_step_75, r_Ta_step_78, r_Ta_step_79, r_Ta_step_80, r_Ta_step_83, r_Ta_step_86, r_Ta_step_87, r_Ta_step_90, r_Ta_step_93, r_Ta_step_94, r_Ta_step_97, r_Ta_step_100, r_Ta_step_101, r_Ta_step_104, r_Ta_step_107, r_Ta_step_108, r_Ta_step_111, r_Ta_step_114, r_Ta_step_115, r_Ta_step_116, r_Ta_step_119, r_Ta_step_120, r_Ta_step_121, r_Ta_step_124, r_Ta_step_125, r_Ta_step_127, r_Ta_step_128, r_Ta_step_129, r_Ta_step_132, r_Ta_step_135, r_Ta_step_136, r_Ta_step_139, r_Ta_step_141, r_Ta_step_144, ly_g7_2, ly_g7_1, ly_k7, ly_p7_2, ly_g7_4, ly_p7_4, ly_g7_3, ly_p7_3, i3n_0, i3n_1, i3n_2, i3n_10, i3n_32, l6n_0, l6n_1, am_kf_s, am_km_s, am_kn_s, am_k_v, am_k_0, am_isr_r, am_isr_n, am_isr_v, am_sw_0, am_sw_i, am_sw_l, am_sw_r, am_sw_n, am_sw_v, am_ct_i, am_ct_r, am_ct_n, am_c1_o, am_c1_n, am_c1_i, am_c1_r, am_c1_v, am_mk_1, lc_lt, lc_gt, lc_eq, lc_le, lc_ge, i01_eq, i01_ok, ite_not, true_or, or_true, true_and, and_true, false_or, or_false, false_and, and_false, if_true, if_false, not_true_eq_false, not_false_eq_true, eq_self, Nat.reduceAdd, Nat.reduceLeDiff, Nat.reduceLT, Nat.reduceEqDiff, Nat.reduceMul, Nat.reduceSub, Nat.reduceDiv, Nat.reduceMod, reduceCtorEq, Nat.zero_le, i3_le, i3_lt, i3_eq, i3_eqN, i3_leN, i3_Nle, i3_ltN, i3_NleN, i3_NeqN, i3_Neq, i3_NltN, i3_Nlt, l6_le, l6_lt, l6_eq, l6_leN, l6_Nle, l6_ltN, l6_Nlt, l6_eqN, l6_Neq, ux_eq, hU, hB, hW, u1, u2, a1, a2, hsn', x_Ta_isLetter hb31, hq]
      by_cases hW6 : W < 6
      · rw [if_pos (show W < 11 by omega)] at hrun
        refine ⟨_, hrun, ⟨tp_ux (tp_ux hT2 (by decide) (by decide)) (by decide) (by decide), p2, ?_, ?_, ?_, ?_⟩, frx (frx hf2 (by omega)) (by omega)⟩
        · rw [t2, tp_w]; simp only [ux_eq, Nat.reduceEqDiff, and_false, if_false, if_true, and_self]
        · rw [t1, if_pos hW6, tp_w, if_pos hW6]; simp only [ux_eq, if_true, and_self]; rfl
        · rw [tp_w]; simp only [ux_eq, Nat.reduceEqDiff, and_false, if_false]; exact u4
        · intro _; rw [t3, tp_w]; simp only [ux_eq, Nat.reduceEqDiff, and_false, if_false, if_true, and_self]
      · by_cases hW11 : W < 11
        · rw [if_pos hW11] at hrun
          refine ⟨_, hrun, ⟨tp_ux (tp_ux hT2 (by decide) (by decide)) (by decide) (by decide), p2, ?_, ?_, ?_, ?_⟩, frx (frx hf2 (by omega)) (by omega)⟩
          · rw [t2, tp_w]; simp only [ux_eq, Nat.reduceEqDiff, and_false, if_false, if_true, and_self]
          · rw [t1, if_neg hW6, if_pos hW11, tp_w, if_neg hW6, tp_ct, if_neg (by omega), if_neg (by omega), if_neg (by omega), if_neg (by omega), if_pos (by omega), show 300 + W - 300 = W by omega]; simp only [ux_eq, if_true, and_self]
          · rw [tp_w]; simp only [ux_eq, Nat.reduceEqDiff, and_false, if_false]; exact u4
          · intro _; rw [t3, tp_w]; simp only [ux_eq, Nat.reduceEqDiff, and_false, if_false, if_true, and_self]
        · rw [if_neg hW11] at hrun
          refine ⟨_, hrun, ⟨hT2, p2, ?_, ?_, ?_, ?_⟩, hf2⟩
          · rw [t2]; simp only [ux_eq, Nat.reduceEqDiff, and_false, if_false, if_true, and_self]
          · rw [t1, if_neg hW6, if_neg hW11]; simp only [ux_eq, if_true, and_self]; rfl
          · simp only [ux_eq, Nat.reduceEqDiff, and_false, if_false]; exact u4
          · rw [t1, if_neg hW6, if_neg hW11]; intro hh; omega
    · have hq : ¬ (97 ≤ b s ∧ b s ≤ 122) := fun e => hlt (decide_eq_true e)
      by_cases hdg : pa_dg b s = true
      · have hq2 := of_decide_eq_true hdg
        have hN := x_Ta_readNumber (G := G) (d := d + 5) (x := x) (bb := bb) (Z := Z) (L := L) (R := R) (D := D) hT1 u2 u4 p2
        have t2 : pa_te b n s = pa_end (pa_dg b) n s := by rw [pa_te, if_neg hsn, if_neg hlt, if_pos hdg]
        have t1 : pa_tk b n s = if 4 < pa_end (pa_dg b) n s - s then 257 else 258 := by rw [pa_tk, if_neg hsn, if_neg hlt, if_pos hdg]
        have t3 : pa_tv b n s = pa_num b s (min 4 (pa_end (pa_dg b) n s - s)) := by rw [pa_tv, if_neg hlt]
        generalize pa_end (pa_dg b) n s = e at hN t2 t1 t3
        have hrun : am_run G (d + 6 + 1) K_Ta_step (50, [some (Value.ref (x + 7)), none], [], am_mk x bb Z (ux C 7 2 (Int32.ofNat s)) L R D) = some (none, am_mk x bb Z (ux (tp_u s e b U) 7 3 (if 4 < e - s then -Int32.ofNat 2 else -Int32.ofNat 3)) L R D) := by
          simp only [r_Ta_step_50, r_Ta_step_51, r_Ta_step_52, r_Ta_step_55, r_Ta_step_58, r_Ta_step_59, r_Ta_step_60, r_Ta_step_63, r_Ta_step_66, r_Ta_step_66_k, r_Ta_step_67, r_Ta_step_68, r_Ta_step_71, r_Ta_step_72, r_Ta_step_75, r_Ta_step_78, r_Ta_step_79, r_Ta_step_80, r_Ta_step_83, r_Ta_step_86, r_Ta_step_87, r_Ta_step_90, r_Ta_step_93, r_Ta_step_94, r_Ta_step_97, r_Ta_step_100, r_Ta_step_101, r_Ta_step_104, r_Ta_step_107, r_Ta_step_108, r_Ta_step_111, r_Ta_step_114, r_Ta_step_115, r_Ta_step_116, r_Ta_step_119, r_Ta_step_120, r_Ta_step_121, r_Ta_step_124, r_Ta_step_125, r_Ta_step_127, r_Ta_step_128, r_Ta_step_129, r_Ta_step_132, r_Ta_step_135, r_Ta_step_136, r_Ta_step_139, r_Ta_step_141, r_Ta_step_144, ly_g7_2, ly_g7_1, ly_k7, ly_p7_2, ly_g7_4, ly_p7_4, ly_g7_3, ly_p7_3, i3n_0, i3n_1, i3n_2, i3n_10, i3n_32, l6n_0, l6n_1, am_kf_s, am_km_s, am_kn_s, am_k_v, am_k_0, am_isr_r, am_isr_n, am_isr_v, am_sw_0, am_sw_i, am_sw_l, am_sw_r, am_sw_n, am_sw_v, am_ct_i, am_ct_r, am_ct_n, am_c1_o, am_c1_n, am_c1_i, am_c1_r, am_c1_v, am_mk_1, lc_lt, lc_gt, lc_eq, lc_le, lc_ge, i01_eq, i01_ok, ite_not, true_or, or_true, true_and, and_true, false_or, or_false, false_and, and_false, if_true, if_false, not_true_eq_false, not_false_eq_true, eq_self, Nat.reduceAdd, Nat.reduceLeDiff, Nat.reduceLT, Nat.reduceEqDiff, Nat.reduceMul, Nat.reduceSub, Nat.reduceDiv, Nat.reduceMod, reduceCtorEq, Nat.zero_le, i3_le, i3_lt, i3_eq, i3_eqN, i3_leN, i3_Nle, i3_ltN, i3_NleN, i3_NeqN, i3_Neq, i3_NltN, i3_Nlt, l6_le, l6_lt, l6_eq, l6_leN, l6_Nle, l6_ltN, l6_Nlt, l6_eqN, l6_Neq, ux_eq, hU, hB, hN, u1, u2, a1, a2, hsn', x_Ta_isLetter hb31, x_Ta_isDigit hb31, hq, hq2, and_self]
        refine ⟨_, hrun, ⟨tp_ux (tp_ux (tp_ux hT1 (by decide) (by decide)) (by decide) (by decide)) (by decide) (by decide), p2, ?_, ?_, ?_, ?_⟩, frx (frx (frx uf (by omega)) (by omega)) (by omega)⟩
        · rw [t2, tp_u]; simp only [ux_eq, Nat.reduceEqDiff, and_false, if_false, if_true, and_self]
        · rw [t1]; simp only [ux_eq, if_true, and_self]; split <;> rfl
        · rw [tp_u]; simp only [ux_eq, Nat.reduceEqDiff, and_false, if_false]; exact u4
        · intro _; rw [t3, tp_u]; simp only [ux_eq, Nat.reduceEqDiff, and_false, if_false, if_true, and_self]
      · have hq2 : ¬ (48 ≤ b s ∧ b s ≤ 57) := fun e => hdg (decide_eq_true e)
        obtain ⟨q, v, g1, g2⟩ := tp_S_get hS (i := 12) (by decide)
        simp only [Nat.reduceAdd] at g1
        have hI := x_Js_indexOf (G := G) (d := d + 3) (g2 bb (ux U 7 2 (Int32.ofNat (s + 1))) L R).1 (g2 bb (ux U 7 2 (Int32.ofNat (s + 1))) L R).2 (by decide) (by decide) hb256
        have hsg := tp_sign ⟨b s, hb256⟩
        have hch := tp_chr ⟨b s, hb256⟩
        simp only at hsg hch
        have t2 : pa_te b n s = s + 1 := by rw [pa_te, if_neg hsn, if_neg hlt, if_neg hdg]
        have t1 : pa_tk b n s = if pa_sign (b s) = true then b s else 257 := by rw [pa_tk, if_neg hsn, if_neg hlt, if_neg hdg]
        have hln : am_ln.getD 12 0 = 8 := rfl
        rw [hln] at hI
        have hc : am_cls (am_mk x bb Z (ux U 7 2 (Int32.ofNat (s + 1))) L R D) q = some 11 := by rw [am_cls, (g2 bb (ux U 7 2 (Int32.ofNat (s + 1))) L R).1]
        generalize tp_ix (am_bf 12) (Int32.ofNat (b s)).toInt8.toInt32 8 0 = r at hI hsg
        have hrun : am_run G (d + 6 + 1) K_Ta_step (50, [some (Value.ref (x + 7)), none], [], am_mk x bb Z (ux C 7 2 (Int32.ofNat s)) L R D) = some (none, am_mk x bb Z (ux (ux U 7 2 (Int32.ofNat (s + 1))) 7 3 (if pa_sign (b s) = true then Int32.ofNat (b s) else -Int32.ofNat 2)) L R D) := by
          by_cases hsi : pa_sign (b s) = true
          · have hr : ¬ r < Int32.ofNat 0 := by rw [hsg]; exact fun e => e hsi
            simp only [r_Ta_step_50, r_Ta_step_51, r_Ta_step_52, r_Ta_step_55, r_Ta_step_58, r_Ta_step_59, r_Ta_step_60, r_Ta_step_63, r_Ta_step_66, r_Ta_step_66_k, r_Ta_step_67, r_Ta_step_68, r_Ta_step_71, r_Ta_step_72, r_Ta_step_75, r_Ta_step_78, r_Ta_step_79, r_Ta_step_80, r_Ta_step_83, r_Ta_step_86, r_Ta_step_87, r_Ta_step_90, r_Ta_step_93, r_Ta_step_94, r_Ta_step_97, r_Ta_step_100, r_Ta_step_101, r_Ta_step_104, r_Ta_step_107, r_Ta_step_108, r_Ta_step_111, r_Ta_step_114, r_Ta_step_115, r_Ta_step_116, r_Ta_step_119, r_Ta_step_120, r_Ta_step_121, r_Ta_step_124, r_Ta_step_125, r_Ta_step_127, r_Ta_step_128, r_Ta_step_129, r_Ta_step_132, r_Ta_step_135, r_Ta_step_136, r_Ta_step_139, r_Ta_step_141, r_Ta_step_144, ly_g7_2, ly_g7_1, ly_k7, ly_p7_2, ly_g7_4, ly_p7_4, ly_g7_3, ly_p7_3, i3n_0, i3n_1, i3n_2, i3n_10, i3n_32, l6n_0, l6n_1, am_kf_s, am_km_s, am_kn_s, am_k_v, am_k_0, am_isr_r, am_isr_n, am_isr_v, am_sw_0, am_sw_i, am_sw_l, am_sw_r, am_sw_n, am_sw_v, am_ct_i, am_ct_r, am_ct_n, am_c1_o, am_c1_n, am_c1_i, am_c1_r, am_c1_v, am_mk_1, lc_lt, lc_gt, lc_eq, lc_le, lc_ge, i01_eq, i01_ok, ite_not, true_or, or_true, true_and, and_true, false_or, or_false, false_and, and_false, if_true, if_false, not_true_eq_false, not_false_eq_true, eq_self, Nat.reduceAdd, Nat.reduceLeDiff, Nat.reduceLT, Nat.reduceEqDiff, Nat.reduceMul, Nat.reduceSub, Nat.reduceDiv, Nat.reduceMod, reduceCtorEq, Nat.zero_le, i3_le, i3_lt, i3_eq, i3_eqN, i3_leN, i3_Nle, i3_ltN, i3_NleN, i3_NeqN, i3_Neq, i3_NltN, i3_Nlt, l6_le, l6_lt, l6_eq, l6_leN, l6_Nle, l6_ltN, l6_Nlt, l6_eqN, l6_Neq, ux_eq, hU, hB, hI, u1, u2, a1, a2, hsn', x_Ta_isLetter hb31, x_Ta_isDigit hb31, hq, hq2, g1, hch, hc, hr, hsi, i3_add]
          · have hr : r < Int32.ofNat 0 := by rw [hsg]; exact hsi
            simp only [r_Ta_step_50, r_Ta_step_51, r_Ta_step_52, r_Ta_step_55, r_Ta_step_58, r_Ta_step_59, r_Ta_step_60, r_Ta_step_63, r_Ta_step_66, r_Ta_step_66_k, r_Ta_step_67, r_Ta_step_68, r_Ta_step_71, r_Ta_step_72, r_Ta_step_75, r_Ta_step_78, r_Ta_step_79, r_Ta_step_80, r_Ta_step_83, r_Ta_step_86, r_Ta_step_87, r_Ta_step_90, r_Ta_step_93, r_Ta_step_94, r_Ta_step_97, r_Ta_step_100, r_Ta_step_101, r_Ta_step_104, r_Ta_step_107, r_Ta_step_108, r_Ta_step_111, r_Ta_step_114, r_Ta_step_115, r_Ta_step_116, r_Ta_step_119, r_Ta_step_120, r_Ta_step_121, r_Ta_step_124, r_Ta_step_125, r_Ta_step_127, r_Ta_step_128, r_Ta_step_129, r_Ta_step_132, r_Ta_step_135, r_Ta_step_136, r_Ta_step_139, r_Ta_step_141, r_Ta_step_144, ly_g7_2, ly_g7_1, ly_k7, ly_p7_2, ly_g7_4, ly_p7_4, ly_g7_3, ly_p7_3, i3n_0, i3n_1, i3n_2, i3n_10, i3n_32, l6n_0, l6n_1, am_kf_s, am_km_s, am_kn_s, am_k_v, am_k_0, am_isr_r, am_isr_n, am_isr_v, am_sw_0, am_sw_i, am_sw_l, am_sw_r, am_sw_n, am_sw_v, am_ct_i, am_ct_r, am_ct_n, am_c1_o, am_c1_n, am_c1_i, am_c1_r, am_c1_v, am_mk_1, lc_lt, lc_gt, lc_eq, lc_le, lc_ge, i01_eq, i01_ok, ite_not, true_or, or_true, true_and, and_true, false_or, or_false, false_and, and_false, if_true, if_false, not_true_eq_false, not_false_eq_true, eq_self, Nat.reduceAdd, Nat.reduceLeDiff, Nat.reduceLT, Nat.reduceEqDiff, Nat.reduceMul, Nat.reduceSub, Nat.reduceDiv, Nat.reduceMod, reduceCtorEq, Nat.zero_le, i3_le, i3_lt, i3_eq, i3_eqN, i3_leN, i3_Nle, i3_ltN, i3_NleN, i3_NeqN, i3_Neq, i3_NltN, i3_Nlt, l6_le, l6_lt, l6_eq, l6_leN, l6_Nle, l6_ltN, l6_Nlt, l6_eqN, l6_Neq, ux_eq, hU, hB, hI, u1, u2, a1, a2, hsn', x_Ta_isLetter hb31, x_Ta_isDigit hb31, hq, hq2, g1, hch, hc, hr, hsi, i3_add]
        refine ⟨_, hrun, ⟨tp_ux (tp_ux hT1 (by decide) (by decide)) (by decide) (by decide), p2, ?_, ?_, ?_, ?_⟩, frx (frx uf (by omega)) (by omega)⟩
        · rw [t2]; simp only [ux_eq, Nat.reduceEqDiff, and_false, if_false, if_true, and_self]
        · rw [t1]; simp only [ux_eq, if_true, and_self]
          by_cases hsi : pa_sign (b s) = true
          · rw [if_pos hsi, if_pos hsi, tp_ct, if_neg (by omega), if_neg (by omega), if_neg (by omega), if_neg (by omega), if_neg (by omega)]
          · rw [if_neg hsi, if_neg hsi]; rfl
        · simp only [ux_eq, Nat.reduceEqDiff, and_false, if_false]; exact u4
        · rw [t1]; intro hh; split at hh <;> omega
end
