/-! THE TAPE is read: what a TEXT becomes -/
/-- what is new stands where nothing stands -/
def tp_D (x : Nat) (bb : Bool) (D : am_M) : Prop := bb = false ∧ x + 19 ≤ D.1 ∨ bb = true ∧ x + 58 ≤ D.1
theorem tp_D_ns {x : Nat} {bb : Bool} {D : am_M} (h : tp_D x bb D) {q : Nat} (hq : D.1 ≤ q) : ¬ (x ≤ q ∧ ly_st bb (q - x) = true) := by
  rintro ⟨h1, h2⟩
  simp only [ly_st, Bool.or_eq_true, Bool.and_eq_true, decide_eq_true_eq] at h2
  rcases h with ⟨rfl, h3⟩ | ⟨rfl, h3⟩
  · rcases h2 with h2 | ⟨h2, -⟩
    · omega
    · cases h2
  · omega
theorem tp_D_up {x : Nat} {bb : Bool} {D D' : am_M} (h : tp_D x bb D) (hq : D.1 ≤ D'.1) : tp_D x bb D' := by
  rcases h with ⟨h1, h3⟩ | ⟨h1, h3⟩
  · exact Or.inl ⟨h1, Nat.le_trans h3 hq⟩
  · exact Or.inr ⟨h1, Nat.le_trans h3 hq⟩
/-- what a making or a writing leaves alone: T what it touches -/
def ly_fr (T : Nat → Prop) (x : Nat) (Z : ly_Z) (C : Nat → Nat → Int32) (L : Nat → Nat → Int64) (R : Nat → Nat → Option Nat) (D : am_M) (Z' : ly_Z) (C' : Nat → Nat → Int32) (L' : Nat → Nat → Int64) (R' : Nat → Nat → Option Nat) (D' : am_M) : Prop :=
  (∀ u, ¬ T u → C' u = C u ∧ L' u = L u ∧ R' u = R u ∧ Z'.2 u = Z.2 u) ∧ (∀ q, q < D.1 → Z'.1 q = Z.1 q) ∧ D.1 ≤ D'.1 ∧ (∀ q, q < x → D'.2 q = D.2 q)
/-- where tags stand -/
def tp_Z (x : Nat) (Z : ly_Z) (D : am_M) : Prop := x ≤ D.1 ∧ (∀ q, q < x → Z.1 q = none) ∧ ∀ q, D.1 ≤ q → Z.1 q = none
theorem ly_fr_rf {T : Nat → Prop} {x : Nat} {Z : ly_Z} {C : Nat → Nat → Int32} {L : Nat → Nat → Int64} {R : Nat → Nat → Option Nat} {D : am_M} : ly_fr T x Z C L R D Z C L R D := ⟨fun _ _ => ⟨rfl, rfl, rfl, rfl⟩, fun _ _ => rfl, Nat.le_refl _, fun _ _ => rfl⟩
theorem ly_fr_tr {T T' : Nat → Prop} {x : Nat} {Z Z' Z'' : ly_Z} {C C' C'' : Nat → Nat → Int32} {L L' L'' : Nat → Nat → Int64} {R R' R'' : Nat → Nat → Option Nat} {D D' D'' : am_M} (h : ly_fr T x Z C L R D Z' C' L' R' D') (h' : ly_fr T' x Z' C' L' R' D' Z'' C'' L'' R'' D'') : ly_fr (fun u => T u ∨ T' u) x Z C L R D Z'' C'' L'' R'' D'' := by
  obtain ⟨a1, a2, a3, a4⟩ := h
  obtain ⟨b1, b2, b3, b4⟩ := h'
  refine ⟨fun u hu => ?_, fun q hq => ?_, Nat.le_trans a3 b3, fun q hq => (b4 q hq).trans (a4 q hq)⟩
  · obtain ⟨c1, c2, c3, c4⟩ := a1 u (fun e => hu (Or.inl e))
    obtain ⟨d1, d2, d3, d4⟩ := b1 u (fun e => hu (Or.inr e))
    exact ⟨d1.trans c1, d2.trans c2, d3.trans c3, d4.trans c4⟩
  · exact (b2 q (Nat.lt_of_lt_of_le hq a3)).trans (a2 q hq)
theorem ly_fr_sub {T T' : Nat → Prop} {x : Nat} {Z Z' : ly_Z} {C C' : Nat → Nat → Int32} {L L' : Nat → Nat → Int64} {R R' : Nat → Nat → Option Nat} {D D' : am_M} (h : ly_fr T x Z C L R D Z' C' L' R' D') (hT : ∀ u, T u → T' u) : ly_fr T' x Z C L R D Z' C' L' R' D' := by
  obtain ⟨a1, a2, a3, a4⟩ := h
  exact ⟨fun u hu => a1 u (fun e => hu (hT u e)), a2, a3, a4⟩
theorem ly_fr_C {T : Nat → Prop} {x : Nat} {Z : ly_Z} {C C' : Nat → Nat → Int32} {L : Nat → Nat → Int64} {R : Nat → Nat → Option Nat} {D : am_M} (h : ∀ u j, ¬ T u → C' u j = C u j) : ly_fr T x Z C L R D Z C' L R D := ⟨fun u hu => ⟨funext (fun j => h u j hu), rfl, rfl, rfl⟩, fun _ _ => rfl, Nat.le_refl _, fun _ _ => rfl⟩
theorem ly_fr_R {T : Nat → Prop} {x : Nat} {Z : ly_Z} {C : Nat → Nat → Int32} {L : Nat → Nat → Int64} {R R' : Nat → Nat → Option Nat} {D : am_M} (h : ∀ u j, ¬ T u → R' u j = R u j) : ly_fr T x Z C L R D Z C L R' D := ⟨fun u hu => ⟨rfl, rfl, funext (fun j => h u j hu), rfl⟩, fun _ _ => rfl, Nat.le_refl _, fun _ _ => rfl⟩
theorem ly_fr_new {x t : Nat} {Z : ly_Z} {C : Nat → Nat → Int32} {L : Nat → Nat → Int64} {R : Nat → Nat → Option Nat} {D : am_M} {f : Nat → Int32} {g : Nat → Int64} {r : Nat → Option Nat} (hZ : tp_Z x Z D) : ly_fr (fun u => u = t) x Z C L R D (ly_new Z D.1 t) (uk C t f) (uk L t g) (uk R t r) (ly_fz x Z C L R D t) := by
  refine ⟨fun u hu => ?_, fun q hq => ?_, Nat.le_succ _, fun q hq => ly_fz_2 (hZ.2.1 q hq)⟩
  · refine ⟨?_, ?_, ?_, ?_⟩
    · rw [uk_eq, if_neg hu]
    · rw [uk_eq, if_neg hu]
    · rw [uk_eq, if_neg hu]
    · rw [ly_new_2, if_neg hu]
  · rw [ly_new_1, if_neg (by omega)]
theorem tp_Z_new {x t : Nat} {Z : ly_Z} {C : Nat → Nat → Int32} {L : Nat → Nat → Int64} {R : Nat → Nat → Option Nat} {D : am_M} (hZ : tp_Z x Z D) : tp_Z x (ly_new Z D.1 t) (ly_fz x Z C L R D t) := by
  obtain ⟨h0, h1, h2⟩ := hZ
  refine ⟨Nat.le_succ_of_le h0, fun q hq => ?_, fun q hq => ?_⟩
  · rw [ly_new_1, if_neg (by omega)]; exact h1 q hq
  · have hq : D.1 + 1 ≤ q := hq
    rw [ly_new_1, if_neg (by omega)]; exact h2 q (by omega)
theorem tp_S_fr {G : Nat → Value} {T : Nat → Prop} {x : Nat} {Z Z' : ly_Z} {C C' : Nat → Nat → Int32} {L L' : Nat → Nat → Int64} {R R' : Nat → Nat → Option Nat} {D D' : am_M} (hS : tp_S G x Z D) (hf : ly_fr T x Z C L R D Z' C' L' R' D') (hZ : tp_Z x Z' D') : tp_S G x Z' D' := by
  obtain ⟨h1, h2, h3⟩ := hS
  refine ⟨h1, hZ.2.1, fun i hi => ?_⟩
  obtain ⟨k, v, e1, e2, e3, e4, e5⟩ := h3 i hi
  exact ⟨k, v, e1, e2, e3, (hf.2.2.2 k e2).trans e4, (hf.2.2.2 v e3).trans e5⟩
theorem ly_is_fr {T : Nat → Prop} {x : Nat} {b : Bool} {Z Z' : ly_Z} {C C' : Nat → Nat → Int32} {L L' : Nat → Nat → Int64} {R R' : Nat → Nat → Option Nat} {D D' : am_M} {q t k : Nat} (h : ly_is x b Z q t k) (hZ : tp_Z x Z D) (hf : ly_fr T x Z C L R D Z' C' L' R' D') (ht : ¬ T t) : ly_is x b Z' q t k := by
  obtain ⟨⟨h1, h2, h3⟩, h4, h5⟩ := h
  obtain ⟨-, -, -, e⟩ := hf.1 t ht
  have hq : Z.2 t < D.1 := by
    by_cases hlt : Z.2 t < D.1
    · exact hlt
    · rw [hZ.2.2 _ (by omega)] at h2; cases h2
  refine ⟨⟨by rw [e]; exact h1, by rw [e, hf.2.1 _ hq]; exact h2, h3⟩, by rw [e]; exact h4, h5⟩
section
variable {G : Nat → Value} {x : Nat} {bb : Bool} {Z : ly_Z} {C : Nat → Nat → Int32} {L : Nat → Nat → Int64} {R : Nat → Nat → Option Nat} {D : am_M}
/-- a copy of the first m codes, at the tag t -/
theorem x_Ja_copyOf {d t k m : Nat} (hk : k = 8 ∨ k = 9) (ht : t / 1000 = k) (hD : tp_D x bb D) (hm : m < 160) : am_ex G (d + 1) K_Ja_copyOf [.ref (x + 9), .int (Int32.ofNat m)] (am_mk x bb Z C L R D) = some (some (.ref D.1), am_mk x bb (ly_new Z D.1 t) (uk C t (fun j => if j < m then C 9 j else Int32.ofNat 0)) (uk L t (fun _ => Int64.ofNat 0)) (uk R t (fun _ => some m)) (ly_fz x Z C L R D t)) := by
  have hs := tp_D_ns hD (Nat.le_refl D.1)
  have ht1 : 1000 ≤ t := by omega
  have m1 : m < 2147483648 := by omega
  have m2 : ¬ m = 160 := by omega
  have m3 : m ≤ 1000 := by omega
  have e9 : ¬ 9 = t := by omega
  have hi : ly_is x bb (ly_new Z D.1 t) D.1 t k := ly_is_new hs ht1 ht
  have hadd : am_add (am_mk x bb Z C L R D) (.inl (0, m, .inl (fun _ => Int32.ofNat 0))) = am_mk x bb (ly_new Z D.1 t) (uk C t (fun _ => Int32.ofNat 0)) (uk L t (fun _ => Int64.ofNat 0)) (uk R t (fun _ => some m)) (ly_fz x Z C L R D t) := by
    rcases hk with rfl | rfl
    · exact ly_a8 ht1 ht hs
    · exact ly_a9 ht1 ht hs
  have hc : am_cp (am_mk x bb (ly_new Z D.1 t) (uk C t (fun _ => Int32.ofNat 0)) (uk L t (fun _ => Int64.ofNat 0)) (uk R t (fun _ => some m)) (ly_fz x Z C L R D t)) (x + 9) (Int32.ofNat 0) D.1 (Int32.ofNat 0) (Int32.ofNat m) = some (am_mk x bb (ly_new Z D.1 t) (uk C t (fun j => if j < m then C 9 j else Int32.ofNat 0)) (uk L t (fun _ => Int64.ofNat 0)) (uk R t (fun _ => some m)) (ly_fz x Z C L R D t)) := by
    have c1 : (am_mk x bb (ly_new Z D.1 t) (uk C t (fun _ => Int32.ofNat 0)) (uk L t (fun _ => Int64.ofNat 0)) (uk R t (fun _ => some m)) (ly_fz x Z C L R D t)).2 (x + 9) = some (.inl (0, 160, .inl (C 9))) := by
      rw [ly_c9, uk_eq, if_neg e9]
    have c2 : (am_mk x bb (ly_new Z D.1 t) (uk C t (fun _ => Int32.ofNat 0)) (uk L t (fun _ => Int64.ofNat 0)) (uk R t (fun _ => some m)) (ly_fz x Z C L R D t)).2 D.1 = some (.inl (0, m, .inl (fun _ => Int32.ofNat 0))) := by
      have hn : uk R t (fun _ => some m) t 0 = some m := by rw [uk_eq, if_pos rfl]
      rcases hk with rfl | rfl
      · rw [ly_dc8 hn hi, uk_eq, if_pos rfl]
      · rw [ly_dc9 hn hi, uk_eq, if_pos rfl]
    unfold am_cp
    rw [c1, c2]
    simp only [i3_clamp m1, i3_clamp (show 0 < 2147483648 by decide)]
    rw [if_pos ⟨trivial, trivial, ly_nn (by decide), ly_nn (by decide), ly_nn m1, by omega, by omega⟩]
    have hset := ly_ds (C := uk C t (fun _ => Int32.ofNat 0)) (L := uk L t (fun _ => Int64.ofNat 0)) (R := uk R t (fun _ => some m)) (D := ly_fz x Z C L R D t) (f := va_cpy (C 9) (fun _ => Int32.ofNat 0) 0 0 m) (g := fun _ => Int64.ofNat 0) (r := fun _ => some m) hi
    have hu : ∀ {α : Type} (X : Nat → α) (f g : α), uk (uk X t f) t g = uk X t g := by
      intro α X f g
      funext a
      simp only [uk_eq]
      split <;> rfl
    rw [hu, hu, hu] at hset
    have hv : va_cpy (C 9) (fun _ => Int32.ofNat 0) 0 0 m = fun j => if j < m then C 9 j else Int32.ofNat 0 := by
      funext j
      simp only [va_cpy, Nat.zero_le, true_and, Nat.zero_add, Nat.sub_zero]
    rw [hv] at hset
    rw [← hset, hv]
    rcases hk with rfl | rfl <;> rfl
  simp only [e_Ja_copyOf, r_Ja_copyOf_0, r_Ja_copyOf_1, r_Ja_copyOf_2, r_Ja_copyOf_3, r_Ja_copyOf_6, r_Ja_copyOf_13, r_Ja_copyOf_14, r_Ja_copyOf_15, r_Ja_copyOf_17, r_Ja_copyOf_17_k, r_Ja_copyOf_18, r_Ja_copyOf_19, r_Ja_copyOf_20, r_Ja_copyOf_21, r_Ja_copyOf_22, r_Ja_copyOf_23, r_Ja_copyOf_24, r_Ja_copyOf_25, r_Ja_copyOf_28, r_Ja_copyOf_31, r_Ja_copyOf_32, i3n_0, i3n_1, l6n_0, l6n_1, am_kf_s, am_km_s, am_kn_s, am_k_v, am_k_0, am_isr_r, am_isr_n, am_isr_v, am_sw_0, am_sw_i, am_sw_l, am_sw_r, am_sw_n, am_sw_v, am_ct_i, am_ct_r, am_ct_n, am_c1_o, am_c1_n, am_c1_i, am_c1_r, am_c1_v, am_mk_1, lc_lt, lc_gt, lc_eq, lc_le, lc_ge, i01_eq, i01_ok, ite_not, true_or, or_true, true_and, and_true, false_or, or_false, false_and, and_false, if_true, if_false, not_true_eq_false, not_false_eq_true, eq_self, Nat.reduceAdd, Nat.reduceLeDiff, Nat.reduceLT, Nat.reduceEqDiff, Nat.reduceMul, Nat.reduceSub, Nat.reduceDiv, Nat.reduceMod, reduceCtorEq, Nat.zero_le, i3_le, i3_lt, i3_eq, i3_eqN, i3_leN, i3_Nle, i3_ltN, i3_NleN, i3_NeqN, i3_Neq, i3_NltN, i3_Nlt, l6_le, l6_lt, l6_eq, l6_leN, l6_Nle, l6_ltN, l6_Nlt, l6_eqN, l6_Neq, ly_n9, m1, m2, hm, ly_newa m3, hadd, hc]
/-- a new TEXT at the cell q with the tag s: its row to work in gets the tag t -/
theorem x_Te_init {d s t q a1 a2 m1 m2 : Nat} (hs : s / 1000 = 7) (ht : t / 1000 = 10) (hq : ly_is x bb Z q s 7) (hD : tp_D x bb D) (hZ : tp_Z x Z D) {t1 t2 : Nat} (h1 : ly_is x bb Z a1 t1 8) (h2 : ly_is x bb Z a2 t2 9) (n1 : R t1 0 = some m1) (n2 : R t2 0 = some m2) (l1 : m1 ≤ 1000) (l2 : m2 ≤ 1000) : ∃ Z' C' L' R' D', am_ex G (d + 1) K_Te_init [.ref q, .ref a1, .ref a2] (am_mk x bb Z C L R D) = some (none, am_mk x bb Z' C' L' R' D') ∧ ly_fr (fun u => u = s ∨ u = t) x Z C L R D Z' C' L' R' D' ∧ tp_Z x Z' D' ∧ D'.1 = D.1 + 1 ∧ ly_is x bb Z' q s 7 ∧ R' s 0 = some a1 ∧ R' s 1 = some a2 ∧ R' s 2 = some D.1 ∧ ly_is x bb Z' D.1 t 10 ∧ R' t 0 = some (max m1 m2) := by
  have hns := tp_D_ns hD (Nat.le_refl D.1)
  have t1000 : 1000 ≤ t := by omega
  have hst : ¬ s = t := by omega
  have h71 : ¬ t1 = s := by have := h1.2.2; omega
  have h72 : ¬ t2 = s := by have := h2.2.2; omega
  generalize hR2 : ux (ux R s 0 (some a1)) s 1 (some a2) = R2
  have e1 : R2 t1 0 = some m1 := by rw [← hR2, ux_eq, if_neg (by omega), ux_eq, if_neg (by omega)]; exact n1
  have e2 : R2 t2 0 = some m2 := by rw [← hR2, ux_eq, if_neg (by omega), ux_eq, if_neg (by omega)]; exact n2
  have hadd := ly_a10 (x := x) (b := bb) (Z := Z) (C := C) (L := L) (R := R2) (D := D) (t := t) (n := max m1 m2) t1000 ht hns
  have hf1 : ly_fr (fun u => u = s) x Z C L R D Z C L R2 D := ly_fr_R (fun u j hu => by rw [← hR2, ux_eq, if_neg (fun e => hu e.1), ux_eq, if_neg (fun e => hu e.1)])
  have hf2 := ly_fr_new (t := t) (C := C) (L := L) (R := R2) (f := fun _ => Int32.ofNat 0) (g := fun _ => Int64.ofNat 0) (r := fun _ => some (max m1 m2)) hZ
  have hZ2 := tp_Z_new (t := t) (C := C) (L := L) (R := R2) hZ
  have hq2 := ly_is_fr hq hZ hf2 hst
  have hi := ly_is_new (b := bb) (Z := Z) hns t1000 ht
  have hmax : (if m1 < m2 then Int32.ofNat m2 else Int32.ofNat m1) = Int32.ofNat (max m1 m2) := by
    by_cases hlt : m1 < m2
    · rw [if_pos hlt, Nat.max_eq_right (by omega)]
    · rw [if_neg hlt, Nat.max_eq_left (by omega)]
  have hf3 : ly_fr (fun u => u = s) x (ly_new Z D.1 t) (uk C t (fun _ => Int32.ofNat 0)) (uk L t (fun _ => Int64.ofNat 0)) (uk R2 t (fun _ => some (max m1 m2))) (ly_fz x Z C L R2 D t) (ly_new Z D.1 t) (uk C t (fun _ => Int32.ofNat 0)) (uk L t (fun _ => Int64.ofNat 0)) (ux (uk R2 t (fun _ => some (max m1 m2))) s 2 (some D.1)) (ly_fz x Z C L R2 D t) := ly_fr_R (fun u j hu => by rw [ux_eq, if_neg (fun e => hu e.1)])
  refine ⟨ly_new Z D.1 t, uk C t (fun _ => Int32.ofNat 0), uk L t (fun _ => Int64.ofNat 0), ux (uk R2 t (fun _ => some (max m1 m2))) s 2 (some D.1), ly_fz x Z C L R2 D t, ?_, ly_fr_sub (ly_fr_tr hf1 (ly_fr_tr hf2 hf3)) (fun u hu => by rcases hu with h | h | h; exact Or.inl h; exact Or.inr h; exact Or.inl h), hZ2, rfl, hq2, ?_, ?_, ?_, hi, ?_⟩
  · have p0 := ly_dp7_0 (C := C) (L := L) (R := R) (D := D) (v := a1) hq
    have p1 := ly_dp7_1 (C := C) (L := L) (R := ux R s 0 (some a1)) (D := D) (v := a2) hq
    rw [hR2] at p1
    have p2 := ly_dp7_2 (C := uk C t (fun _ => Int32.ofNat 0)) (L := uk L t (fun _ => Int64.ofNat 0)) (R := uk R2 t (fun _ => some (max m1 m2))) (D := ly_fz x Z C L R2 D t) (v := D.1) hq2
    have k1 := ly_dn8 (C := C) (L := L) (D := D) e1 h1
    have k2 := ly_dn9 (C := C) (L := L) (D := D) e2 h2
    have b1 : m1 < 2147483648 := by omega
    have b2 : m2 < 2147483648 := by omega
    simp only [e_Te_init, r_Te_init_0, r_Te_init_1, r_Te_init_4, r_Te_init_5, r_Te_init_6, r_Te_init_9, r_Te_init_10, r_Te_init_11, r_Te_init_14, r_Te_init_15, r_Te_init_16, r_Te_init_17, r_Te_init_18, r_Te_init_19, r_Te_init_22, r_Te_init_24, r_Te_init_27, i3n_0, i3n_1, l6n_0, l6n_1, am_kf_s, am_km_s, am_kn_s, am_k_v, am_k_0, am_isr_r, am_isr_n, am_isr_v, am_sw_0, am_sw_i, am_sw_l, am_sw_r, am_sw_n, am_sw_v, am_ct_i, am_ct_r, am_ct_n, am_c1_o, am_c1_n, am_c1_i, am_c1_r, am_c1_v, am_mk_1, lc_lt, lc_gt, lc_eq, lc_le, lc_ge, i01_eq, i01_ok, ite_not, true_or, or_true, true_and, and_true, false_or, or_false, false_and, and_false, if_true, if_false, not_true_eq_false, not_false_eq_true, eq_self, Nat.reduceAdd, Nat.reduceLeDiff, Nat.reduceLT, Nat.reduceEqDiff, Nat.reduceMul, Nat.reduceSub, Nat.reduceDiv, Nat.reduceMod, reduceCtorEq, Nat.zero_le, i3_le, i3_lt, i3_eq, i3_eqN, i3_leN, i3_Nle, i3_ltN, i3_NleN, i3_NeqN, i3_Neq, i3_NltN, i3_Nlt, l6_le, l6_lt, l6_eq, l6_leN, l6_Nle, l6_ltN, l6_Nlt, l6_eqN, l6_Neq, p0, p1, k1, k2, b1, b2, hmax, ly_newa (show max m1 m2 ≤ 1000 by omega), hadd, p2]
  · rw [ux_eq, if_neg (by omega), uk_eq, if_neg hst, ← hR2]; simp only [ux_eq, Nat.reduceEqDiff, and_false, if_false, if_true, and_self]
  · rw [ux_eq, if_neg (by omega), uk_eq, if_neg hst, ← hR2]; simp only [ux_eq, if_true, and_self]
  · rw [ux_eq, if_pos ⟨rfl, rfl⟩]
  · rw [ux_eq, if_neg (by omega), uk_eq, if_pos rfl]
end
