/-! FIT: the least of all pairs -/
def fi_ok (S : Nat → Nat → Nat) (P : Nat → Nat → Prop) (b l c : Nat) : Prop := P l c ∧ S l c = b ∧ ∀ l' c', P l' c' → b < S l' c' ∨ (b = S l' c' ∧ (l < l' ∨ (l = l' ∧ c ≤ c')))
/-- none: no pair was seen yet -/
def fi_st (S : Nat → Nat → Nat) (P : Nat → Nat → Prop) (o : Option Nat) (l c : Nat) : Prop := match o with
  | none => ∀ l' c', ¬ P l' c'
  | some b => fi_ok S P b l c
def fi_v (o : Option Nat) : Int64 := match o with
  | none => -Int64.ofNat 1
  | some b => Int64.ofNat b
theorem fi_eq {S : Nat → Nat → Nat} {P P' : Nat → Nat → Prop} {o : Option Nat} {l c : Nat} (h : fi_st S P o l c) (hp : ∀ l c, P' l c ↔ P l c) : fi_st S P' o l c := by
  have e : P' = P := funext fun l => funext fun c => propext (hp l c)
  rw [e]; exact h
theorem fi_eq2 {S : Nat → Nat → Nat} {P P' : Nat → Nat → Prop} {b l c : Nat} (h : fi_ok S P b l c) (hp : ∀ l c, P' l c ↔ P l c) : fi_st S P' (some b) l c := by
  have e : P' = P := funext fun l => funext fun c => propext (hp l c)
  rw [e]; exact h
theorem fi_new {S : Nat → Nat → Nat} {P : Nat → Nat → Prop} {b l c l1 c1 : Nat} (h : fi_ok S P b l c) (hn : S l1 c1 < b ∨ (S l1 c1 = b ∧ l1 < l)) : fi_ok S (fun a e => P a e ∨ (a = l1 ∧ e = c1)) (S l1 c1) l1 c1 := by
  refine ⟨Or.inr ⟨rfl, rfl⟩, rfl, fun l' c' hp => ?_⟩
  rcases hp with hp | ⟨rfl, rfl⟩
  · rcases h.2.2 l' c' hp with q | ⟨q, q2⟩
    · rcases hn with hn | hn
      · exact Or.inl (by omega)
      · exact Or.inl (by omega)
    · rcases hn with hn | hn
      · exact Or.inl (by omega)
      · exact Or.inr ⟨by omega, Or.inl (by omega)⟩
  · exact Or.inr ⟨rfl, Or.inr ⟨rfl, Nat.le_refl _⟩⟩
theorem fi_first {S : Nat → Nat → Nat} {P : Nat → Nat → Prop} {l1 c1 : Nat} (h : ∀ l' c', ¬ P l' c') : fi_ok S (fun a e => P a e ∨ (a = l1 ∧ e = c1)) (S l1 c1) l1 c1 := by
  refine ⟨Or.inr ⟨rfl, rfl⟩, rfl, fun l' c' hp => ?_⟩
  rcases hp with hp | ⟨rfl, rfl⟩
  · exact absurd hp (h l' c')
  · exact Or.inr ⟨rfl, Or.inr ⟨rfl, Nat.le_refl _⟩⟩
theorem fi_keep {S : Nat → Nat → Nat} {P : Nat → Nat → Prop} {b l c l1 c1 : Nat} (h : fi_ok S P b l c) (hn : b < S l1 c1 ∨ (b = S l1 c1 ∧ (l < l1 ∨ (l = l1 ∧ c ≤ c1)))) : fi_ok S (fun a e => P a e ∨ (a = l1 ∧ e = c1)) b l c := by
  refine ⟨Or.inl h.1, h.2.1, fun l' c' hp => ?_⟩
  rcases hp with hp | ⟨rfl, rfl⟩
  · exact h.2.2 l' c' hp
  · exact hn
theorem fi_uniq {S : Nat → Nat → Nat} {P : Nat → Nat → Prop} {b l c b1 l1 c1 : Nat} (h : fi_ok S P b l c) (h1 : fi_ok S P b1 l1 c1) : b = b1 ∧ l = l1 ∧ c = c1 := by
  have q1 := h.2.2 l1 c1 h1.1
  have q2 := h1.2.2 l c h.1
  rw [h1.2.1] at q1
  rw [h.2.1] at q2
  omega
/-- the pairs of a part -/
def fi_P (lo hi c : Nat) (q : Nat) : Nat → Nat → Prop := fun a e => lo ≤ a ∧ a ≤ hi ∧ ((e < c ∧ e % 10 = 0) ∨ (e = c ∧ a < q))
section
variable {G : Nat → Value} {x : Nat} {N : Nat → Nat → Nat} {Z : ly_Z} {D : am_M}
theorem l_H_fit1 {C : Nat → Nat → Int32} {L : Nat → Nat → Int64} {R : Nat → Nat → Option Nat} (h : rl G N x Z C R D) {l : List Nat} (hs : sp_ok N Z C L R l) (hl : l.length ≤ 40) (hv : ∀ i, i ∈ l → i < N 31 27) {d c lo hi w : Nat} (hc : c ≤ 999) (hc10 : c % 10 = 0) (hlo : lo ≤ hi) (hhi : hi ≤ 999) (ha : ∀ k' i, l[k']? = some i → L 15 k' = Int64.ofNat (mA N i c)) : ∀ (r q : Nat) (o : Option Nat) (law cu : Nat) (l10 l11 l12 l13 : Option Value), hi + 1 - q = r → lo ≤ q → q ≤ hi + 1 → law ≤ 999 → cu ≤ 999 → fi_st (fun a e => su N e a l) (fi_P lo hi c q) o law cu → ∃ (o' : Option Nat) (law' cu' : Nat) (m10 m11 m12 m13 : Option Value), am_run G (d + 3) K_H_fit (57, [some (.ref x), some (.int (Int32.ofNat lo)), some (.int (Int32.ofNat hi)), some (.int (Int32.ofNat w)), some (.long (fi_v o)), none, some (.int (Int32.ofNat law)), some (.int (Int32.ofNat cu)), some (.int (Int32.ofNat c)), some (.int (Int32.ofNat q)), l10, l11, l12, l13], [], am_mk x true Z C L R D) = am_run G (d + 3) K_H_fit (133, [some (.ref x), some (.int (Int32.ofNat lo)), some (.int (Int32.ofNat hi)), some (.int (Int32.ofNat w)), some (.long (fi_v o')), none, some (.int (Int32.ofNat law')), some (.int (Int32.ofNat cu')), some (.int (Int32.ofNat c)), some (.int (Int32.ofNat (hi + 1))), m10, m11, m12, m13], [], am_mk x true Z C L R D) ∧ law' ≤ 999 ∧ cu' ≤ 999 ∧ fi_st (fun a e => su N e a l) (fi_P lo hi c (hi + 1)) o' law' cu' := by
  intro r
  induction r with
  | zero =>
    intro q o law cu l10 l11 l12 l13 hr hq1 hq2 hlaw hcu hst
    have e : q = hi + 1 := by omega
    subst e
    have b1 : hi + 1 < 2147483648 := by omega
    have b2 : hi < 2147483648 := by omega
    have b3 : hi < hi + 1 := by omega
    refine ⟨o, law, cu, l10, l11, l12, l13, ?_, hlaw, hcu, hst⟩
    rw [r_H_fit_57]
    simp only [r_H_fit_59, r_H_fit_60, ly_k0, ly_g0_12, ly_k10, i3n_0, i3n_1, i3n_2, i3n_10, i3n_990, l6n_0, l6n_1, l6n_4611686018427387904, l6n_9223372036854775807, am_kf_s, am_km_s, am_kn_s, am_k_v, am_k_0, am_isr_r, am_isr_n, am_isr_v, am_sw_0, am_sw_i, am_sw_l, am_sw_r, am_sw_n, am_sw_v, am_ct_i, am_ct_r, am_ct_n, am_c1_o, am_c1_n, am_c1_i, am_c1_r, am_c1_v, am_mk_1, lc_lt, lc_gt, lc_eq, lc_le, lc_ge, i01_eq, i01_ok, ite_not, true_or, or_true, true_and, and_true, false_or, or_false, false_and, and_false, if_true, if_false, not_true_eq_false, not_false_eq_true, eq_self, Nat.reduceAdd, Nat.reduceLeDiff, Nat.reduceLT, Nat.reduceEqDiff, Nat.reduceMul, Nat.reduceSub, Nat.reduceDiv, Nat.reduceMod, reduceCtorEq, Nat.zero_le, i3_le, i3_lt, i3_eq, i3_eqN, i3_leN, i3_Nle, i3_ltN, i3_NleN, i3_NeqN, i3_Neq, i3_NltN, i3_Nlt, l6_le, l6_lt, l6_eq, l6_leN, l6_Nle, l6_ltN, l6_Nlt, l6_eqN, l6_Neq, b1, b2, b3, ↓reduceIte]
  | succ r ih =>
    intro q o law cu l10 l11 l12 l13 hr hq1 hq2 hlaw hcu hst
    have hqh : q ≤ hi := by omega
    have b1 : q < 2147483648 := by omega
    have b2 : hi < 2147483648 := by omega
    have b3 : ¬ hi < q := by omega
    have b4 : law < 2147483648 := by omega
    have hsu := su_le h (c := c) (l := q) (by omega) hv
    have hsu2 : su N c q l < 1000000000000 := by omega
    have hP : ∀ a e, fi_P lo hi c (q + 1) a e ↔ (fi_P lo hi c q a e ∨ (a = q ∧ e = c)) := by
      intro a e
      unfold fi_P
      omega
    have k10 := ly_k10 (x := x) (b := true) (Z := Z) (C := C) (L := L) (R := R) (D := D)
    cases o with
    | none =>
      have hst : ∀ l' c', ¬ fi_P lo hi c q l' c' := hst
      obtain ⟨s, e1, s1, s2, -⟩ := x_Sp_sumUpTo h hs hl hv (d := d) (law := q) (m := 9223372036854775807) hc (by omega) (by omega) ha
      obtain rfl := s2 (by omega)
      obtain ⟨o', law', cu', m10, m11, m12, m13, w1, w2⟩ := ih (q + 1) (some (su N c q l)) q c (some (.long (Int64.ofNat 9223372036854775807))) none (some (.long (Int64.ofNat (su N c q l)))) none (by omega) (by omega) (by omega) (by omega) hc (fi_eq2 (fi_first (S := fun a e => su N e a l) (l1 := q) (c1 := c) hst) hP)
      refine ⟨o', law', cu', m10, m11, m12, m13, ?_, w2⟩
      rw [← w1, r_H_fit_57]
      have b5 : su N c q l ≤ 9223372036854775807 := by omega
      have b6 : ¬ 9223372036854775807 < su N c q l := by omega
      have b7 : (9223372036854775807 : Nat) < 9223372036854775808 := by decide
      simp only [r_H_fit_59, r_H_fit_60, r_H_fit_63, r_H_fit_65, r_H_fit_66, r_H_fit_67, r_H_fit_70, r_H_fit_73, r_H_fit_76, r_H_fit_78, r_H_fit_80, r_H_fit_83, r_H_fit_85, r_H_fit_88, r_H_fit_90, r_H_fit_91, r_H_fit_92, r_H_fit_92_k, r_H_fit_94, r_H_fit_95, r_H_fit_98, r_H_fit_100, r_H_fit_102, r_H_fit_105, r_H_fit_105_k, r_H_fit_107, r_H_fit_109, r_H_fit_111, r_H_fit_112, r_H_fit_115, r_H_fit_117, r_H_fit_117_k, r_H_fit_119, r_H_fit_121, r_H_fit_121_k, r_H_fit_123, r_H_fit_125, r_H_fit_125_k, r_H_fit_127, r_H_fit_127_k, r_H_fit_130, ly_k0, ly_g0_12, ly_k10, i3n_0, i3n_1, i3n_2, i3n_10, i3n_990, l6n_0, l6n_1, l6n_4611686018427387904, l6n_9223372036854775807, am_kf_s, am_km_s, am_kn_s, am_k_v, am_k_0, am_isr_r, am_isr_n, am_isr_v, am_sw_0, am_sw_i, am_sw_l, am_sw_r, am_sw_n, am_sw_v, am_ct_i, am_ct_r, am_ct_n, am_c1_o, am_c1_n, am_c1_i, am_c1_r, am_c1_v, am_mk_1, lc_lt, lc_gt, lc_eq, lc_le, lc_ge, i01_eq, i01_ok, ite_not, true_or, or_true, true_and, and_true, false_or, or_false, false_and, and_false, if_true, if_false, not_true_eq_false, not_false_eq_true, eq_self, Nat.reduceAdd, Nat.reduceLeDiff, Nat.reduceLT, Nat.reduceEqDiff, Nat.reduceMul, Nat.reduceSub, Nat.reduceDiv, Nat.reduceMod, reduceCtorEq, Nat.zero_le, i3_le, i3_lt, i3_eq, i3_eqN, i3_leN, i3_Nle, i3_ltN, i3_NleN, i3_NeqN, i3_Neq, i3_NltN, i3_Nlt, l6_le, l6_lt, l6_eq, l6_leN, l6_Nle, l6_ltN, l6_Nlt, l6_eqN, l6_Neq, fi_v, b1, b2, b3, b5, b6, b7, s1, e1, i3_add, ↓reduceIte]
    | some b =>
      have hst : fi_ok (fun a e => su N e a l) (fi_P lo hi c q) b law cu := hst
      have hSb : su N cu law l = b := hst.2.1
      have hsb := su_le h (c := cu) (l := law) hlaw hv
      have hb : b < 1000000000000 := by omega
      have hb2 : b < 9223372036854775808 := by omega
      have hcu' : cu ≤ c := by have := hst.1; unfold fi_P at this; omega
      have nb : ¬ b < 0 := Nat.not_lt_zero _
      by_cases hql : q < law
      · obtain ⟨s, e1, s1, s2, s3⟩ := x_Sp_sumUpTo h hs hl hv (d := d) (law := q) (m := b) hc (by omega) hb2 ha
        have b8 : ¬ law ≤ q := by omega
        by_cases hle : su N c q l ≤ b
        · obtain rfl := s2 hle
          have hn := fi_new (l1 := q) (c1 := c) hst (by show su N c q l < _ ∨ (su N c q l = _ ∧ q < law); omega)
          obtain ⟨o', law', cu', m10, m11, m12, m13, w1, w2⟩ := ih (q + 1) (some (su N c q l)) q c (some (.long (Int64.ofNat b))) none (some (.long (Int64.ofNat (su N c q l)))) none (by omega) (by omega) (by omega) (by omega) hc (fi_eq2 hn hP)
          refine ⟨o', law', cu', m10, m11, m12, m13, ?_, w2⟩
          rw [← w1, r_H_fit_57]
          have b9 : ¬ b < su N c q l := by omega
          simp only [r_H_fit_59, r_H_fit_60, r_H_fit_63, r_H_fit_65, r_H_fit_66, r_H_fit_67, r_H_fit_70, r_H_fit_73, r_H_fit_76, r_H_fit_78, r_H_fit_80, r_H_fit_83, r_H_fit_85, r_H_fit_88, r_H_fit_90, r_H_fit_91, r_H_fit_92, r_H_fit_92_k, r_H_fit_94, r_H_fit_95, r_H_fit_98, r_H_fit_100, r_H_fit_102, r_H_fit_105, r_H_fit_105_k, r_H_fit_107, r_H_fit_109, r_H_fit_111, r_H_fit_112, r_H_fit_115, r_H_fit_117, r_H_fit_117_k, r_H_fit_119, r_H_fit_121, r_H_fit_121_k, r_H_fit_123, r_H_fit_125, r_H_fit_125_k, r_H_fit_127, r_H_fit_127_k, r_H_fit_130, ly_k0, ly_g0_12, ly_k10, i3n_0, i3n_1, i3n_2, i3n_10, i3n_990, l6n_0, l6n_1, l6n_4611686018427387904, l6n_9223372036854775807, am_kf_s, am_km_s, am_kn_s, am_k_v, am_k_0, am_isr_r, am_isr_n, am_isr_v, am_sw_0, am_sw_i, am_sw_l, am_sw_r, am_sw_n, am_sw_v, am_ct_i, am_ct_r, am_ct_n, am_c1_o, am_c1_n, am_c1_i, am_c1_r, am_c1_v, am_mk_1, lc_lt, lc_gt, lc_eq, lc_le, lc_ge, i01_eq, i01_ok, ite_not, true_or, or_true, true_and, and_true, false_or, or_false, false_and, and_false, if_true, if_false, not_true_eq_false, not_false_eq_true, eq_self, Nat.reduceAdd, Nat.reduceLeDiff, Nat.reduceLT, Nat.reduceEqDiff, Nat.reduceMul, Nat.reduceSub, Nat.reduceDiv, Nat.reduceMod, reduceCtorEq, Nat.zero_le, i3_le, i3_lt, i3_eq, i3_eqN, i3_leN, i3_Nle, i3_ltN, i3_NleN, i3_NeqN, i3_Neq, i3_NltN, i3_Nlt, l6_le, l6_lt, l6_eq, l6_leN, l6_Nle, l6_ltN, l6_Nlt, l6_eqN, l6_Neq, fi_v, b1, b2, b3, b4, hb2, nb, hql, b8, b9, hle, s1, e1, i3_add, ↓reduceIte]
        · have hgt := s3 (by omega)
          have hn := fi_keep (l1 := q) (c1 := c) hst (by show _ < su N c q l ∨ (_ = su N c q l ∧ (law < q ∨ (law = q ∧ cu ≤ c))); omega)
          obtain ⟨o', law', cu', m10, m11, m12, m13, w1, w2⟩ := ih (q + 1) (some b) law cu (some (.long (Int64.ofNat b))) none (some (.long (Int64.ofNat s))) none (by omega) (by omega) (by omega) hlaw hcu (fi_eq2 hn hP)
          refine ⟨o', law', cu', m10, m11, m12, m13, ?_, w2⟩
          rw [← w1, r_H_fit_57]
          have b9 : ¬ s ≤ b := by omega
          simp only [r_H_fit_59, r_H_fit_60, r_H_fit_63, r_H_fit_65, r_H_fit_66, r_H_fit_67, r_H_fit_70, r_H_fit_73, r_H_fit_76, r_H_fit_78, r_H_fit_80, r_H_fit_83, r_H_fit_85, r_H_fit_88, r_H_fit_90, r_H_fit_91, r_H_fit_92, r_H_fit_92_k, r_H_fit_94, r_H_fit_95, r_H_fit_98, r_H_fit_100, r_H_fit_102, r_H_fit_105, r_H_fit_105_k, r_H_fit_107, r_H_fit_109, r_H_fit_111, r_H_fit_112, r_H_fit_115, r_H_fit_117, r_H_fit_117_k, r_H_fit_119, r_H_fit_121, r_H_fit_121_k, r_H_fit_123, r_H_fit_125, r_H_fit_125_k, r_H_fit_127, r_H_fit_127_k, r_H_fit_130, ly_k0, ly_g0_12, ly_k10, i3n_0, i3n_1, i3n_2, i3n_10, i3n_990, l6n_0, l6n_1, l6n_4611686018427387904, l6n_9223372036854775807, am_kf_s, am_km_s, am_kn_s, am_k_v, am_k_0, am_isr_r, am_isr_n, am_isr_v, am_sw_0, am_sw_i, am_sw_l, am_sw_r, am_sw_n, am_sw_v, am_ct_i, am_ct_r, am_ct_n, am_c1_o, am_c1_n, am_c1_i, am_c1_r, am_c1_v, am_mk_1, lc_lt, lc_gt, lc_eq, lc_le, lc_ge, i01_eq, i01_ok, ite_not, true_or, or_true, true_and, and_true, false_or, or_false, false_and, and_false, if_true, if_false, not_true_eq_false, not_false_eq_true, eq_self, Nat.reduceAdd, Nat.reduceLeDiff, Nat.reduceLT, Nat.reduceEqDiff, Nat.reduceMul, Nat.reduceSub, Nat.reduceDiv, Nat.reduceMod, reduceCtorEq, Nat.zero_le, i3_le, i3_lt, i3_eq, i3_eqN, i3_leN, i3_Nle, i3_ltN, i3_NleN, i3_NeqN, i3_Neq, i3_NltN, i3_Nlt, l6_le, l6_lt, l6_eq, l6_leN, l6_Nle, l6_ltN, l6_Nlt, l6_eqN, l6_Neq, fi_v, b1, b2, b3, b4, hb2, nb, hql, b8, b9, hgt, s1, e1, i3_add, ↓reduceIte]
      · have b8 : law ≤ q := by omega
        cases b with
        | zero =>
          have e1 := x_Sp_sumUpTo_n (G := G) (x := x) (D := D) hs hl (d := d) (law := q)
          have hn := fi_keep (l1 := q) (c1 := c) hst (by show _ < su N c q l ∨ (_ = su N c q l ∧ (law < q ∨ (law = q ∧ cu ≤ c))); omega)
          obtain ⟨o', law', cu', m10, m11, m12, m13, w1, w2⟩ := ih (q + 1) (some 0) law cu (some (.long (-Int64.ofNat 1))) none (some (.long (Int64.ofNat 0))) none (by omega) (by omega) (by omega) hlaw hcu (fi_eq2 hn hP)
          refine ⟨o', law', cu', m10, m11, m12, m13, ?_, w2⟩
          rw [← w1, r_H_fit_57]
          have e0 : Int64.ofNat 0 - Int64.ofNat 1 = -Int64.ofNat 1 := by decide
          simp only [r_H_fit_59, r_H_fit_60, r_H_fit_63, r_H_fit_65, r_H_fit_66, r_H_fit_67, r_H_fit_70, r_H_fit_73, r_H_fit_76, r_H_fit_78, r_H_fit_80, r_H_fit_83, r_H_fit_85, r_H_fit_88, r_H_fit_90, r_H_fit_91, r_H_fit_92, r_H_fit_92_k, r_H_fit_94, r_H_fit_95, r_H_fit_98, r_H_fit_100, r_H_fit_102, r_H_fit_105, r_H_fit_105_k, r_H_fit_107, r_H_fit_109, r_H_fit_111, r_H_fit_112, r_H_fit_115, r_H_fit_117, r_H_fit_117_k, r_H_fit_119, r_H_fit_121, r_H_fit_121_k, r_H_fit_123, r_H_fit_125, r_H_fit_125_k, r_H_fit_127, r_H_fit_127_k, r_H_fit_130, ly_k0, ly_g0_12, ly_k10, i3n_0, i3n_1, i3n_2, i3n_10, i3n_990, l6n_0, l6n_1, l6n_4611686018427387904, l6n_9223372036854775807, am_kf_s, am_km_s, am_kn_s, am_k_v, am_k_0, am_isr_r, am_isr_n, am_isr_v, am_sw_0, am_sw_i, am_sw_l, am_sw_r, am_sw_n, am_sw_v, am_ct_i, am_ct_r, am_ct_n, am_c1_o, am_c1_n, am_c1_i, am_c1_r, am_c1_v, am_mk_1, lc_lt, lc_gt, lc_eq, lc_le, lc_ge, i01_eq, i01_ok, ite_not, true_or, or_true, true_and, and_true, false_or, or_false, false_and, and_false, if_true, if_false, not_true_eq_false, not_false_eq_true, eq_self, Nat.reduceAdd, Nat.reduceLeDiff, Nat.reduceLT, Nat.reduceEqDiff, Nat.reduceMul, Nat.reduceSub, Nat.reduceDiv, Nat.reduceMod, reduceCtorEq, Nat.zero_le, i3_le, i3_lt, i3_eq, i3_eqN, i3_leN, i3_Nle, i3_ltN, i3_NleN, i3_NeqN, i3_Neq, i3_NltN, i3_Nlt, l6_le, l6_lt, l6_eq, l6_leN, l6_Nle, l6_ltN, l6_Nlt, l6_eqN, l6_Neq, fi_v, b1, b2, b3, b4, hb2, nb, hql, b8, e0, e1, i3_add, Nat.zero_lt_one, ↓reduceIte]
        | succ b' =>
          have e0 : Int64.ofNat (b' + 1) - Int64.ofNat 1 = Int64.ofNat b' := l6_sub (by omega)
          have hb3 : b' < 9223372036854775808 := by omega
          obtain ⟨s, e1, s1, s2, s3⟩ := x_Sp_sumUpTo h hs hl hv (d := d) (law := q) (m := b') hc (by omega) hb3 ha
          by_cases hle : su N c q l ≤ b'
          · obtain rfl := s2 hle
            have hn := fi_new (l1 := q) (c1 := c) hst (by show su N c q l < _ ∨ (su N c q l = _ ∧ q < law); omega)
            obtain ⟨o', law', cu', m10, m11, m12, m13, w1, w2⟩ := ih (q + 1) (some (su N c q l)) q c (some (.long (Int64.ofNat b'))) none (some (.long (Int64.ofNat (su N c q l)))) none (by omega) (by omega) (by omega) (by omega) hc (fi_eq2 hn hP)
            refine ⟨o', law', cu', m10, m11, m12, m13, ?_, w2⟩
            rw [← w1, r_H_fit_57]
            have b9 : ¬ b' < su N c q l := by omega
            simp only [r_H_fit_59, r_H_fit_60, r_H_fit_63, r_H_fit_65, r_H_fit_66, r_H_fit_67, r_H_fit_70, r_H_fit_73, r_H_fit_76, r_H_fit_78, r_H_fit_80, r_H_fit_83, r_H_fit_85, r_H_fit_88, r_H_fit_90, r_H_fit_91, r_H_fit_92, r_H_fit_92_k, r_H_fit_94, r_H_fit_95, r_H_fit_98, r_H_fit_100, r_H_fit_102, r_H_fit_105, r_H_fit_105_k, r_H_fit_107, r_H_fit_109, r_H_fit_111, r_H_fit_112, r_H_fit_115, r_H_fit_117, r_H_fit_117_k, r_H_fit_119, r_H_fit_121, r_H_fit_121_k, r_H_fit_123, r_H_fit_125, r_H_fit_125_k, r_H_fit_127, r_H_fit_127_k, r_H_fit_130, ly_k0, ly_g0_12, ly_k10, i3n_0, i3n_1, i3n_2, i3n_10, i3n_990, l6n_0, l6n_1, l6n_4611686018427387904, l6n_9223372036854775807, am_kf_s, am_km_s, am_kn_s, am_k_v, am_k_0, am_isr_r, am_isr_n, am_isr_v, am_sw_0, am_sw_i, am_sw_l, am_sw_r, am_sw_n, am_sw_v, am_ct_i, am_ct_r, am_ct_n, am_c1_o, am_c1_n, am_c1_i, am_c1_r, am_c1_v, am_mk_1, lc_lt, lc_gt, lc_eq, lc_le, lc_ge, i01_eq, i01_ok, ite_not, true_or, or_true, true_and, and_true, false_or, or_false, false_and, and_false, if_true, if_false, not_true_eq_false, not_false_eq_true, eq_self, Nat.reduceAdd, Nat.reduceLeDiff, Nat.reduceLT, Nat.reduceEqDiff, Nat.reduceMul, Nat.reduceSub, Nat.reduceDiv, Nat.reduceMod, reduceCtorEq, Nat.zero_le, i3_le, i3_lt, i3_eq, i3_eqN, i3_leN, i3_Nle, i3_ltN, i3_NleN, i3_NeqN, i3_Neq, i3_NltN, i3_Nlt, l6_le, l6_lt, l6_eq, l6_leN, l6_Nle, l6_ltN, l6_Nlt, l6_eqN, l6_Neq, fi_v, b1, b2, b3, b4, hb2, hb3, nb, hql, b8, b9, hle, e0, s1, e1, i3_add, ↓reduceIte]
          · have hgt := s3 (by omega)
            have hn := fi_keep (l1 := q) (c1 := c) hst (by show _ < su N c q l ∨ (_ = su N c q l ∧ (law < q ∨ (law = q ∧ cu ≤ c))); omega)
            obtain ⟨o', law', cu', m10, m11, m12, m13, w1, w2⟩ := ih (q + 1) (some (b' + 1)) law cu (some (.long (Int64.ofNat b'))) none (some (.long (Int64.ofNat s))) none (by omega) (by omega) (by omega) hlaw hcu (fi_eq2 hn hP)
            refine ⟨o', law', cu', m10, m11, m12, m13, ?_, w2⟩
            rw [← w1, r_H_fit_57]
            have b9 : ¬ s ≤ b' := by omega
            simp only [r_H_fit_59, r_H_fit_60, r_H_fit_63, r_H_fit_65, r_H_fit_66, r_H_fit_67, r_H_fit_70, r_H_fit_73, r_H_fit_76, r_H_fit_78, r_H_fit_80, r_H_fit_83, r_H_fit_85, r_H_fit_88, r_H_fit_90, r_H_fit_91, r_H_fit_92, r_H_fit_92_k, r_H_fit_94, r_H_fit_95, r_H_fit_98, r_H_fit_100, r_H_fit_102, r_H_fit_105, r_H_fit_105_k, r_H_fit_107, r_H_fit_109, r_H_fit_111, r_H_fit_112, r_H_fit_115, r_H_fit_117, r_H_fit_117_k, r_H_fit_119, r_H_fit_121, r_H_fit_121_k, r_H_fit_123, r_H_fit_125, r_H_fit_125_k, r_H_fit_127, r_H_fit_127_k, r_H_fit_130, ly_k0, ly_g0_12, ly_k10, i3n_0, i3n_1, i3n_2, i3n_10, i3n_990, l6n_0, l6n_1, l6n_4611686018427387904, l6n_9223372036854775807, am_kf_s, am_km_s, am_kn_s, am_k_v, am_k_0, am_isr_r, am_isr_n, am_isr_v, am_sw_0, am_sw_i, am_sw_l, am_sw_r, am_sw_n, am_sw_v, am_ct_i, am_ct_r, am_ct_n, am_c1_o, am_c1_n, am_c1_i, am_c1_r, am_c1_v, am_mk_1, lc_lt, lc_gt, lc_eq, lc_le, lc_ge, i01_eq, i01_ok, ite_not, true_or, or_true, true_and, and_true, false_or, or_false, false_and, and_false, if_true, if_false, not_true_eq_false, not_false_eq_true, eq_self, Nat.reduceAdd, Nat.reduceLeDiff, Nat.reduceLT, Nat.reduceEqDiff, Nat.reduceMul, Nat.reduceSub, Nat.reduceDiv, Nat.reduceMod, reduceCtorEq, Nat.zero_le, i3_le, i3_lt, i3_eq, i3_eqN, i3_leN, i3_Nle, i3_ltN, i3_NleN, i3_NeqN, i3_Neq, i3_NltN, i3_Nlt, l6_le, l6_lt, l6_eq, l6_leN, l6_Nle, l6_ltN, l6_Nlt, l6_eqN, l6_Neq, fi_v, b1, b2, b3, b4, hb2, hb3, nb, hql, b8, b9, hgt, e0, s1, e1, i3_add, ↓reduceIte]
end
