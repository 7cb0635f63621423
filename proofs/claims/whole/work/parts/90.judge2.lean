/-! LETS: the class's judge, whole; all CUSHIONS -/
def jf (o : Option Nat) (c : Nat) : Nat := match o with
  | none => c
  | some e => e
theorem jp_le {P P' : Nat → Nat → Prop} {Q : Nat → Prop} {c n : Nat} {o : Option Nat} (h : le_st P o) (hP : ∀ q e, P' q e ↔ (P q e ∨ (e = c ∧ Q q))) (hlt : ∀ q e, P q e → e < c) (hn : n = 0 ↔ ∀ q, ¬ Q q) : le_st P' (if n = 0 then o else some (jf o c)) := by
  by_cases h0 : n = 0
  · rw [if_pos h0]
    have hq := hn.mp h0
    exact le_eq h (fun q e => ⟨fun hp => by
      rcases (hP q e).mp hp with r | ⟨-, r⟩
      · exact r
      · exact absurd r (hq q), fun hp => (hP q e).mpr (Or.inl hp)⟩)
  · rw [if_neg h0]
    have hq : ∃ q, Q q := Classical.byContradiction fun hne => h0 (hn.mpr fun q hq => hne ⟨q, hq⟩)
    obtain ⟨q0, hq0⟩ := hq
    cases o with
    | none =>
      refine ⟨⟨q0, (hP _ _).mpr (Or.inr ⟨rfl, hq0⟩)⟩, fun q e hp => ?_⟩
      rcases (hP q e).mp hp with r | ⟨rfl, -⟩
      · exact absurd r (h q e)
      · exact Nat.le_refl _
    | some m =>
      obtain ⟨⟨q1, hq1⟩, h2⟩ := h
      refine ⟨⟨q1, (hP _ _).mpr (Or.inl hq1)⟩, fun q e hp => ?_⟩
      rcases (hP q e).mp hp with r | ⟨rfl, -⟩
      · exact h2 q e r
      · exact Nat.le_of_lt (hlt q1 m hq1)
theorem jp_ge {P P' : Nat → Nat → Prop} {Q : Nat → Prop} {c n : Nat} {o : Option Nat} (h : ge_st P o) (hP : ∀ q e, P' q e ↔ (P q e ∨ (e = c ∧ Q q))) (hlt : ∀ q e, P q e → e < c) (hn : n = 0 ↔ ∀ q, ¬ Q q) : ge_st P' (if n = 0 then o else some c) := by
  by_cases h0 : n = 0
  · rw [if_pos h0]
    have hq := hn.mp h0
    exact ge_eq h (fun q e => ⟨fun hp => by
      rcases (hP q e).mp hp with r | ⟨-, r⟩
      · exact r
      · exact absurd r (hq q), fun hp => (hP q e).mpr (Or.inl hp)⟩)
  · rw [if_neg h0]
    have hq : ∃ q, Q q := Classical.byContradiction fun hne => h0 (hn.mpr fun q hq => hne ⟨q, hq⟩)
    obtain ⟨q0, hq0⟩ := hq
    refine ⟨⟨q0, (hP _ _).mpr (Or.inr ⟨rfl, hq0⟩)⟩, fun q e hp => ?_⟩
    rcases (hP q e).mp hp with r | ⟨rfl, -⟩
    · exact Nat.le_of_lt (hlt q e r)
    · exact Nat.le_refl _
theorem ux_self {α : Type} {C : Nat → Nat → α} {k j : Nat} : ux C k j (C k j) = C := by
  funext a c
  rw [ux_eq]
  by_cases h : a = k ∧ c = j
  · rw [if_pos h, h.1, h.2]
  · rw [if_neg h]
/-- how many LAWS one CUSHION lets -/
def jn (N : Nat → Nat → Nat) (s c lo hi : Nat) (l : List Nat) : Nat := sm (hi + 1 - lo) (fun t => ib (okb N s l (lo + t) c))
section
variable {G : Nat → Value} {x : Nat} {N : Nat → Nat → Nat} {Z : ly_Z} {C : Nat → Nat → Int32} {L : Nat → Nat → Int64} {R : Nat → Nat → Option Nat} {D : am_M}
theorem x_Sp_judge (h : rl G N x Z C R D) {l : List Nat} (hs : sp_ok N Z C L R l) (hl : l.length ≤ 40) (hv : ∀ i, i ∈ l → i < N 31 27) {d c s lo hi v0 n0 : Nat} {o1 o2 : Option Nat} (hc : c ≤ 999) (hs9 : s ≤ 9999) (hlo : lo ≤ hi) (hhi : hi ≤ 999) (ha : ∀ k' i, l[k']? = some i → L 15 k' = Int64.ofNat (mA N i c)) (c7 : C 10 7 = Int32.ofNat n0) (c8 : C 10 8 = jo o1) (c9 : C 10 9 = jo o2) (c10 : C 10 10 = Int32.ofNat v0) (hv0 : v0 ≤ 40) (ho1 : ∀ e, o1 = some e → e ≤ 999) : ∃ (C' : Nat → Nat → Int32) (v' : Nat), am_ex G (d + 3) K_Sp_judge [.ref (x + 10), .int (Int32.ofNat lo), .int (Int32.ofNat hi), .int (Int32.ofNat c), .int (Int32.ofNat s)] (am_mk x true Z C L R D) = some (none, am_mk x true Z C' L R D) ∧ (∀ k j, ¬ (k = 10 ∧ 7 ≤ j ∧ j ≤ 10) → C' k j = C k j) ∧ C' 10 7 = Int32.ofNat (n0 + jn N s c lo hi l) ∧ C' 10 8 = jo (if jn N s c lo hi l = 0 then o1 else some (jf o1 c)) ∧ C' 10 9 = jo (if jn N s c lo hi l = 0 then o2 else some c) ∧ C' 10 10 = Int32.ofNat v' ∧ v' ≤ 40 ∧ fu N s c lo hi l v0 l.length v' := by
  obtain ⟨a, m, v, k, w1, w2, w3, w4, w5, w6, w7⟩ := l_Sp_judge (G := G) h hs hl hv (d := d) (lo := lo) (v0 := v0) hc hs9 hhi ha (l1 := some (.int (Int32.ofNat lo))) (l2 := some (.int (Int32.ofNat hi))) (l3 := some (.int (Int32.ofNat c))) l.length 0 lo (hi + 1) v0 rfl (Nat.zero_le _) (Nat.le_refl _) (Nat.le_refl _) (by omega) hv0 (fun q q1 q2 => by rw [List.take_zero]; exact ⟨fun _ => by omega, fun _ => okb_nil⟩) ⟨Or.inl rfl, Nat.le_refl _, fun f hf _ => by omega⟩
  have ej : jv (hi + 1) = Int64.ofNat hi := rfl
  have en : jn N s c lo hi l = min m (lo + (hi + 1 - lo)) - a := sm_int w2 (fun t ht => w6 (lo + t) (by omega) (by omega))
  rw [ej, ← c10, ux_self] at w1
  have b1 : lo < 2147483648 := by omega
  have b2 : hi < 2147483648 := by omega
  have b4 : a < 4611686018427387904 := by omega
  have b5 : m < 4611686018427387904 := by omega
  by_cases hma : m ≤ a
  · refine ⟨ux C 10 10 (Int32.ofNat v), v, ?_, fun k j q => by rw [ux_ne (by omega)], ?_, ?_, ?_, ux_at, w5, w7⟩
    · simp only [e_Sp_judge, r_Sp_judge_0, r_Sp_judge_1, r_Sp_judge_2, r_Sp_judge_2_k, r_Sp_judge_4, r_Sp_judge_5, r_Sp_judge_6, r_Sp_judge_6_k, r_Sp_judge_8, r_Sp_judge_9, r_Sp_judge_9_k, r_Sp_judge_13, r_Sp_judge_14, r_Sp_judge_17, r_Sp_judge_20, r_Sp_judge_22, r_Sp_judge_24, r_Sp_judge_27, r_Sp_judge_29, r_Sp_judge_31, r_Sp_judge_32, r_Sp_judge_35, r_Sp_judge_37, r_Sp_judge_38, r_Sp_judge_40, r_Sp_judge_41, r_Sp_judge_44, r_Sp_judge_46, r_Sp_judge_47, r_Sp_judge_49, r_Sp_judge_50, r_Sp_judge_51, r_Sp_judge_54, r_Sp_judge_57, r_Sp_judge_57_k, r_Sp_judge_59, r_Sp_judge_61, r_Sp_judge_62, r_Sp_judge_64, r_Sp_judge_65, r_Sp_judge_68, r_Sp_judge_70, r_Sp_judge_71, r_Sp_judge_73, r_Sp_judge_74, r_Sp_judge_75, r_Sp_judge_78, r_Sp_judge_81, r_Sp_judge_81_k, r_Sp_judge_83, r_Sp_judge_85, r_Sp_judge_87, r_Sp_judge_88, r_Sp_judge_91, r_Sp_judge_92, r_Sp_judge_93, r_Sp_judge_96, r_Sp_judge_98, r_Sp_judge_99, r_Sp_judge_100, r_Sp_judge_103, r_Sp_judge_106, r_Sp_judge_106_k, r_Sp_judge_109, r_Sp_judge_112, r_Sp_judge_114, r_Sp_judge_116, r_Sp_judge_117, r_Sp_judge_120, r_Sp_judge_121, r_Sp_judge_122, r_Sp_judge_123, r_Sp_judge_126, r_Sp_judge_128, r_Sp_judge_130, r_Sp_judge_131, r_Sp_judge_132, r_Sp_judge_133, r_Sp_judge_134, r_Sp_judge_135, r_Sp_judge_138, r_Sp_judge_139, r_Sp_judge_142, r_Sp_judge_143, r_Sp_judge_146, r_Sp_judge_147, r_Sp_judge_148, r_Sp_judge_151, r_Sp_judge_152, r_Sp_judge_153, r_Sp_judge_156, ly_g10_0, ly_g10_6, ly_n16, ly_r16, ly_w16, ly_k10, ly_g10_10, ly_p10_10, ly_g10_7, ly_p10_7, ly_g10_8, ly_p10_8, ly_g10_9, ly_p10_9, i3n_0, i3n_1, i3n_40, l6n_0, l6n_1, am_kf_s, am_km_s, am_kn_s, am_k_v, am_k_0, am_isr_r, am_isr_n, am_isr_v, am_sw_0, am_sw_i, am_sw_l, am_sw_r, am_sw_n, am_sw_v, am_ct_i, am_ct_r, am_ct_n, am_c1_o, am_c1_n, am_c1_i, am_c1_r, am_c1_v, am_mk_1, lc_lt, lc_gt, lc_eq, lc_le, lc_ge, i01_eq, i01_ok, ite_not, true_or, or_true, true_and, and_true, false_or, or_false, false_and, and_false, if_true, if_false, not_true_eq_false, not_false_eq_true, eq_self, Nat.reduceAdd, Nat.reduceLeDiff, Nat.reduceLT, Nat.reduceEqDiff, Nat.reduceMul, Nat.reduceSub, Nat.reduceDiv, Nat.reduceMod, reduceCtorEq, Nat.zero_le, i3_le, i3_lt, i3_eq, i3_eqN, i3_leN, i3_Nle, i3_ltN, i3_NleN, i3_NeqN, i3_Neq, i3_NltN, i3_Nlt, l6_le, l6_lt, l6_eq, l6_leN, l6_Nle, l6_ltN, l6_Nlt, l6_eqN, l6_Neq, b1, b2, i3_long, ↓reduceIte]
      rw [w1]
      simp only [r_Sp_judge_112, r_Sp_judge_114, r_Sp_judge_116, r_Sp_judge_117, r_Sp_judge_120, r_Sp_judge_121, r_Sp_judge_122, r_Sp_judge_123, r_Sp_judge_126, r_Sp_judge_128, r_Sp_judge_130, r_Sp_judge_131, r_Sp_judge_132, r_Sp_judge_133, r_Sp_judge_134, r_Sp_judge_135, r_Sp_judge_138, r_Sp_judge_139, r_Sp_judge_142, r_Sp_judge_143, r_Sp_judge_146, r_Sp_judge_147, r_Sp_judge_148, r_Sp_judge_151, r_Sp_judge_152, r_Sp_judge_153, r_Sp_judge_156, ly_g10_0, ly_g10_6, ly_n16, ly_r16, ly_w16, ly_k10, ly_g10_10, ly_p10_10, ly_g10_7, ly_p10_7, ly_g10_8, ly_p10_8, ly_g10_9, ly_p10_9, i3n_0, i3n_1, i3n_40, l6n_0, l6n_1, am_kf_s, am_km_s, am_kn_s, am_k_v, am_k_0, am_isr_r, am_isr_n, am_isr_v, am_sw_0, am_sw_i, am_sw_l, am_sw_r, am_sw_n, am_sw_v, am_ct_i, am_ct_r, am_ct_n, am_c1_o, am_c1_n, am_c1_i, am_c1_r, am_c1_v, am_mk_1, lc_lt, lc_gt, lc_eq, lc_le, lc_ge, i01_eq, i01_ok, ite_not, true_or, or_true, true_and, and_true, false_or, or_false, false_and, and_false, if_true, if_false, not_true_eq_false, not_false_eq_true, eq_self, Nat.reduceAdd, Nat.reduceLeDiff, Nat.reduceLT, Nat.reduceEqDiff, Nat.reduceMul, Nat.reduceSub, Nat.reduceDiv, Nat.reduceMod, reduceCtorEq, Nat.zero_le, i3_le, i3_lt, i3_eq, i3_eqN, i3_leN, i3_Nle, i3_ltN, i3_NleN, i3_NeqN, i3_Neq, i3_NltN, i3_Nlt, l6_le, l6_lt, l6_eq, l6_leN, l6_Nle, l6_ltN, l6_Nlt, l6_eqN, l6_Neq, b4, b5, jv_lt, jv_ge, hma, show ¬ a < m by omega, ↓reduceIte]
    · rw [ux_ne (by omega), c7, show jn N s c lo hi l = 0 by omega, Nat.add_zero]
    · rw [ux_ne (by omega), c8, if_pos (by omega)]
    · rw [ux_ne (by omega), c9, if_pos (by omega)]
  · have hn : jn N s c lo hi l = m - a := by omega
    have ec := jv_cnt (a := a) (m := m) (by omega) (by omega)
    have hne : ¬ m - a = 0 := by omega
    have hlt : a < m := by omega
    rw [hn, if_neg hne, if_neg hne]
    refine ⟨ux (ux (ux (ux C 10 10 (Int32.ofNat v)) 10 7 (Int32.ofNat (n0 + (m - a)))) 10 8 (Int32.ofNat (jf o1 c))) 10 9 (Int32.ofNat c), v, ?_, fun k j q => by rw [ux_ne (by omega), ux_ne (by omega), ux_ne (by omega), ux_ne (by omega)], ?_, ?_, ?_, ?_, w5, w7⟩
    · simp only [e_Sp_judge, r_Sp_judge_0, r_Sp_judge_1, r_Sp_judge_2, r_Sp_judge_2_k, r_Sp_judge_4, r_Sp_judge_5, r_Sp_judge_6, r_Sp_judge_6_k, r_Sp_judge_8, r_Sp_judge_9, r_Sp_judge_9_k, r_Sp_judge_13, r_Sp_judge_14, r_Sp_judge_17, r_Sp_judge_20, r_Sp_judge_22, r_Sp_judge_24, r_Sp_judge_27, r_Sp_judge_29, r_Sp_judge_31, r_Sp_judge_32, r_Sp_judge_35, r_Sp_judge_37, r_Sp_judge_38, r_Sp_judge_40, r_Sp_judge_41, r_Sp_judge_44, r_Sp_judge_46, r_Sp_judge_47, r_Sp_judge_49, r_Sp_judge_50, r_Sp_judge_51, r_Sp_judge_54, r_Sp_judge_57, r_Sp_judge_57_k, r_Sp_judge_59, r_Sp_judge_61, r_Sp_judge_62, r_Sp_judge_64, r_Sp_judge_65, r_Sp_judge_68, r_Sp_judge_70, r_Sp_judge_71, r_Sp_judge_73, r_Sp_judge_74, r_Sp_judge_75, r_Sp_judge_78, r_Sp_judge_81, r_Sp_judge_81_k, r_Sp_judge_83, r_Sp_judge_85, r_Sp_judge_87, r_Sp_judge_88, r_Sp_judge_91, r_Sp_judge_92, r_Sp_judge_93, r_Sp_judge_96, r_Sp_judge_98, r_Sp_judge_99, r_Sp_judge_100, r_Sp_judge_103, r_Sp_judge_106, r_Sp_judge_106_k, r_Sp_judge_109, r_Sp_judge_112, r_Sp_judge_114, r_Sp_judge_116, r_Sp_judge_117, r_Sp_judge_120, r_Sp_judge_121, r_Sp_judge_122, r_Sp_judge_123, r_Sp_judge_126, r_Sp_judge_128, r_Sp_judge_130, r_Sp_judge_131, r_Sp_judge_132, r_Sp_judge_133, r_Sp_judge_134, r_Sp_judge_135, r_Sp_judge_138, r_Sp_judge_139, r_Sp_judge_142, r_Sp_judge_143, r_Sp_judge_146, r_Sp_judge_147, r_Sp_judge_148, r_Sp_judge_151, r_Sp_judge_152, r_Sp_judge_153, r_Sp_judge_156, ly_g10_0, ly_g10_6, ly_n16, ly_r16, ly_w16, ly_k10, ly_g10_10, ly_p10_10, ly_g10_7, ly_p10_7, ly_g10_8, ly_p10_8, ly_g10_9, ly_p10_9, i3n_0, i3n_1, i3n_40, l6n_0, l6n_1, am_kf_s, am_km_s, am_kn_s, am_k_v, am_k_0, am_isr_r, am_isr_n, am_isr_v, am_sw_0, am_sw_i, am_sw_l, am_sw_r, am_sw_n, am_sw_v, am_ct_i, am_ct_r, am_ct_n, am_c1_o, am_c1_n, am_c1_i, am_c1_r, am_c1_v, am_mk_1, lc_lt, lc_gt, lc_eq, lc_le, lc_ge, i01_eq, i01_ok, ite_not, true_or, or_true, true_and, and_true, false_or, or_false, false_and, and_false, if_true, if_false, not_true_eq_false, not_false_eq_true, eq_self, Nat.reduceAdd, Nat.reduceLeDiff, Nat.reduceLT, Nat.reduceEqDiff, Nat.reduceMul, Nat.reduceSub, Nat.reduceDiv, Nat.reduceMod, reduceCtorEq, Nat.zero_le, i3_le, i3_lt, i3_eq, i3_eqN, i3_leN, i3_Nle, i3_ltN, i3_NleN, i3_NeqN, i3_Neq, i3_NltN, i3_Nlt, l6_le, l6_lt, l6_eq, l6_leN, l6_Nle, l6_ltN, l6_Nlt, l6_eqN, l6_Neq, b1, b2, i3_long, ↓reduceIte]
      rw [w1]
      cases o1 with
      | none =>
        have c8 : C 10 8 = -Int32.ofNat 1 := c8
        simp only [r_Sp_judge_112, r_Sp_judge_114, r_Sp_judge_116, r_Sp_judge_117, r_Sp_judge_120, r_Sp_judge_121, r_Sp_judge_122, r_Sp_judge_123, r_Sp_judge_126, r_Sp_judge_128, r_Sp_judge_130, r_Sp_judge_131, r_Sp_judge_132, r_Sp_judge_133, r_Sp_judge_134, r_Sp_judge_135, r_Sp_judge_138, r_Sp_judge_139, r_Sp_judge_142, r_Sp_judge_143, r_Sp_judge_146, r_Sp_judge_147, r_Sp_judge_148, r_Sp_judge_151, r_Sp_judge_152, r_Sp_judge_153, r_Sp_judge_156, ly_g10_0, ly_g10_6, ly_n16, ly_r16, ly_w16, ly_k10, ly_g10_10, ly_p10_10, ly_g10_7, ly_p10_7, ly_g10_8, ly_p10_8, ly_g10_9, ly_p10_9, i3n_0, i3n_1, i3n_40, l6n_0, l6n_1, am_kf_s, am_km_s, am_kn_s, am_k_v, am_k_0, am_isr_r, am_isr_n, am_isr_v, am_sw_0, am_sw_i, am_sw_l, am_sw_r, am_sw_n, am_sw_v, am_ct_i, am_ct_r, am_ct_n, am_c1_o, am_c1_n, am_c1_i, am_c1_r, am_c1_v, am_mk_1, lc_lt, lc_gt, lc_eq, lc_le, lc_ge, i01_eq, i01_ok, ite_not, true_or, or_true, true_and, and_true, false_or, or_false, false_and, and_false, if_true, if_false, not_true_eq_false, not_false_eq_true, eq_self, Nat.reduceAdd, Nat.reduceLeDiff, Nat.reduceLT, Nat.reduceEqDiff, Nat.reduceMul, Nat.reduceSub, Nat.reduceDiv, Nat.reduceMod, reduceCtorEq, Nat.zero_le, i3_le, i3_lt, i3_eq, i3_eqN, i3_leN, i3_Nle, i3_ltN, i3_NleN, i3_NeqN, i3_Neq, i3_NltN, i3_Nlt, l6_le, l6_lt, l6_eq, l6_leN, l6_Nle, l6_ltN, l6_Nlt, l6_eqN, l6_Neq, b4, b5, ux_eq, jv_lt, jv_ge, hma, hlt, c7, c8, ec, jf, i3_add, Nat.zero_lt_one, ↓reduceIte]
      | some e =>
        have c8 : C 10 8 = Int32.ofNat e := c8
        have be : e < 2147483648 := by have := ho1 e rfl; omega
        have eu : ux (ux C 10 10 (Int32.ofNat v)) 10 7 (Int32.ofNat (n0 + (m - a))) = ux (ux (ux C 10 10 (Int32.ofNat v)) 10 7 (Int32.ofNat (n0 + (m - a)))) 10 8 (Int32.ofNat e) := by
          have e2 : ux (ux C 10 10 (Int32.ofNat v)) 10 7 (Int32.ofNat (n0 + (m - a))) 10 8 = Int32.ofNat e := by rw [ux_ne (by omega), ux_ne (by omega), c8]
          rw [← e2, ux_self]
        show _ = some (none, am_mk x true Z (ux (ux (ux (ux C 10 10 (Int32.ofNat v)) 10 7 (Int32.ofNat (n0 + (m - a)))) 10 8 (Int32.ofNat e)) 10 9 (Int32.ofNat c)) L R D)
        rw [← eu]
        simp only [r_Sp_judge_112, r_Sp_judge_114, r_Sp_judge_116, r_Sp_judge_117, r_Sp_judge_120, r_Sp_judge_121, r_Sp_judge_122, r_Sp_judge_123, r_Sp_judge_126, r_Sp_judge_128, r_Sp_judge_130, r_Sp_judge_131, r_Sp_judge_132, r_Sp_judge_133, r_Sp_judge_134, r_Sp_judge_135, r_Sp_judge_138, r_Sp_judge_139, r_Sp_judge_142, r_Sp_judge_143, r_Sp_judge_146, r_Sp_judge_147, r_Sp_judge_148, r_Sp_judge_151, r_Sp_judge_152, r_Sp_judge_153, r_Sp_judge_156, ly_g10_0, ly_g10_6, ly_n16, ly_r16, ly_w16, ly_k10, ly_g10_10, ly_p10_10, ly_g10_7, ly_p10_7, ly_g10_8, ly_p10_8, ly_g10_9, ly_p10_9, i3n_0, i3n_1, i3n_40, l6n_0, l6n_1, am_kf_s, am_km_s, am_kn_s, am_k_v, am_k_0, am_isr_r, am_isr_n, am_isr_v, am_sw_0, am_sw_i, am_sw_l, am_sw_r, am_sw_n, am_sw_v, am_ct_i, am_ct_r, am_ct_n, am_c1_o, am_c1_n, am_c1_i, am_c1_r, am_c1_v, am_mk_1, lc_lt, lc_gt, lc_eq, lc_le, lc_ge, i01_eq, i01_ok, ite_not, true_or, or_true, true_and, and_true, false_or, or_false, false_and, and_false, if_true, if_false, not_true_eq_false, not_false_eq_true, eq_self, Nat.reduceAdd, Nat.reduceLeDiff, Nat.reduceLT, Nat.reduceEqDiff, Nat.reduceMul, Nat.reduceSub, Nat.reduceDiv, Nat.reduceMod, reduceCtorEq, Nat.zero_le, i3_le, i3_lt, i3_eq, i3_eqN, i3_leN, i3_Nle, i3_ltN, i3_NleN, i3_NeqN, i3_Neq, i3_NltN, i3_Nlt, l6_le, l6_lt, l6_eq, l6_leN, l6_Nle, l6_ltN, l6_Nlt, l6_eqN, l6_Neq, b4, b5, be, ux_eq, jv_lt, jv_ge, hma, hlt, c7, c8, ec, i3_add, Nat.zero_lt_one, ↓reduceIte]
    · rw [ux_ne (by omega), ux_ne (by omega), ux_at]
    · rw [ux_ne (by omega), ux_at]; rfl
    · rw [ux_at]; rfl
    · rw [ux_ne (by omega), ux_ne (by omega), ux_ne (by omega), ux_at]
/-- the pairs that let all -/
def jP (N : Nat → Nat → Nat) (s lo hi c : Nat) (l : List Nat) : Nat → Nat → Prop := fun q e => fi_P lo hi c 0 q e ∧ okb N s l q e = true
def jt (N : Nat → Nat → Nat) (s lo hi n : Nat) (l : List Nat) : Nat := sm n (fun e => jn N s (10 * e) lo hi l)
/-- how far the speakers go, by all CUSHIONS below c -/
def fv (N : Nat → Nat → Nat) (s lo hi c : Nat) (l : List Nat) (v : Nat) : Prop := (v = 0 ∨ (v ≤ l.length ∧ ∃ q e, jP N s lo hi 1000 (l.take v) q e)) ∧ ∀ f, f ≤ l.length → (∃ q e, jP N s lo hi c (l.take f) q e) → f ≤ v
theorem jn_0 {s c lo hi : Nat} {l : List Nat} (hlo : lo ≤ hi) : jn N s c lo hi l = 0 ↔ ∀ q, ¬ (lo ≤ q ∧ q ≤ hi ∧ okb N s l q c = true) := by
  unfold jn
  rw [sm_0]
  constructor
  · intro h q hq
    have := h (q - lo) (by omega)
    rw [show lo + (q - lo) = q by omega, ib_0] at this
    exact this hq.2.2
  · intro h t ht
    rw [ib_0]
    exact fun ho => h (lo + t) ⟨by omega, by omega, ho⟩
theorem jn_le {s c lo hi : Nat} {l : List Nat} : jn N s c lo hi l ≤ hi + 1 - lo := by
  have := sm_le (n := hi + 1 - lo) (f := fun t => ib (okb N s l (lo + t) c)) (b := 1) (fun i _ => ib_le)
  unfold jn
  omega
theorem rl_10 {C C' : Nat → Nat → Int32} {R : Nat → Nat → Option Nat} (h : rl G N x Z C R D) (f : ∀ k j, ¬ (k = 10 ∧ 7 ≤ j ∧ j ≤ 10) → C' k j = C k j) : rl G N x Z C' R D := rl_keep h (fun k j q => f k j (fun q2 => q (by unfold rl_scr; omega))) (fun _ _ _ => rfl)
theorem sp_10 {C C' : Nat → Nat → Int32} {L : Nat → Nat → Int64} {R : Nat → Nat → Option Nat} {l : List Nat} (h : sp_ok N Z C L R l) (f : ∀ k j, ¬ (k = 10 ∧ 7 ≤ j ∧ j ≤ 10) → C' k j = C k j) : sp_ok N Z C' L R l := by
  refine ⟨by rw [f _ _ (by omega)]; exact h.1, fun k i hk => ?_⟩
  obtain ⟨a1, a2, a3, a4, a5⟩ := h.2 k i hk
  exact ⟨a1, by rw [f _ _ (by omega)]; exact a2, a3, a4, a5⟩
theorem l_H_judgePairs {l : List Nat} (hl : l.length ≤ 40) (hv : ∀ i, i ∈ l → i < N 31 27) {d s lo hi : Nat} (hs9 : s ≤ 9999) (hlo : lo ≤ hi) (hhi : hi ≤ 999) {l1 : Option Value} (c1 : am_c1 l1 = true) : ∀ (r n : Nat) (C : Nat → Nat → Int32) (L : Nat → Nat → Int64) (o1 o2 : Option Nat) (v : Nat), 100 - n = r → n ≤ 100 → rl G N x Z C R D → sp_ok N Z C L R l → C 10 7 = Int32.ofNat (jt N s lo hi n l) → C 10 8 = jo o1 → C 10 9 = jo o2 → C 10 10 = Int32.ofNat v → v ≤ 40 → le_st (jP N s lo hi (10 * n) l) o1 → ge_st (jP N s lo hi (10 * n) l) o2 → fv N s lo hi (10 * n) l v → ∃ (C' : Nat → Nat → Int32) (L' : Nat → Nat → Int64) (o1' o2' : Option Nat) (v' : Nat), am_run G (d + 3) K_H_judgePairs (28, [some (.ref x), l1, some (.int (Int32.ofNat s)), some (.int (Int32.ofNat lo)), some (.int (Int32.ofNat hi)), some (.int (Int32.ofNat (10 * n)))], [], am_mk x true Z C L R D) = some (none, am_mk x true Z C' L' R D) ∧ rl G N x Z C' R D ∧ sp_ok N Z C' L' R l ∧ C' 10 7 = Int32.ofNat (jt N s lo hi 100 l) ∧ C' 10 8 = jo o1' ∧ C' 10 9 = jo o2' ∧ C' 10 10 = Int32.ofNat v' ∧ v' ≤ 40 ∧ le_st (jP N s lo hi 1000 l) o1' ∧ ge_st (jP N s lo hi 1000 l) o2' ∧ fv N s lo hi 1000 l v' := by
  intro r
  induction r with
  | zero =>
    intro n C L o1 o2 v hr hn h hs k7 k8 k9 k10 hv40 hle hge hf
    have e : n = 100 := by omega
    subst e
    refine ⟨C, L, o1, o2, v, ?_, h, hs, k7, k8, k9, k10, hv40, hle, hge, hf⟩
    rw [r_H_judgePairs_28]
    simp only [r_H_judgePairs_30, r_H_judgePairs_33, r_H_judgePairs_36, r_H_judgePairs_37, r_H_judgePairs_39, r_H_judgePairs_42, r_H_judgePairs_43, r_H_judgePairs_46, r_H_judgePairs_47, r_H_judgePairs_49, r_H_judgePairs_51, r_H_judgePairs_52, r_H_judgePairs_55, r_H_judgePairs_55_k, r_H_judgePairs_58, r_H_judgePairs_61, ly_k0, ly_g0_12, ly_k10, i3n_0, i3n_1, i3n_10, i3n_990, i3n_1000, l6n_0, l6n_1, am_kf_s, am_km_s, am_kn_s, am_k_v, am_k_0, am_isr_r, am_isr_n, am_isr_v, am_sw_0, am_sw_i, am_sw_l, am_sw_r, am_sw_n, am_sw_v, am_ct_i, am_ct_r, am_ct_n, am_c1_o, am_c1_n, am_c1_i, am_c1_r, am_c1_v, am_mk_1, lc_lt, lc_gt, lc_eq, lc_le, lc_ge, i01_eq, i01_ok, ite_not, true_or, or_true, true_and, and_true, false_or, or_false, false_and, and_false, if_true, if_false, not_true_eq_false, not_false_eq_true, eq_self, Nat.reduceAdd, Nat.reduceLeDiff, Nat.reduceLT, Nat.reduceEqDiff, Nat.reduceMul, Nat.reduceSub, Nat.reduceDiv, Nat.reduceMod, reduceCtorEq, Nat.zero_le, i3_le, i3_lt, i3_eq, i3_eqN, i3_leN, i3_Nle, i3_ltN, i3_NleN, i3_NeqN, i3_Neq, i3_NltN, i3_Nlt, l6_le, l6_lt, l6_eq, l6_leN, l6_Nle, l6_ltN, l6_Nlt, l6_eqN, l6_Neq, c1, ↓reduceIte]
  | succ r ih =>
    intro n C L o1 o2 v hr hn h hs k7 k8 k9 k10 hv40 hle hge hf
    have hn1 : n < 100 := by omega
    have b1 : 10 * n < 2147483648 := by omega
    have b2 : ¬ 990 < 10 * n := by omega
    obtain ⟨L1, e1, e2, e3⟩ := x_H_tryCushion (G := G) h hs hl hv (d := d) (c := 10 * n) (by omega)
    have hs1 := sp_ok_15 hs e2
    have ho1 := le_lt (m := 999) hle (fun q e hq => by have := hq.1; unfold fi_P at this; omega)
    obtain ⟨C1, v1, f1, f2, f3, f4, f5, f6, f7, f8⟩ := x_Sp_judge (G := G) h hs1 hl hv (d := d) (lo := lo) (hi := hi) (by omega) hs9 hlo hhi e3 k7 k8 k9 k10 hv40 ho1
    have h1 := rl_10 h f2
    have hs2 := sp_10 hs1 f2
    have hP : ∀ (t : List Nat) q e, jP N s lo hi (10 * (n + 1)) t q e ↔ (jP N s lo hi (10 * n) t q e ∨ (e = 10 * n ∧ (lo ≤ q ∧ q ≤ hi ∧ okb N s t q (10 * n) = true))) := by
      intro t q e
      unfold jP fi_P
      constructor
      · rintro ⟨p1, p2⟩
        by_cases he : e = 10 * n
        · subst he; exact Or.inr ⟨rfl, by omega, by omega, p2⟩
        · exact Or.inl ⟨by omega, p2⟩
      · rintro (⟨p1, p2⟩ | ⟨rfl, p1, p2, p3⟩)
        · exact ⟨by omega, p2⟩
        · exact ⟨by omega, p3⟩
    have hlt : ∀ q e, jP N s lo hi (10 * n) l q e → e < 10 * n := fun q e hq => by have := hq.1; unfold fi_P at this; omega
    have hle1 := jp_le hle (hP l) hlt (jn_0 (N := N) hlo)
    have hge1 := jp_ge hge (hP l) hlt (jn_0 (N := N) hlo)
    have hfv : fv N s lo hi (10 * (n + 1)) l v1 := by
      refine ⟨?_, fun f hf' hq => ?_⟩
      · rcases f8.1 with q | ⟨q1, q, q2, q3, q4⟩
        · rw [q]; exact hf.1
        · exact Or.inr ⟨q1, q, 10 * n, by unfold fi_P; omega, q4⟩
      · obtain ⟨q, e, hq⟩ := hq
        rcases (hP _ q e).mp hq with p | ⟨-, p⟩
        · have := hf.2 f hf' ⟨q, e, p⟩
          have := f8.2.1
          omega
        · exact f8.2.2 f hf' ⟨q, p⟩
    obtain ⟨C', L', o1', o2', v', w1, w2⟩ := ih (n + 1) C1 L1 _ _ v1 (by omega) (by omega) h1 hs2 f3 f4 f5 f6 f7 hle1 hge1 hfv
    refine ⟨C', L', o1', o2', v', ?_, w2⟩
    have en : 10 * n + 10 = 10 * (n + 1) := by omega
    have k10 := ly_k10 (x := x) (b := true) (Z := Z) (C := C) (L := L1) (R := R) (D := D)
    rw [← w1, r_H_judgePairs_28]
    simp only [r_H_judgePairs_30, r_H_judgePairs_33, r_H_judgePairs_36, r_H_judgePairs_37, r_H_judgePairs_39, r_H_judgePairs_42, r_H_judgePairs_43, r_H_judgePairs_46, r_H_judgePairs_47, r_H_judgePairs_49, r_H_judgePairs_51, r_H_judgePairs_52, r_H_judgePairs_55, r_H_judgePairs_55_k, r_H_judgePairs_58, ly_k0, ly_g0_12, ly_k10, i3n_0, i3n_1, i3n_10, i3n_990, i3n_1000, l6n_0, l6n_1, am_kf_s, am_km_s, am_kn_s, am_k_v, am_k_0, am_isr_r, am_isr_n, am_isr_v, am_sw_0, am_sw_i, am_sw_l, am_sw_r, am_sw_n, am_sw_v, am_ct_i, am_ct_r, am_ct_n, am_c1_o, am_c1_n, am_c1_i, am_c1_r, am_c1_v, am_mk_1, lc_lt, lc_gt, lc_eq, lc_le, lc_ge, i01_eq, i01_ok, ite_not, true_or, or_true, true_and, and_true, false_or, or_false, false_and, and_false, if_true, if_false, not_true_eq_false, not_false_eq_true, eq_self, Nat.reduceAdd, Nat.reduceLeDiff, Nat.reduceLT, Nat.reduceEqDiff, Nat.reduceMul, Nat.reduceSub, Nat.reduceDiv, Nat.reduceMod, reduceCtorEq, Nat.zero_le, i3_le, i3_lt, i3_eq, i3_eqN, i3_leN, i3_Nle, i3_ltN, i3_NleN, i3_NeqN, i3_Neq, i3_NltN, i3_Nlt, l6_le, l6_lt, l6_eq, l6_leN, l6_Nle, l6_ltN, l6_Nlt, l6_eqN, l6_Neq, b1, b2, c1, e1, f1, k10, i3_add, en, ↓reduceIte]
theorem x_H_judgePairs (h : rl G N x Z C R D) {d s w : Nat} (hs9 : s ≤ 9999) (hlo : w / 1000 ≤ w % 1000) (hw : w < 2147483648) : ∃ (C' : Nat → Nat → Int32) (L' : Nat → Nat → Int64) (R' : Nat → Nat → Option Nat) (o1' o2' : Option Nat) (v' : Nat), am_ex G (d + 6) K_H_judgePairs [.ref x, .int (Int32.ofNat w), .int (Int32.ofNat s)] (am_mk x true Z C L R D) = some (none, am_mk x true Z C' L' R' D) ∧ rl G N x Z C' R' D ∧ sp_ok N Z C' L' R' (spl N none (N 31 27)) ∧ C' 10 7 = Int32.ofNat (jt N s (w / 1000) (w % 1000) 100 (spl N none (N 31 27))) ∧ C' 10 8 = jo o1' ∧ C' 10 9 = jo o2' ∧ C' 10 10 = Int32.ofNat v' ∧ v' ≤ 40 ∧ le_st (jP N s (w / 1000) (w % 1000) 1000 (spl N none (N 31 27))) o1' ∧ ge_st (jP N s (w / 1000) (w % 1000) 1000 (spl N none (N 31 27))) o2' ∧ fv N s (w / 1000) (w % 1000) 1000 (spl N none (N 31 27)) v' := by
  obtain ⟨C1, L1, R1, f1, f2, f3⟩ := x_H_gather (G := G) (d := d) (hl := none) (a := -Int32.ofNat 1) (L := L) h (Or.inl ⟨rfl, rfl⟩)
  have h40 := h.1.2.2.1.2.2
  have hl := spl_len (N := N) (hl := none) (n := N 31 27)
  have fr : ∀ k j, ¬ (k = 10 ∧ 7 ≤ j ∧ j ≤ 10) → ux (ux (ux (ux C1 10 7 (Int32.ofNat 0)) 10 8 (-Int32.ofNat 1)) 10 9 (-Int32.ofNat 1)) 10 10 (Int32.ofNat 0) k j = C1 k j := fun k j q => by rw [ux_ne (by omega), ux_ne (by omega), ux_ne (by omega), ux_ne (by omega)]
  have hno : ∀ (t : List Nat) q e, ¬ jP N s (w / 1000) (w % 1000) (10 * 0) t q e := fun t q e hq => by have := hq.1; unfold fi_P at this; omega
  obtain ⟨C', L', o1', o2', v', w1, w2⟩ := l_H_judgePairs (G := G) (d := d + 2) (l := spl N none (N 31 27)) (l1 := some (.int (Int32.ofNat w))) (by omega) (spl_all (N := N) (hl := none) (n := N 31 27)) hs9 hlo (by omega) am_c1_i 100 0 _ L1 none none 0 rfl (by omega) (rl_10 f2 fr) (sp_10 f3 fr) (by rw [ux_ne (by omega), ux_ne (by omega), ux_ne (by omega), ux_at]; rfl) (by rw [ux_ne (by omega), ux_ne (by omega), ux_at]; rfl) (by rw [ux_ne (by omega), ux_at]; rfl) (by rw [ux_at]) (by omega) (hno _) (hno _) ⟨Or.inl rfl, fun f _ hq => by obtain ⟨q, e, hq⟩ := hq; exact absurd hq (hno _ q e)⟩
  refine ⟨C', L', R1, o1', o2', v', ?_, w2⟩
  have ew : Int32.ofNat w / Int32.ofNat 1000 = Int32.ofNat (w / 1000) := i3_div hw (by decide)
  have er : Int32.ofNat w - Int32.ofNat (w / 1000) * Int32.ofNat 1000 = Int32.ofNat (w % 1000) := i3_rem0
  have er2 : Int32.ofNat w - Int32.ofNat (w / 1000 * 1000) = Int32.ofNat (w % 1000) := i3_rem
  have k10 := fun (C : Nat → Nat → Int32) => ly_k10 (x := x) (b := true) (Z := Z) (C := C) (L := L1) (R := R1) (D := D)
  rw [← w1]
  simp only [e_H_judgePairs, r_H_judgePairs_0, r_H_judgePairs_1, r_H_judgePairs_4, r_H_judgePairs_5, r_H_judgePairs_5_k, r_H_judgePairs_6, r_H_judgePairs_7, r_H_judgePairs_10, r_H_judgePairs_11, r_H_judgePairs_11_k, r_H_judgePairs_13, r_H_judgePairs_14, r_H_judgePairs_15, r_H_judgePairs_18, r_H_judgePairs_19, r_H_judgePairs_22, r_H_judgePairs_25, r_H_judgePairs_26, r_H_judgePairs_26_k, r_H_judgePairs_30, r_H_judgePairs_33, r_H_judgePairs_36, r_H_judgePairs_37, r_H_judgePairs_39, r_H_judgePairs_42, r_H_judgePairs_43, r_H_judgePairs_46, r_H_judgePairs_47, r_H_judgePairs_49, r_H_judgePairs_51, r_H_judgePairs_52, r_H_judgePairs_55, r_H_judgePairs_55_k, r_H_judgePairs_58, r_H_judgePairs_61, ly_k0, ly_g0_12, ly_k10, i3n_0, i3n_1, i3n_10, i3n_990, i3n_1000, l6n_0, l6n_1, e_Sp_forgetVerdicts, r_Sp_forgetVerdicts_0, r_Sp_forgetVerdicts_1, r_Sp_forgetVerdicts_2, r_Sp_forgetVerdicts_5, r_Sp_forgetVerdicts_6, r_Sp_forgetVerdicts_7, r_Sp_forgetVerdicts_10, r_Sp_forgetVerdicts_11, r_Sp_forgetVerdicts_12, r_Sp_forgetVerdicts_15, r_Sp_forgetVerdicts_16, r_Sp_forgetVerdicts_17, r_Sp_forgetVerdicts_20, ly_g10_7, ly_p10_7, ly_g10_8, ly_p10_8, ly_g10_9, ly_p10_9, ly_g10_10, ly_p10_10, am_kf_s, am_km_s, am_kn_s, am_k_v, am_k_0, am_isr_r, am_isr_n, am_isr_v, am_sw_0, am_sw_i, am_sw_l, am_sw_r, am_sw_n, am_sw_v, am_ct_i, am_ct_r, am_ct_n, am_c1_o, am_c1_n, am_c1_i, am_c1_r, am_c1_v, am_mk_1, lc_lt, lc_gt, lc_eq, lc_le, lc_ge, i01_eq, i01_ok, ite_not, true_or, or_true, true_and, and_true, false_or, or_false, false_and, and_false, if_true, if_false, not_true_eq_false, not_false_eq_true, eq_self, Nat.reduceAdd, Nat.reduceLeDiff, Nat.reduceLT, Nat.reduceEqDiff, Nat.reduceMul, Nat.reduceSub, Nat.reduceDiv, Nat.reduceMod, reduceCtorEq, Nat.zero_le, i3_le, i3_lt, i3_eq, i3_eqN, i3_leN, i3_Nle, i3_ltN, i3_NleN, i3_NeqN, i3_Neq, i3_NltN, i3_Nlt, l6_le, l6_lt, l6_eq, l6_leN, l6_Nle, l6_ltN, l6_Nlt, l6_eqN, l6_Neq, ew, er, er2, f1, k10, ↓reduceIte]
end
