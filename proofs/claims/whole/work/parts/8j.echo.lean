/-! echo, hears -/
def sg (b : Bool) : Int32 := if b = true then Int32.ofNat 1 else -Int32.ofNat 1
/-- the way after a wall, and the place -/
def tb (len p : Nat) (b : Bool) : Bool := if b = true then decide (p + 1 < len) else decide (p = 0)
def mv (p : Nat) (b : Bool) : Nat := if b = true then p + 1 else p - 1
theorem mv_lt {len p : Nat} {b : Bool} (hl : 2 ≤ len) (hp : p < len) : mv p (tb len p b) < len := by
  unfold mv tb
  cases b
  · by_cases h : p = 0
    · simp only [h, decide_true, Bool.false_eq_true, if_false, if_true]; omega
    · simp only [h, decide_false, Bool.false_eq_true, if_false]; omega
  · by_cases h : p + 1 < len
    · simp only [h, decide_true, if_true]
    · simp only [h, decide_false, if_true, Bool.false_eq_true, if_false]; omega
theorem sg_add {len p : Nat} {b : Bool} (hl : 2 ≤ len) (hp : p < len) : Int32.ofNat p + sg (tb len p b) = Int32.ofNat (mv p (tb len p b)) := by
  have key : ∀ c : Bool, (c = false → 1 ≤ p) → Int32.ofNat p + sg c = Int32.ofNat (mv p c) := by
    intro c hc
    cases c
    · have := hc rfl
      show Int32.ofNat p + -Int32.ofNat 1 = Int32.ofNat (p - 1)
      rw [← Int32.sub_eq_add_neg, i3_sub this]
    · show Int32.ofNat p + Int32.ofNat 1 = Int32.ofNat (p + 1)
      exact i3_add
  apply key
  intro h
  unfold tb at h
  cases b
  · simp only [Bool.false_eq_true, if_false, decide_eq_false_iff_not] at h; omega
  · simp only [if_true, decide_eq_false_iff_not] at h; omega
section
variable {G : Nat → Value} {x : Nat}
theorem x_H_thrownBack {d len p : Nat} {b : Bool} {M : am_M} (hl : 2 ≤ len) (hl2 : len ≤ 20) (hp : p < len) : am_ex G (d + 1) K_H_thrownBack [.int (Int32.ofNat p), .int (sg b), .int (Int32.ofNat len)] M = some (some (.int (sg (tb len p b))), M) := by
  have b1 : p + 1 < 2147483648 := by omega
  have b2 : len < 2147483648 := by omega
  have b3 : ¬ p + 1 < 0 := by omega
  cases b
  · by_cases h : p = 0
    · subst h
      have e0 : Int32.ofNat 0 + -Int32.ofNat 1 = -Int32.ofNat 1 := by decide
      have e1 : - -Int32.ofNat 1 = Int32.ofNat 1 := by decide
      have e2 : -Int32.ofNat 1 < Int32.ofNat 0 := by decide
      have e3 : ¬ Int32.ofNat 0 ≤ -Int32.ofNat 1 := by decide
      simp only [e_H_thrownBack, r_H_thrownBack_0, r_H_thrownBack_1, r_H_thrownBack_2, r_H_thrownBack_3, r_H_thrownBack_6, r_H_thrownBack_7, r_H_thrownBack_8, r_H_thrownBack_9, r_H_thrownBack_10, r_H_thrownBack_13, r_H_thrownBack_14, r_H_thrownBack_15, r_H_thrownBack_18, r_H_thrownBack_19, i3n_0, i3n_1, l6n_0, l6n_1, am_kf_s, am_km_s, am_kn_s, am_k_v, am_k_0, am_isr_r, am_isr_n, am_isr_v, am_sw_0, am_sw_i, am_sw_l, am_sw_r, am_sw_n, am_sw_v, am_ct_i, am_ct_r, am_ct_n, am_c1_o, am_c1_n, am_c1_i, am_c1_r, am_c1_v, am_mk_1, lc_lt, lc_gt, lc_eq, lc_le, lc_ge, i01_eq, i01_ok, ite_not, true_or, or_true, true_and, and_true, false_or, or_false, false_and, and_false, if_true, if_false, not_true_eq_false, not_false_eq_true, eq_self, Nat.reduceAdd, Nat.reduceLeDiff, Nat.reduceLT, Nat.reduceEqDiff, Nat.reduceMul, Nat.reduceSub, Nat.reduceDiv, Nat.reduceMod, reduceCtorEq, Nat.zero_le, i3_le, i3_lt, i3_eq, i3_eqN, i3_leN, i3_Nle, i3_ltN, i3_NleN, i3_NeqN, i3_Neq, i3_NltN, i3_Nlt, l6_le, l6_lt, l6_eq, l6_leN, l6_Nle, l6_ltN, l6_Nlt, l6_eqN, l6_Neq, sg, tb, Bool.false_eq_true, decide_true, e0, e1, e2, e3, ↓reduceIte]
    · have e : Int32.ofNat p + -Int32.ofNat 1 = Int32.ofNat (p - 1) := by rw [← Int32.sub_eq_add_neg, i3_sub (by omega)]
      have b4 : p - 1 < 2147483648 := by omega
      have b5 : ¬ p - 1 < 0 := by omega
      have b6 : p - 1 < len := by omega
      simp only [e_H_thrownBack, r_H_thrownBack_0, r_H_thrownBack_1, r_H_thrownBack_2, r_H_thrownBack_3, r_H_thrownBack_6, r_H_thrownBack_7, r_H_thrownBack_8, r_H_thrownBack_9, r_H_thrownBack_10, r_H_thrownBack_13, r_H_thrownBack_14, r_H_thrownBack_15, r_H_thrownBack_18, r_H_thrownBack_19, i3n_0, i3n_1, l6n_0, l6n_1, am_kf_s, am_km_s, am_kn_s, am_k_v, am_k_0, am_isr_r, am_isr_n, am_isr_v, am_sw_0, am_sw_i, am_sw_l, am_sw_r, am_sw_n, am_sw_v, am_ct_i, am_ct_r, am_ct_n, am_c1_o, am_c1_n, am_c1_i, am_c1_r, am_c1_v, am_mk_1, lc_lt, lc_gt, lc_eq, lc_le, lc_ge, i01_eq, i01_ok, ite_not, true_or, or_true, true_and, and_true, false_or, or_false, false_and, and_false, if_true, if_false, not_true_eq_false, not_false_eq_true, eq_self, Nat.reduceAdd, Nat.reduceLeDiff, Nat.reduceLT, Nat.reduceEqDiff, Nat.reduceMul, Nat.reduceSub, Nat.reduceDiv, Nat.reduceMod, reduceCtorEq, Nat.zero_le, i3_le, i3_lt, i3_eq, i3_eqN, i3_leN, i3_Nle, i3_ltN, i3_NleN, i3_NeqN, i3_Neq, i3_NltN, i3_Nlt, l6_le, l6_lt, l6_eq, l6_leN, l6_Nle, l6_ltN, l6_Nlt, l6_eqN, l6_Neq, sg, tb, Bool.false_eq_true, h, decide_false, e, b2, b4, b5, b6, ↓reduceIte]
  · by_cases h : p + 1 < len
    · simp only [e_H_thrownBack, r_H_thrownBack_0, r_H_thrownBack_1, r_H_thrownBack_2, r_H_thrownBack_3, r_H_thrownBack_6, r_H_thrownBack_7, r_H_thrownBack_8, r_H_thrownBack_9, r_H_thrownBack_10, r_H_thrownBack_13, r_H_thrownBack_14, r_H_thrownBack_15, r_H_thrownBack_18, r_H_thrownBack_19, i3n_0, i3n_1, l6n_0, l6n_1, am_kf_s, am_km_s, am_kn_s, am_k_v, am_k_0, am_isr_r, am_isr_n, am_isr_v, am_sw_0, am_sw_i, am_sw_l, am_sw_r, am_sw_n, am_sw_v, am_ct_i, am_ct_r, am_ct_n, am_c1_o, am_c1_n, am_c1_i, am_c1_r, am_c1_v, am_mk_1, lc_lt, lc_gt, lc_eq, lc_le, lc_ge, i01_eq, i01_ok, ite_not, true_or, or_true, true_and, and_true, false_or, or_false, false_and, and_false, if_true, if_false, not_true_eq_false, not_false_eq_true, eq_self, Nat.reduceAdd, Nat.reduceLeDiff, Nat.reduceLT, Nat.reduceEqDiff, Nat.reduceMul, Nat.reduceSub, Nat.reduceDiv, Nat.reduceMod, reduceCtorEq, Nat.zero_le, i3_le, i3_lt, i3_eq, i3_eqN, i3_leN, i3_Nle, i3_ltN, i3_NleN, i3_NeqN, i3_Neq, i3_NltN, i3_Nlt, l6_le, l6_lt, l6_eq, l6_leN, l6_Nle, l6_ltN, l6_Nlt, l6_eqN, l6_Neq, sg, tb, h, decide_true, i3_add, b1, b2, b3, ↓reduceIte]
    · simp only [e_H_thrownBack, r_H_thrownBack_0, r_H_thrownBack_1, r_H_thrownBack_2, r_H_thrownBack_3, r_H_thrownBack_6, r_H_thrownBack_7, r_H_thrownBack_8, r_H_thrownBack_9, r_H_thrownBack_10, r_H_thrownBack_13, r_H_thrownBack_14, r_H_thrownBack_15, r_H_thrownBack_18, r_H_thrownBack_19, i3n_0, i3n_1, l6n_0, l6n_1, am_kf_s, am_km_s, am_kn_s, am_k_v, am_k_0, am_isr_r, am_isr_n, am_isr_v, am_sw_0, am_sw_i, am_sw_l, am_sw_r, am_sw_n, am_sw_v, am_ct_i, am_ct_r, am_ct_n, am_c1_o, am_c1_n, am_c1_i, am_c1_r, am_c1_v, am_mk_1, lc_lt, lc_gt, lc_eq, lc_le, lc_ge, i01_eq, i01_ok, ite_not, true_or, or_true, true_and, and_true, false_or, or_false, false_and, and_false, if_true, if_false, not_true_eq_false, not_false_eq_true, eq_self, Nat.reduceAdd, Nat.reduceLeDiff, Nat.reduceLT, Nat.reduceEqDiff, Nat.reduceMul, Nat.reduceSub, Nat.reduceDiv, Nat.reduceMod, reduceCtorEq, Nat.zero_le, i3_le, i3_lt, i3_eq, i3_eqN, i3_leN, i3_Nle, i3_ltN, i3_NleN, i3_NeqN, i3_Neq, i3_NltN, i3_Nlt, l6_le, l6_lt, l6_eq, l6_leN, l6_Nle, l6_ltN, l6_Nlt, l6_eqN, l6_Neq, sg, tb, h, decide_false, Bool.false_eq_true, i3_add, b1, b2, b3, ↓reduceIte]
/-- a VOICE: how often each seat was met after r more steps -/
def wk (w d : Nat) : Nat → Nat → Nat → Bool → Bool → (Nat → Int32) → Nat → Int32
  | 0, _, _, _, _, f => f
  | r + 1, p, q, a, b, f => wk w d r (mv p (tb w p a)) (mv q (tb d q b)) (tb w p a) (tb d q b) (fun k => if k = mv q (tb d q b) * w + mv p (tb w p a) then f k + Int32.ofNat 1 else f k)
theorem wk_eq {w d : Nat} : ∀ (r p q : Nat) (a b : Bool) (f g : Nat → Int32) (k : Nat), f k = g k → wk w d r p q a b f k = wk w d r p q a b g k := by
  intro r
  induction r with
  | zero => intro p q a b f g k h; exact h
  | succ r ih =>
    intro p q a b f g k h
    exact ih _ _ _ _ _ _ k (by simp only [h])
theorem seat_lt {w d p q : Nat} (hp : p < w) (hq : q < d) (hw : w ≤ 20) (hd : d ≤ 20) : q * w + p < w * d ∧ w * d ≤ 400 := by
  have h1 : q * w + w ≤ d * w := by
    have := Nat.mul_le_mul_right w (show q + 1 ≤ d from hq)
    rw [Nat.succ_mul] at this
    exact this
  rw [Nat.mul_comm w d]
  exact ⟨by omega, Nat.mul_le_mul hd hw⟩
theorem l_H_throwAbout {d w dp n hq i : Nat} {l2 l3 : Option Value} {Z : ly_Z} {L : Nat → Nat → Int64} {R : Nat → Nat → Option Nat} {D : am_M} (h2 : ly_is x true Z hq (i + 2000) 2) (hw : 2 ≤ w) (hw2 : w ≤ 20) (hd : 2 ≤ dp) (hd2 : dp ≤ 20) (hn : n ≤ 400) (c2 : am_c1 l2 = true) (c3 : am_c1 l3 = true) : ∀ (r k p q : Nat) (a b : Bool) (C : Nat → Nat → Int32) (l10 : Option Value), n - k = r → k ≤ n → p < w → q < dp → am_c1 l10 = true → C (i + 2000) 1 = Int32.ofNat w → C (i + 2000) 2 = Int32.ofNat dp → am_run G (d + 1) K_H_throwAbout (77, [some (.ref x), some (.ref hq), l2, l3, some (.int (Int32.ofNat n)), some (.int (Int32.ofNat p)), some (.int (Int32.ofNat q)), some (.int (sg a)), some (.int (sg b)), some (.int (Int32.ofNat k)), l10], [], am_mk x true Z C L R D) = some (none, am_mk x true Z (uk C 17 (wk w dp r p q a b (C 17))) L R D) := by
  intro r
  induction r with
  | zero =>
    intro k p q a b C l10 hk hkn hp hq' hl m1 m2
    have : k = n := by omega
    subst this
    have b1 : k < 2147483648 := by omega
    rw [wk, uk_self, r_H_throwAbout_77]
    simp only [r_H_throwAbout_79, r_H_throwAbout_81, r_H_throwAbout_84, r_H_throwAbout_86, r_H_throwAbout_88, r_H_throwAbout_89, r_H_throwAbout_92, r_H_throwAbout_95, r_H_throwAbout_95_k, r_H_throwAbout_97, r_H_throwAbout_99, r_H_throwAbout_101, r_H_throwAbout_102, r_H_throwAbout_105, r_H_throwAbout_108, r_H_throwAbout_108_k, r_H_throwAbout_110, r_H_throwAbout_112, r_H_throwAbout_114, r_H_throwAbout_115, r_H_throwAbout_115_k, r_H_throwAbout_117, r_H_throwAbout_119, r_H_throwAbout_121, r_H_throwAbout_122, r_H_throwAbout_122_k, r_H_throwAbout_124, r_H_throwAbout_126, r_H_throwAbout_127, r_H_throwAbout_130, r_H_throwAbout_131, r_H_throwAbout_133, r_H_throwAbout_134, r_H_throwAbout_134_k, r_H_throwAbout_136, r_H_throwAbout_138, r_H_throwAbout_141, r_H_throwAbout_143, r_H_throwAbout_144, r_H_throwAbout_147, r_H_throwAbout_148, r_H_throwAbout_151, r_H_throwAbout_152, r_H_throwAbout_155, r_H_throwAbout_157, r_H_throwAbout_158, r_H_throwAbout_159, r_H_throwAbout_160, r_H_throwAbout_161, r_H_throwAbout_162, r_H_throwAbout_162_k, r_H_throwAbout_165, r_H_throwAbout_168, ly_g0_13, ly_n17, ly_r17, ly_w17, i3n_0, i3n_1, i3n_3, l6n_0, l6n_1, am_kf_s, am_km_s, am_kn_s, am_k_v, am_k_0, am_isr_r, am_isr_n, am_isr_v, am_sw_0, am_sw_i, am_sw_l, am_sw_r, am_sw_n, am_sw_v, am_ct_i, am_ct_r, am_ct_n, am_c1_o, am_c1_n, am_c1_i, am_c1_r, am_c1_v, am_mk_1, lc_lt, lc_gt, lc_eq, lc_le, lc_ge, i01_eq, i01_ok, ite_not, true_or, or_true, true_and, and_true, false_or, or_false, false_and, and_false, if_true, if_false, not_true_eq_false, not_false_eq_true, eq_self, Nat.reduceAdd, Nat.reduceLeDiff, Nat.reduceLT, Nat.reduceEqDiff, Nat.reduceMul, Nat.reduceSub, Nat.reduceDiv, Nat.reduceMod, reduceCtorEq, Nat.zero_le, i3_le, i3_lt, i3_eq, i3_eqN, i3_leN, i3_Nle, i3_ltN, i3_NleN, i3_NeqN, i3_Neq, i3_NltN, i3_Nlt, l6_le, l6_lt, l6_eq, l6_leN, l6_Nle, l6_ltN, l6_Nlt, l6_eqN, l6_Neq, b1, hl, c2, c3, Nat.le_refl, ↓reduceIte]
  | succ r ih =>
    intro k p q a b C l10 hk hkn hp hq' hl m1 m2
    have b1 : k < 2147483648 := by omega
    have b2 : n < 2147483648 := by omega
    have b3 : ¬ n ≤ k := by omega
    have hd0 := h2.2.2
    have g1 := ly_dg2_1 (C := C) (L := L) (R := R) (D := D) h2
    have g2 := ly_dg2_2 (C := C) (L := L) (R := R) (D := D) h2
    rw [m1] at g1
    rw [m2] at g2
    have t1 := x_H_thrownBack (G := G) (d := d) (b := a) (M := am_mk x true Z C L R D) hw hw2 hp
    have t2 := x_H_thrownBack (G := G) (d := d) (b := b) (M := am_mk x true Z C L R D) hd hd2 hq'
    have u1 := sg_add (b := a) hw hp
    have u2 := sg_add (b := b) hd hq'
    have v1 := mv_lt (b := a) hw hp
    have v2 := mv_lt (b := b) hd hq'
    rw [wk]
    generalize tb w p a = a' at t1 u1 v1
    generalize tb dp q b = b' at t2 u2 v2
    generalize mv p a' = p' at u1 v1
    generalize mv q b' = q' at u2 v2
    obtain ⟨s1, s2⟩ := seat_lt v1 v2 hw2 hd2
    have b4 : q' * w + p' < 2147483648 := by omega
    have b5 : ¬ q' * w + p' < 0 := by omega
    have b6 : ¬ 400 ≤ q' * w + p' := by omega
    have b7 : q' * w + p' < 400 := by omega
    have e := ih (k + 1) p' q' a' b' (ux C 17 (q' * w + p') (C 17 (q' * w + p') + Int32.ofNat 1)) (some (.int (Int32.ofNat (q' * w + p')))) (by omega) (by omega) v1 v2 am_c1_i (by rw [ux_ne (by omega)]; exact m1) (by rw [ux_ne (by omega)]; exact m2)
    have e2 : ∀ F, uk (ux C 17 (q' * w + p') (C 17 (q' * w + p') + Int32.ofNat 1)) 17 F = uk C 17 F := by
      intro F
      funext y
      rw [uk_eq, uk_eq]
      split
      · rfl
      · funext z; rw [ux_ne (by omega)]
    have e3 : ux C 17 (q' * w + p') (C 17 (q' * w + p') + Int32.ofNat 1) 17 = fun k => if k = q' * w + p' then C 17 k + Int32.ofNat 1 else C 17 k := by
      funext z
      rw [ux_eq]
      by_cases hz : z = q' * w + p'
      · subst hz; rw [if_pos ⟨rfl, rfl⟩, if_pos rfl]
      · rw [if_neg (fun q => hz q.2), if_neg hz]
    rw [e2, e3] at e
    rw [← e, r_H_throwAbout_77]
    simp only [r_H_throwAbout_79, r_H_throwAbout_81, r_H_throwAbout_84, r_H_throwAbout_86, r_H_throwAbout_88, r_H_throwAbout_89, r_H_throwAbout_92, r_H_throwAbout_95, r_H_throwAbout_95_k, r_H_throwAbout_97, r_H_throwAbout_99, r_H_throwAbout_101, r_H_throwAbout_102, r_H_throwAbout_105, r_H_throwAbout_108, r_H_throwAbout_108_k, r_H_throwAbout_110, r_H_throwAbout_112, r_H_throwAbout_114, r_H_throwAbout_115, r_H_throwAbout_115_k, r_H_throwAbout_117, r_H_throwAbout_119, r_H_throwAbout_121, r_H_throwAbout_122, r_H_throwAbout_122_k, r_H_throwAbout_124, r_H_throwAbout_126, r_H_throwAbout_127, r_H_throwAbout_130, r_H_throwAbout_131, r_H_throwAbout_133, r_H_throwAbout_134, r_H_throwAbout_134_k, r_H_throwAbout_136, r_H_throwAbout_138, r_H_throwAbout_141, r_H_throwAbout_143, r_H_throwAbout_144, r_H_throwAbout_147, r_H_throwAbout_148, r_H_throwAbout_151, r_H_throwAbout_152, r_H_throwAbout_155, r_H_throwAbout_157, r_H_throwAbout_158, r_H_throwAbout_159, r_H_throwAbout_160, r_H_throwAbout_161, r_H_throwAbout_162, r_H_throwAbout_162_k, r_H_throwAbout_165, r_H_throwAbout_168, ly_g0_13, ly_n17, ly_r17, ly_w17, i3n_0, i3n_1, i3n_3, l6n_0, l6n_1, am_kf_s, am_km_s, am_kn_s, am_k_v, am_k_0, am_isr_r, am_isr_n, am_isr_v, am_sw_0, am_sw_i, am_sw_l, am_sw_r, am_sw_n, am_sw_v, am_ct_i, am_ct_r, am_ct_n, am_c1_o, am_c1_n, am_c1_i, am_c1_r, am_c1_v, am_mk_1, lc_lt, lc_gt, lc_eq, lc_le, lc_ge, i01_eq, i01_ok, ite_not, true_or, or_true, true_and, and_true, false_or, or_false, false_and, and_false, if_true, if_false, not_true_eq_false, not_false_eq_true, eq_self, Nat.reduceAdd, Nat.reduceLeDiff, Nat.reduceLT, Nat.reduceEqDiff, Nat.reduceMul, Nat.reduceSub, Nat.reduceDiv, Nat.reduceMod, reduceCtorEq, Nat.zero_le, i3_le, i3_lt, i3_eq, i3_eqN, i3_leN, i3_Nle, i3_ltN, i3_NleN, i3_NeqN, i3_Neq, i3_NltN, i3_Nlt, l6_le, l6_lt, l6_eq, l6_leN, l6_Nle, l6_ltN, l6_Nlt, l6_eqN, l6_Neq, b1, b2, b3, b4, b5, b6, b7, hl, c2, c3, g1, g2, t1, t2, u1, u2, i3_add, i3_mul, ↓reduceIte]
end
