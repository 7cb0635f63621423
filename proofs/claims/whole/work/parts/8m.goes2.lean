/-! echo, hears: the reference's walk, its steps -/
section
variable {G : Nat → Value} {x : Nat}
theorem l_M_goes {d w dp i seat way n : Nat} {Z : ly_Z} {L : Nat → Nat → Int64} {R : Nat → Nat → Option Nat} {D : am_M} (hi : i < 6) (hw : 2 ≤ w) (hw2 : w ≤ 20) (hd : 2 ≤ dp) (hd2 : dp ≤ 20) (hn : n ≤ 400) : ∀ (r k p q : Nat) (a b : Bool) (C : Nat → Nat → Int32), n - k = r → k ≤ n → p < w → q < dp → C 38 i = Int32.ofNat w → C 39 i = Int32.ofNat dp → am_run G (d + 1) K_M_goes (86, [some (.ref (x + 31)), some (.int (Int32.ofNat i)), some (.int (Int32.ofNat seat)), some (.int (Int32.ofNat way)), some (.int (Int32.ofNat n)), some (.int (Int32.ofNat p)), some (.int (Int32.ofNat q)), some (.int (sg a)), some (.int (sg b)), some (.int (Int32.ofNat k))], [], am_mk x true Z C L R D) = some (none, am_mk x true Z (uk C 52 (wk w dp r p q a b (C 52))) L R D) := by
  intro r
  induction r with
  | zero =>
    intro k p q a b C hk hkn hp hq' m1 m2
    have : k = n := by omega
    subst this
    have b1 : k < 2147483648 := by omega
    rw [wk, uk_self, r_M_goes_86]
    simp only [r_M_goes_88, r_M_goes_90, r_M_goes_93, r_M_goes_95, r_M_goes_97, r_M_goes_98, r_M_goes_99, r_M_goes_100, r_M_goes_101, r_M_goes_104, r_M_goes_105, r_M_goes_106, r_M_goes_107, r_M_goes_108, r_M_goes_109, r_M_goes_112, r_M_goes_115, r_M_goes_117, r_M_goes_120, r_M_goes_122, r_M_goes_123, r_M_goes_123_k, r_M_goes_125, r_M_goes_127, r_M_goes_129, r_M_goes_130, r_M_goes_131, r_M_goes_132, r_M_goes_133, r_M_goes_136, r_M_goes_137, r_M_goes_138, r_M_goes_139, r_M_goes_140, r_M_goes_141, r_M_goes_144, r_M_goes_147, r_M_goes_149, r_M_goes_152, r_M_goes_154, r_M_goes_155, r_M_goes_155_k, r_M_goes_157, r_M_goes_159, r_M_goes_161, r_M_goes_162, r_M_goes_162_k, r_M_goes_164, r_M_goes_166, r_M_goes_168, r_M_goes_169, r_M_goes_169_k, r_M_goes_171, r_M_goes_172, r_M_goes_175, r_M_goes_176, r_M_goes_179, r_M_goes_180, r_M_goes_181, r_M_goes_183, r_M_goes_184, r_M_goes_186, r_M_goes_187, r_M_goes_188, r_M_goes_189, r_M_goes_190, r_M_goes_191, r_M_goes_192, r_M_goes_192_k, r_M_goes_195, r_M_goes_198, ly_g31_15, ly_n38, ly_r38, ly_w38, ly_g31_16, ly_n39, ly_r39, ly_w39, ly_g31_44, ly_n52, ly_r52, ly_w52, i3n_0, i3n_1, i3n_2, i3n_3, l6n_0, l6n_1, am_kf_s, am_km_s, am_kn_s, am_k_v, am_k_0, am_isr_r, am_isr_n, am_isr_v, am_sw_0, am_sw_i, am_sw_l, am_sw_r, am_sw_n, am_sw_v, am_ct_i, am_ct_r, am_ct_n, am_c1_o, am_c1_n, am_c1_i, am_c1_r, am_c1_v, am_mk_1, lc_lt, lc_gt, lc_eq, lc_le, lc_ge, i01_eq, i01_ok, ite_not, true_or, or_true, true_and, and_true, false_or, or_false, false_and, and_false, if_true, if_false, not_true_eq_false, not_false_eq_true, eq_self, Nat.reduceAdd, Nat.reduceLeDiff, Nat.reduceLT, Nat.reduceEqDiff, Nat.reduceMul, Nat.reduceSub, Nat.reduceDiv, Nat.reduceMod, reduceCtorEq, Nat.zero_le, i3_le, i3_lt, i3_eq, i3_eqN, i3_leN, i3_Nle, i3_ltN, i3_NleN, i3_NeqN, i3_Neq, i3_NltN, i3_Nlt, l6_le, l6_lt, l6_eq, l6_leN, l6_Nle, l6_ltN, l6_Nlt, l6_eqN, l6_Neq, b1, Nat.le_refl, ↓reduceIte]
  | succ r ih =>
    intro k p q a b C hk hkn hp hq' m1 m2
    have b1 : k < 2147483648 := by omega
    have b2 : n < 2147483648 := by omega
    have b3 : ¬ n ≤ k := by omega
    have t1 := x_M_turn (b := a) hw hw2 hp
    have t2 := x_M_turn (b := b) hd hd2 hq'
    have u1 := sg_add (b := a) hw hp
    have u2 := sg_add (b := b) hd hq'
    have v1 := mv_lt (b := a) hw hp
    have v2 := mv_lt (b := b) hd hq'
    obtain ⟨s1, s2⟩ := seat_lt v1 v2 hw2 hd2
    rw [wk]
    have b7 : w * mv q (tb dp q b) + mv p (tb w p a) < 400 := by rw [Nat.mul_comm]; omega
    have e := ih (k + 1) (mv p (tb w p a)) (mv q (tb dp q b)) (tb w p a) (tb dp q b) (ux C 52 (w * mv q (tb dp q b) + mv p (tb w p a)) (C 52 (w * mv q (tb dp q b) + mv p (tb w p a)) + Int32.ofNat 1)) (by omega) (by omega) v1 v2 (by rw [ux_ne (by omega)]; exact m1) (by rw [ux_ne (by omega)]; exact m2)
    have e2 : ∀ s v F, uk (ux C 52 s v) 52 F = uk C 52 F := by
      intro s v F
      funext y
      by_cases hy : y = 52
      · subst hy; rw [uk_at, uk_at]
      · rw [uk_ne hy, uk_ne hy]; funext z; rw [ux_ne (by omega)]
    have e3 : ux C 52 (w * mv q (tb dp q b) + mv p (tb w p a)) (C 52 (w * mv q (tb dp q b) + mv p (tb w p a)) + Int32.ofNat 1) 52 = fun k => if k = mv q (tb dp q b) * w + mv p (tb w p a) then C 52 k + Int32.ofNat 1 else C 52 k := by
      funext z
      rw [ux_eq, Nat.mul_comm (mv q (tb dp q b)) w]
      by_cases hz : z = w * mv q (tb dp q b) + mv p (tb w p a)
      · subst hz; rw [if_pos ⟨rfl, rfl⟩, if_pos rfl]
      · rw [if_neg (fun q => hz q.2), if_neg hz]
    rw [e2, e3] at e
    rw [← e, r_M_goes_86]
    by_cases c1 : tb w p a = a
    · have t1 := t1.mpr c1
      rw [c1] at u1 b7 ⊢
      rw [u1] at t1
      by_cases c2 : tb dp q b = b
      · have t2 := t2.mpr c2
        rw [c2] at u2 b7 ⊢
        rw [u2] at t2
        simp only [r_M_goes_88, r_M_goes_90, r_M_goes_93, r_M_goes_95, r_M_goes_97, r_M_goes_98, r_M_goes_99, r_M_goes_100, r_M_goes_101, r_M_goes_104, r_M_goes_105, r_M_goes_106, r_M_goes_107, r_M_goes_108, r_M_goes_109, r_M_goes_112, r_M_goes_115, r_M_goes_117, r_M_goes_120, r_M_goes_122, r_M_goes_123, r_M_goes_123_k, r_M_goes_125, r_M_goes_127, r_M_goes_129, r_M_goes_130, r_M_goes_131, r_M_goes_132, r_M_goes_133, r_M_goes_136, r_M_goes_137, r_M_goes_138, r_M_goes_139, r_M_goes_140, r_M_goes_141, r_M_goes_144, r_M_goes_147, r_M_goes_149, r_M_goes_152, r_M_goes_154, r_M_goes_155, r_M_goes_155_k, r_M_goes_157, r_M_goes_159, r_M_goes_161, r_M_goes_162, r_M_goes_162_k, r_M_goes_164, r_M_goes_166, r_M_goes_168, r_M_goes_169, r_M_goes_169_k, r_M_goes_171, r_M_goes_172, r_M_goes_175, r_M_goes_176, r_M_goes_179, r_M_goes_180, r_M_goes_181, r_M_goes_183, r_M_goes_184, r_M_goes_186, r_M_goes_187, r_M_goes_188, r_M_goes_189, r_M_goes_190, r_M_goes_191, r_M_goes_192, r_M_goes_192_k, r_M_goes_195, r_M_goes_198, ly_g31_15, ly_n38, ly_r38, ly_w38, ly_g31_16, ly_n39, ly_r39, ly_w39, ly_g31_44, ly_n52, ly_r52, ly_w52, i3n_0, i3n_1, i3n_2, i3n_3, l6n_0, l6n_1, am_kf_s, am_km_s, am_kn_s, am_k_v, am_k_0, am_isr_r, am_isr_n, am_isr_v, am_sw_0, am_sw_i, am_sw_l, am_sw_r, am_sw_n, am_sw_v, am_ct_i, am_ct_r, am_ct_n, am_c1_o, am_c1_n, am_c1_i, am_c1_r, am_c1_v, am_mk_1, lc_lt, lc_gt, lc_eq, lc_le, lc_ge, i01_eq, i01_ok, ite_not, true_or, or_true, true_and, and_true, false_or, or_false, false_and, and_false, if_true, if_false, not_true_eq_false, not_false_eq_true, eq_self, Nat.reduceAdd, Nat.reduceLeDiff, Nat.reduceLT, Nat.reduceEqDiff, Nat.reduceMul, Nat.reduceSub, Nat.reduceDiv, Nat.reduceMod, reduceCtorEq, Nat.zero_le, i3_le, i3_lt, i3_eq, i3_eqN, i3_leN, i3_Nle, i3_ltN, i3_NleN, i3_NeqN, i3_Neq, i3_NltN, i3_Nlt, l6_le, l6_lt, l6_eq, l6_leN, l6_Nle, l6_ltN, l6_Nlt, l6_eqN, l6_Neq, b1, b2, b3, b7, hi, m1, m2, x_M_in, w_le, w_leL, t1, t2, and_self, u1, u2, i3_add, i3_mul, ↓reduceIte]
      · have t2 := mt t2.mp c2
        have c2 := tb_not c2
        rw [c2] at u2 b7 ⊢
        simp only [r_M_goes_88, r_M_goes_90, r_M_goes_93, r_M_goes_95, r_M_goes_97, r_M_goes_98, r_M_goes_99, r_M_goes_100, r_M_goes_101, r_M_goes_104, r_M_goes_105, r_M_goes_106, r_M_goes_107, r_M_goes_108, r_M_goes_109, r_M_goes_112, r_M_goes_115, r_M_goes_117, r_M_goes_120, r_M_goes_122, r_M_goes_123, r_M_goes_123_k, r_M_goes_125, r_M_goes_127, r_M_goes_129, r_M_goes_130, r_M_goes_131, r_M_goes_132, r_M_goes_133, r_M_goes_136, r_M_goes_137, r_M_goes_138, r_M_goes_139, r_M_goes_140, r_M_goes_141, r_M_goes_144, r_M_goes_147, r_M_goes_149, r_M_goes_152, r_M_goes_154, r_M_goes_155, r_M_goes_155_k, r_M_goes_157, r_M_goes_159, r_M_goes_161, r_M_goes_162, r_M_goes_162_k, r_M_goes_164, r_M_goes_166, r_M_goes_168, r_M_goes_169, r_M_goes_169_k, r_M_goes_171, r_M_goes_172, r_M_goes_175, r_M_goes_176, r_M_goes_179, r_M_goes_180, r_M_goes_181, r_M_goes_183, r_M_goes_184, r_M_goes_186, r_M_goes_187, r_M_goes_188, r_M_goes_189, r_M_goes_190, r_M_goes_191, r_M_goes_192, r_M_goes_192_k, r_M_goes_195, r_M_goes_198, ly_g31_15, ly_n38, ly_r38, ly_w38, ly_g31_16, ly_n39, ly_r39, ly_w39, ly_g31_44, ly_n52, ly_r52, ly_w52, i3n_0, i3n_1, i3n_2, i3n_3, l6n_0, l6n_1, am_kf_s, am_km_s, am_kn_s, am_k_v, am_k_0, am_isr_r, am_isr_n, am_isr_v, am_sw_0, am_sw_i, am_sw_l, am_sw_r, am_sw_n, am_sw_v, am_ct_i, am_ct_r, am_ct_n, am_c1_o, am_c1_n, am_c1_i, am_c1_r, am_c1_v, am_mk_1, lc_lt, lc_gt, lc_eq, lc_le, lc_ge, i01_eq, i01_ok, ite_not, true_or, or_true, true_and, and_true, false_or, or_false, false_and, and_false, if_true, if_false, not_true_eq_false, not_false_eq_true, eq_self, Nat.reduceAdd, Nat.reduceLeDiff, Nat.reduceLT, Nat.reduceEqDiff, Nat.reduceMul, Nat.reduceSub, Nat.reduceDiv, Nat.reduceMod, reduceCtorEq, Nat.zero_le, i3_le, i3_lt, i3_eq, i3_eqN, i3_leN, i3_Nle, i3_ltN, i3_NleN, i3_NeqN, i3_Neq, i3_NltN, i3_Nlt, l6_le, l6_lt, l6_eq, l6_leN, l6_Nle, l6_ltN, l6_Nlt, l6_eqN, l6_Neq, b1, b2, b3, b7, hi, m1, m2, x_M_in, w_le, w_leL, t1, t2, and_self, u1, u2, sg_neg, i3_add, i3_mul, ↓reduceIte]
    · have t1 := mt t1.mp c1
      have c1 := tb_not c1
      rw [c1] at u1 b7 ⊢
      by_cases c2 : tb dp q b = b
      · have t2 := t2.mpr c2
        rw [c2] at u2 b7 ⊢
        rw [u2] at t2
        simp only [r_M_goes_88, r_M_goes_90, r_M_goes_93, r_M_goes_95, r_M_goes_97, r_M_goes_98, r_M_goes_99, r_M_goes_100, r_M_goes_101, r_M_goes_104, r_M_goes_105, r_M_goes_106, r_M_goes_107, r_M_goes_108, r_M_goes_109, r_M_goes_112, r_M_goes_115, r_M_goes_117, r_M_goes_120, r_M_goes_122, r_M_goes_123, r_M_goes_123_k, r_M_goes_125, r_M_goes_127, r_M_goes_129, r_M_goes_130, r_M_goes_131, r_M_goes_132, r_M_goes_133, r_M_goes_136, r_M_goes_137, r_M_goes_138, r_M_goes_139, r_M_goes_140, r_M_goes_141, r_M_goes_144, r_M_goes_147, r_M_goes_149, r_M_goes_152, r_M_goes_154, r_M_goes_155, r_M_goes_155_k, r_M_goes_157, r_M_goes_159, r_M_goes_161, r_M_goes_162, r_M_goes_162_k, r_M_goes_164, r_M_goes_166, r_M_goes_168, r_M_goes_169, r_M_goes_169_k, r_M_goes_171, r_M_goes_172, r_M_goes_175, r_M_goes_176, r_M_goes_179, r_M_goes_180, r_M_goes_181, r_M_goes_183, r_M_goes_184, r_M_goes_186, r_M_goes_187, r_M_goes_188, r_M_goes_189, r_M_goes_190, r_M_goes_191, r_M_goes_192, r_M_goes_192_k, r_M_goes_195, r_M_goes_198, ly_g31_15, ly_n38, ly_r38, ly_w38, ly_g31_16, ly_n39, ly_r39, ly_w39, ly_g31_44, ly_n52, ly_r52, ly_w52, i3n_0, i3n_1, i3n_2, i3n_3, l6n_0, l6n_1, am_kf_s, am_km_s, am_kn_s, am_k_v, am_k_0, am_isr_r, am_isr_n, am_isr_v, am_sw_0, am_sw_i, am_sw_l, am_sw_r, am_sw_n, am_sw_v, am_ct_i, am_ct_r, am_ct_n, am_c1_o, am_c1_n, am_c1_i, am_c1_r, am_c1_v, am_mk_1, lc_lt, lc_gt, lc_eq, lc_le, lc_ge, i01_eq, i01_ok, ite_not, true_or, or_true, true_and, and_true, false_or, or_false, false_and, and_false, if_true, if_false, not_true_eq_false, not_false_eq_true, eq_self, Nat.reduceAdd, Nat.reduceLeDiff, Nat.reduceLT, Nat.reduceEqDiff, Nat.reduceMul, Nat.reduceSub, Nat.reduceDiv, Nat.reduceMod, reduceCtorEq, Nat.zero_le, i3_le, i3_lt, i3_eq, i3_eqN, i3_leN, i3_Nle, i3_ltN, i3_NleN, i3_NeqN, i3_Neq, i3_NltN, i3_Nlt, l6_le, l6_lt, l6_eq, l6_leN, l6_Nle, l6_ltN, l6_Nlt, l6_eqN, l6_Neq, b1, b2, b3, b7, hi, m1, m2, x_M_in, w_le, w_leL, t1, t2, and_self, u1, u2, sg_neg, i3_add, i3_mul, ↓reduceIte]
      · have t2 := mt t2.mp c2
        have c2 := tb_not c2
        rw [c2] at u2 b7 ⊢
        simp only [r_M_goes_88, r_M_goes_90, r_M_goes_93, r_M_goes_95, r_M_goes_97, r_M_goes_98, r_M_goes_99, r_M_goes_100, r_M_goes_101, r_M_goes_104, r_M_goes_105, r_M_goes_106, r_M_goes_107, r_M_goes_108, r_M_goes_109, r_M_goes_112, r_M_goes_115, r_M_goes_117, r_M_goes_120, r_M_goes_122, r_M_goes_123, r_M_goes_123_k, r_M_goes_125, r_M_goes_127, r_M_goes_129, r_M_goes_130, r_M_goes_131, r_M_goes_132, r_M_goes_133, r_M_goes_136, r_M_goes_137, r_M_goes_138, r_M_goes_139, r_M_goes_140, r_M_goes_141, r_M_goes_144, r_M_goes_147, r_M_goes_149, r_M_goes_152, r_M_goes_154, r_M_goes_155, r_M_goes_155_k, r_M_goes_157, r_M_goes_159, r_M_goes_161, r_M_goes_162, r_M_goes_162_k, r_M_goes_164, r_M_goes_166, r_M_goes_168, r_M_goes_169, r_M_goes_169_k, r_M_goes_171, r_M_goes_172, r_M_goes_175, r_M_goes_176, r_M_goes_179, r_M_goes_180, r_M_goes_181, r_M_goes_183, r_M_goes_184, r_M_goes_186, r_M_goes_187, r_M_goes_188, r_M_goes_189, r_M_goes_190, r_M_goes_191, r_M_goes_192, r_M_goes_192_k, r_M_goes_195, r_M_goes_198, ly_g31_15, ly_n38, ly_r38, ly_w38, ly_g31_16, ly_n39, ly_r39, ly_w39, ly_g31_44, ly_n52, ly_r52, ly_w52, i3n_0, i3n_1, i3n_2, i3n_3, l6n_0, l6n_1, am_kf_s, am_km_s, am_kn_s, am_k_v, am_k_0, am_isr_r, am_isr_n, am_isr_v, am_sw_0, am_sw_i, am_sw_l, am_sw_r, am_sw_n, am_sw_v, am_ct_i, am_ct_r, am_ct_n, am_c1_o, am_c1_n, am_c1_i, am_c1_r, am_c1_v, am_mk_1, lc_lt, lc_gt, lc_eq, lc_le, lc_ge, i01_eq, i01_ok, ite_not, true_or, or_true, true_and, and_true, false_or, or_false, false_and, and_false, if_true, if_false, not_true_eq_false, not_false_eq_true, eq_self, Nat.reduceAdd, Nat.reduceLeDiff, Nat.reduceLT, Nat.reduceEqDiff, Nat.reduceMul, Nat.reduceSub, Nat.reduceDiv, Nat.reduceMod, reduceCtorEq, Nat.zero_le, i3_le, i3_lt, i3_eq, i3_eqN, i3_leN, i3_Nle, i3_ltN, i3_NleN, i3_NeqN, i3_Neq, i3_NltN, i3_Nlt, l6_le, l6_lt, l6_eq, l6_leN, l6_Nle, l6_ltN, l6_Nlt, l6_eqN, l6_Neq, b1, b2, b3, b7, hi, m1, m2, x_M_in, w_le, w_leL, t1, t2, and_self, u1, u2, sg_neg, i3_add, i3_mul, ↓reduceIte]
end
