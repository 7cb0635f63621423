/-! the constructors: cells in a row -/
def mwf (y n : Nat) (f : Nat → am_C) (F : Nat → Option am_C) : am_M := (y + n, fun q => if y ≤ q ∧ q < y + n then some (f (q - y)) else F q)
def wu (f : Nat → am_C) (k : Nat) (e : am_C) : Nat → am_C := fun j => if j = k then e else f j
theorem wu_eq {f : Nat → am_C} {k : Nat} {e : am_C} {j : Nat} : wu f k e j = if j = k then e else f j := rfl
section
variable {y n o : Nat} {f : Nat → am_C} {F : Nat → Option am_C} {e : am_C}
theorem mw_1 : (mwf y n f F).1 = y + n := rfl
theorem mw_0 {M : am_M} {f : Nat → am_C} : mwf M.1 0 f M.2 = M := by
  refine Prod.ext rfl (funext fun q => ?_)
  show (if M.1 ≤ q ∧ q < M.1 + 0 then some (f (q - M.1)) else M.2 q) = M.2 q
  rw [if_neg (by omega)]
theorem mw_get (h : o < n) : (mwf y n f F).2 (y + o) = some (f o) := by
  show (if y ≤ y + o ∧ y + o < y + n then some (f (y + o - y)) else F (y + o)) = _
  rw [if_pos ⟨Nat.le_add_right _ _, by omega⟩, Nat.add_sub_cancel_left]
theorem mw_add : am_add (mwf y n f F) e = mwf y (n + 1) (wu f n e) F := by
  refine Prod.ext rfl (funext fun q => ?_)
  show (if q = y + n then some e else if y ≤ q ∧ q < y + n then some (f (q - y)) else F q) = if y ≤ q ∧ q < y + (n + 1) then some (if q - y = n then e else f (q - y)) else F q
  by_cases h : q = y + n
  · subst h; rw [if_pos rfl, if_pos ⟨by omega, by omega⟩, if_pos (by omega)]
  · rw [if_neg h]
    by_cases h2 : y ≤ q ∧ q < y + n
    · rw [if_pos h2, if_pos ⟨h2.1, by omega⟩, if_neg (by omega)]
    · rw [if_neg h2, if_neg (by omega)]
theorem mw_set (h : o < n) : am_set (mwf y n f F) (y + o) e = mwf y n (wu f o e) F := by
  refine Prod.ext rfl (funext fun q => ?_)
  show (if q = y + o then some e else if y ≤ q ∧ q < y + n then some (f (q - y)) else F q) = if y ≤ q ∧ q < y + n then some (if q - y = o then e else f (q - y)) else F q
  by_cases hq : q = y + o
  · subst hq; rw [if_pos rfl, if_pos ⟨by omega, by omega⟩, if_pos (by omega)]
  · rw [if_neg hq]
    by_cases h2 : y ≤ q ∧ q < y + n
    · rw [if_pos h2, if_pos h2, if_neg (by omega)]
    · rw [if_neg h2, if_neg h2]
theorem mw_pf {ci k : Nat} {ty : FieldType} {v : Value} (h : o < n) : am_pf (mwf y n f F) (y + o) ci k ty v = match f o with
    | .inr (c, fs) => if c = ci ∧ k < fs.length ∧ am_okf ty v = true then some (mwf y n (wu f o (.inr (ci, fs.set k v))) F) else none
    | _ => none := by
  unfold am_pf
  rw [mw_get h]
  cases f o with
  | inl c => rfl
  | inr c =>
    obtain ⟨c, fs⟩ := c
    simp only [mw_set h]
theorem mw_pf0 {ci k : Nat} {ty : FieldType} {v : Value} (h : 0 < n) : am_pf (mwf y n f F) y ci k ty v = match f 0 with
    | .inr (c, fs) => if c = ci ∧ k < fs.length ∧ am_okf ty v = true then some (mwf y n (wu f 0 (.inr (ci, fs.set k v))) F) else none
    | _ => none := mw_pf (y := y) (o := 0) h
theorem mw_pi {i v : Int32} (h : o < n) : am_pi (mwf y n f F) (y + o) i v = match f o with
    | .inl (k, m, .inl g) => if k = 0 ∧ 0 ≤ i ∧ i.toNatClampNeg < m then some (mwf y n (wu f o (.inl (0, m, .inl (upd g i.toNatClampNeg v)))) F) else none
    | _ => none := by
  unfold am_pi
  rw [mw_get h]
  cases f o with
  | inr c => rfl
  | inl c =>
    obtain ⟨k, m, g⟩ := c
    cases g with
    | inr g => rfl
    | inl g => simp only [mw_set h]
theorem mw_newa {k n : Nat} {g : (Nat → Int32) ⊕ (Nat → Int64) ⊕ (Nat → UInt32) ⊕ (Nat → UInt64) ⊕ (Nat → Option Nat)} (hn : n ≤ 1000) {M : am_M} : am_newa (some (k, g)) (Int32.ofNat n) M = some (am_add M (.inl (k, n, g))) := by
  have e : (Int32.ofNat n).toNatClampNeg = n := i3_clamp (by omega)
  unfold am_newa
  simp only [e]
  rw [if_pos ⟨ly_nn (by omega), hn⟩]
end
theorem ok_int {v : Int32} : am_okf .int (.int v) = true := rfl
theorem ok_9_0 {a : Nat} : am_okf (am_fty 9 0) (.ref a) = true := rfl
theorem ok_9_1 {a : Nat} : am_okf (am_fty 9 1) (.ref a) = true := rfl
theorem ok_9_2 {a : Nat} : am_okf (am_fty 9 2) (.ref a) = true := rfl
theorem ok_9_3 {a : Nat} : am_okf (am_fty 9 3) (.ref a) = true := rfl
theorem ok_9_4 {a : Nat} : am_okf (am_fty 9 4) (.ref a) = true := rfl
theorem ok_9_9 {a : Nat} : am_okf (am_fty 9 9) (.ref a) = true := rfl
theorem ok_9_11 {a : Nat} : am_okf (am_fty 9 11) (.ref a) = true := rfl
theorem ok_9_12 {a : Nat} : am_okf (am_fty 9 12) (.ref a) = true := rfl
theorem ok_9_13 {a : Nat} : am_okf (am_fty 9 13) (.ref a) = true := rfl
theorem ok_9_14 {a : Nat} : am_okf (am_fty 9 14) (.ref a) = true := rfl
theorem ok_7_0 {a : Nat} : am_okf (am_fty 7 0) (.ref a) = true := rfl
theorem ok_7_7 {a : Nat} : am_okf (am_fty 7 7) (.ref a) = true := rfl
theorem ok_5_1 {a : Nat} : am_okf (am_fty 5 1) (.ref a) = true := rfl
theorem ok_5_2 {a : Nat} : am_okf (am_fty 5 2) (.ref a) = true := rfl
theorem ok_5_3 {a : Nat} : am_okf (am_fty 5 3) (.ref a) = true := rfl
theorem ok_5_4 {a : Nat} : am_okf (am_fty 5 4) (.ref a) = true := rfl
theorem ok_5_5 {a : Nat} : am_okf (am_fty 5 5) (.ref a) = true := rfl
theorem ok_5_6 {a : Nat} : am_okf (am_fty 5 6) (.ref a) = true := rfl
def st_Z : ly_Z := (fun _ => none, fun _ => 0)
def st_C : Nat → Nat → Int32 := uk (ux (fun _ _ => Int32.ofNat 0) 0 17 (-Int32.ofNat 1)) 6 (upd (upd (upd (upd (fun _ => Int32.ofNat 0) 0 (Int32.ofNat 49)) 1 (Int32.ofNat 100)) 2 (Int32.ofNat 450)) 3 (Int32.ofNat 30))
def st_L : Nat → Nat → Int64 := fun _ _ => Int64.ofNat 0
def st_R : Nat → Nat → Option Nat := fun _ _ => none
section
variable {G : Nat → Value} {x : Nat} {F : Nat → Option am_C} {f : Nat → am_C}
theorem H_init1 {d : Nat} : am_run G (d + 1) K_H_init (0, [some (.ref x), none], [], mwf x 1 (wu f 0 (.inr (9, [.null, .null, .null, .null, .null, .int (Int32.ofNat 0), .int (Int32.ofNat 0), .int (Int32.ofNat 0), .int (Int32.ofNat 0), .null, .int (Int32.ofNat 0), .null, .null, .null, .null, .int (Int32.ofNat 0), .int (Int32.ofNat 0), .int (Int32.ofNat 0)]))) F) = am_run G (d + 1) K_H_init (121, [some (.ref x), some (.int (Int32.ofNat 0))], [], am_mk x false st_Z st_C st_L st_R (x + 19, F)) := by
  simp only [e_H_init, r_H_init_0, r_H_init_1, r_H_init_4, r_H_init_5, r_H_init_7, r_H_init_10, r_H_init_13, r_H_init_14, r_H_init_16, r_H_init_19, r_H_init_22, r_H_init_23, r_H_init_25, r_H_init_28, r_H_init_31, r_H_init_32, r_H_init_34, r_H_init_37, r_H_init_40, r_H_init_41, r_H_init_42, r_H_init_45, r_H_init_48, r_H_init_49, r_H_init_50, r_H_init_52, r_H_init_53, r_H_init_54, r_H_init_56, r_H_init_57, r_H_init_58, r_H_init_59, r_H_init_61, r_H_init_62, r_H_init_63, r_H_init_64, r_H_init_67, r_H_init_68, r_H_init_69, r_H_init_70, r_H_init_72, r_H_init_73, r_H_init_76, r_H_init_77, r_H_init_80, r_H_init_81, r_H_init_84, r_H_init_87, r_H_init_88, r_H_init_91, r_H_init_92, r_H_init_95, r_H_init_98, r_H_init_99, r_H_init_102, r_H_init_104, r_H_init_107, r_H_init_108, r_H_init_109, r_H_init_111, r_H_init_114, r_H_init_115, r_H_init_116, r_H_init_119, r_H_init_120, r_H_init_120_k, r_H_init_122, r_H_init_124, r_H_init_127, r_H_init_130, r_H_init_131, r_H_init_134, r_H_init_136, r_H_init_137, r_H_init_140, r_H_init_143, r_H_init_143_k, r_H_init_146, r_H_init_149, r_H_init_150, r_H_init_153, r_H_init_154, r_H_init_155, r_H_init_158, r_H_init_161, r_H_init_162, r_H_init_163, r_H_init_164, r_H_init_167, r_H_init_168, r_H_init_168_k, r_H_init_170, r_H_init_171, r_H_init_174, r_H_init_175, r_H_init_178, r_H_init_179, r_H_init_182, r_H_init_183, r_H_init_186, r_H_init_187, r_H_init_190, r_H_init_191, r_H_init_191_k, r_H_init_194, r_H_init_197, ly_g0_0, ly_n1, ly_r1, ly_w1, ly_g0_1, ly_n2, ly_r2, ly_w2, ly_g0_2, ly_n3, ly_r3, ly_w3, ly_g0_3, ly_n4, ly_r4, ly_w4, ly_g0_4, ly_n5, ly_r5, ly_w5, ly_g0_9, ly_n6, ly_r6, ly_w6, ly_g0_11, ly_k7, ly_g0_12, ly_k10, ly_g0_13, ly_n17, ly_r17, ly_w17, ly_g0_14, ly_n18, ly_r18, ly_w18, ly_g0_17, ly_p0_17, ly_g0_8, ly_p0_8, i3n_0, i3n_1, i3n_2, i3n_3, i3n_4, i3n_6, i3n_8, i3n_30, i3n_40, i3n_49, i3n_100, i3n_400, i3n_450, l6n_0, l6n_1, e_Ta_init, r_Ta_init_0, r_Ta_init_1, r_Ta_init_4, r_Ta_init_5, r_Ta_init_8, r_Ta_init_10, r_Ta_init_13, r_Ta_init_14, r_Ta_init_17, r_Ta_init_19, r_Ta_init_22, ly_g7_0, ly_n8, ly_r8, ly_w8, ly_g7_7, ly_n9, ly_r9, ly_w9, i3n_160, e_Sp_init, r_Sp_init_0, r_Sp_init_1, r_Sp_init_4, r_Sp_init_5, r_Sp_init_7, r_Sp_init_10, r_Sp_init_13, r_Sp_init_14, r_Sp_init_16, r_Sp_init_18, r_Sp_init_21, r_Sp_init_22, r_Sp_init_24, r_Sp_init_26, r_Sp_init_29, r_Sp_init_30, r_Sp_init_32, r_Sp_init_34, r_Sp_init_37, r_Sp_init_38, r_Sp_init_40, r_Sp_init_42, r_Sp_init_45, r_Sp_init_46, r_Sp_init_48, r_Sp_init_50, r_Sp_init_53, ly_g10_1, ly_n11, ly_r11, ly_w11, ly_g10_2, ly_n12, ly_r12, ly_w12, ly_g10_3, ly_n13, ly_r13, ly_w13, ly_g10_4, ly_n14, ly_r14, ly_w14, ly_g10_5, ly_n15, ly_r15, ly_w15, ly_g10_6, ly_n16, ly_r16, ly_w16, am_kf_s, am_km_s, am_kn_s, am_k_v, am_k_0, am_isr_r, am_isr_n, am_isr_v, am_sw_0, am_sw_i, am_sw_l, am_sw_r, am_sw_n, am_sw_v, am_ct_i, am_ct_r, am_ct_n, am_c1_o, am_c1_n, am_c1_i, am_c1_r, am_c1_v, am_mk_1, lc_lt, lc_gt, lc_eq, lc_le, lc_ge, i01_eq, i01_ok, ite_not, true_or, or_true, true_and, and_true, false_or, or_false, false_and, and_false, if_true, if_false, not_true_eq_false, not_false_eq_true, eq_self, Nat.reduceAdd, Nat.reduceLeDiff, Nat.reduceLT, Nat.reduceEqDiff, Nat.reduceMul, Nat.reduceSub, Nat.reduceDiv, Nat.reduceMod, reduceCtorEq, Nat.zero_le, i3_le, i3_lt, i3_eq, i3_eqN, i3_leN, i3_Nle, i3_ltN, i3_NleN, i3_NeqN, i3_Neq, i3_NltN, i3_Nlt, l6_le, l6_lt, l6_eq, l6_leN, l6_Nle, l6_ltN, l6_Nlt, l6_eqN, l6_Neq, wu_eq, mw_1, mw_add, mw_pf, mw_pf0, mw_pi, mw_newa, ok_int, ok_9_0, ok_9_1, ok_9_2, ok_9_3, ok_9_4, ok_9_9, ok_9_11, ok_9_12, ok_9_13, ok_9_14, ok_7_0, ok_7_7, ok_5_1, ok_5_2, ok_5_3, ok_5_4, ok_5_5, ok_5_6, List.length_set, List.length_cons, List.length_nil, i3_clamp, and_self, ↓reduceIte]
  refine congrArg (fun M => am_run G (d + 1) K_H_init (121, [some (.ref x), some (.int (Int32.ofNat 0))], [], M)) ?_
  refine Prod.ext rfl (funext fun q => ?_)
  by_cases h : x ≤ q ∧ q < x + 19
  · obtain ⟨o, rfl⟩ : ∃ o, q = x + o := ⟨q - x, by omega⟩
    have ho : o < 19 := by omega
    have hs : ly_st false o = true := by unfold ly_st; rw [decide_eq_true ho]; rfl
    rw [mw_get ho, ly_get hs]
    have oo : o = 0 ∨ o = 1 ∨ o = 2 ∨ o = 3 ∨ o = 4 ∨ o = 5 ∨ o = 6 ∨ o = 7 ∨ o = 8 ∨ o = 9 ∨ o = 10 ∨ o = 11 ∨ o = 12 ∨ o = 13 ∨ o = 14 ∨ o = 15 ∨ o = 16 ∨ o = 17 ∨ o = 18 := by omega
    rcases oo with rfl | rfl | rfl | rfl | rfl | rfl | rfl | rfl | rfl | rfl | rfl | rfl | rfl | rfl | rfl | rfl | rfl | rfl | rfl <;> rfl
  · have e1 : ∀ f, (mwf x 19 f F).2 q = F q := fun f => if_neg h
    have e2 : (am_mk x false st_Z st_C st_L st_R (x + 19, F)).2 q = F q := by
      show ly_at x false st_Z st_C st_L st_R (x + 19, F) q = F q
      unfold ly_at
      rw [if_neg (fun e => h ⟨e.1, by
        have := e.2
        simp only [ly_st, Bool.false_and, Bool.or_false, decide_eq_true_eq] at this
        omega⟩)]
      rfl
    rw [e1, e2]
/-! the first TEXT -/
def t0A : List Nat := [108, 97, 116, 101, 32, 116, 105, 114, 101, 100, 32, 42, 32, 50, 32, 59, 32, 108, 101, 97, 118, 101, 32, 116, 105, 109, 101, 32, 61, 32, 48, 32, 59]
def t0B : List Nat := t0A ++ [32, 32, 32, 32, 32, 32, 32]
def t0l : List Int32 := [-6, 2, -12]
def t0e : List Int32 := [-5, 0, -14]
theorem t0A_text : pa_text (fun j => t0A.getD j 0) 33 = .inl (t0l, t0e) := by decide +kernel
theorem t0B_text : pa_text (fun j => t0B.getD j 0) 40 = .inl (t0l, t0e) := by decide +kernel
theorem t0A_by : ∀ j, j < 33 → am_bf 0 j = Int32.ofNat (t0A.getD j 0) ∧ t0A.getD j 0 < 128 := by
  have key : ∀ j : Fin 33, am_bf 0 j.val = Int32.ofNat (t0A.getD j.val 0) ∧ t0A.getD j.val 0 < 128 := by decide +kernel
  exact fun j hj => key ⟨j, hj⟩
theorem t0B_lt : ∀ j, j < 40 → t0B.getD j 0 < 256 := by
  have key : ∀ j : Fin 40, t0B.getD j.val 0 < 256 := by decide +kernel
  exact fun j hj => key ⟨j, hj⟩
theorem l_H_init {d : Nat} {Z : ly_Z} {L : Nat → Nat → Int64} {R : Nat → Nat → Option Nat} {D : am_M} (hS : tp_S G x Z D) : ∀ (r k : Nat) (C : Nat → Nat → Int32), 33 - k = r → k ≤ 33 → C 7 1 = Int32.ofNat k → (∀ j, j < k → C 8 j = Int32.ofNat (t0A.getD j 0)) → ∃ C', am_run G (d + 4) K_H_init (121, [some (.ref x), some (.int (Int32.ofNat k))], [], am_mk x false Z C L R D) = am_run G (d + 4) K_H_init (149, [some (.ref x), some (.int (Int32.ofNat 33))], [], am_mk x false Z C' L R D) ∧ C' 7 1 = Int32.ofNat 33 ∧ (∀ j, j < 33 → C' 8 j = Int32.ofNat (t0A.getD j 0)) ∧ ∀ a j, ¬ (a = 8 ∨ a = 7 ∧ j = 1) → C' a j = C a j := by
  obtain ⟨k0, v0, hk, hM⟩ := tp_S_get hS (i := 0) (by decide)
  have hk : G 10 = .ref k0 := hk
  have hw := hS.1
  intro r
  induction r with
  | zero =>
    intro k C hr hk2 h71 h8
    have e : k = 33 := by omega
    subst e
    obtain ⟨hM1, hM2⟩ := hM false C L R
    have e1 := x_Js_length (G := G) (d := d + 2) hM1 hM2
    have kc : am_cls (am_mk x false Z C L R D) k0 = some 11 := by rw [am_cls, hM1]
    have e33 : am_ln.getD 0 0 = 33 := rfl
    rw [e33] at e1
    refine ⟨C, ?_, h71, h8, fun _ _ _ => rfl⟩
    rw [r_H_init_121]
    simp only [r_H_init_122, r_H_init_124, r_H_init_127, r_H_init_130, r_H_init_131, r_H_init_134, r_H_init_136, r_H_init_137, r_H_init_140, r_H_init_143, r_H_init_143_k, r_H_init_146, ly_g0_0, ly_n1, ly_r1, ly_w1, ly_g0_1, ly_n2, ly_r2, ly_w2, ly_g0_2, ly_n3, ly_r3, ly_w3, ly_g0_3, ly_n4, ly_r4, ly_w4, ly_g0_4, ly_n5, ly_r5, ly_w5, ly_g0_9, ly_n6, ly_r6, ly_w6, ly_g0_11, ly_k7, ly_g0_12, ly_k10, ly_g0_13, ly_n17, ly_r17, ly_w17, ly_g0_14, ly_n18, ly_r18, ly_w18, ly_g0_17, ly_p0_17, ly_g0_8, ly_p0_8, i3n_0, i3n_1, i3n_2, i3n_3, i3n_4, i3n_6, i3n_8, i3n_30, i3n_40, i3n_49, i3n_100, i3n_400, i3n_450, l6n_0, l6n_1, am_kf_s, am_km_s, am_kn_s, am_k_v, am_k_0, am_isr_r, am_isr_n, am_isr_v, am_sw_0, am_sw_i, am_sw_l, am_sw_r, am_sw_n, am_sw_v, am_ct_i, am_ct_r, am_ct_n, am_c1_o, am_c1_n, am_c1_i, am_c1_r, am_c1_v, am_mk_1, lc_lt, lc_gt, lc_eq, lc_le, lc_ge, i01_eq, i01_ok, ite_not, true_or, or_true, true_and, and_true, false_or, or_false, false_and, and_false, if_true, if_false, not_true_eq_false, not_false_eq_true, eq_self, Nat.reduceAdd, Nat.reduceLeDiff, Nat.reduceLT, Nat.reduceEqDiff, Nat.reduceMul, Nat.reduceSub, Nat.reduceDiv, Nat.reduceMod, reduceCtorEq, Nat.zero_le, i3_le, i3_lt, i3_eq, i3_eqN, i3_leN, i3_Nle, i3_ltN, i3_NleN, i3_NeqN, i3_Neq, i3_NltN, i3_Nlt, l6_le, l6_lt, l6_eq, l6_leN, l6_Nle, l6_ltN, l6_Nlt, l6_eqN, l6_Neq, hk, kc, e1, ↓reduceIte]
  | succ r ih =>
    intro k C hr hk2 h71 h8
    have hk3 : k < 33 := by omega
    obtain ⟨hM1, hM2⟩ := hM false C L R
    have e1 := x_Js_length (G := G) (d := d + 2) hM1 hM2
    have kc : am_cls (am_mk x false Z C L R D) k0 = some 11 := by rw [am_cls, hM1]
    have e33 : am_ln.getD 0 0 = 33 := rfl
    rw [e33] at e1 hM2
    obtain ⟨q1, q2⟩ := t0A_by k hk3
    have e2 := x_Js_charAt (G := G) (d := d) hw hM1 hM2 hk3 (by omega) q2 q1
    have e3 := x_Ta_append (G := G) (x := x) (d := d + 3) (bb := false) (Z := Z) (C := C) (L := L) (R := R) (D := D) (v := Int32.ofNat (t0A.getD k 0)) h71 (by omega)
    have k7 := ly_k7 (x := x) (b := false) (Z := Z) (C := C) (L := L) (R := R) (D := D)
    obtain ⟨C', w1, w2, w3, w4⟩ := ih (k + 1) (ux (ux C 8 k (Int32.ofNat (t0A.getD k 0))) 7 1 (Int32.ofNat (k + 1))) (by omega) (by omega) ux_at (fun j hj => by
      rw [ux_ne (by omega)]
      by_cases hjk : j = k
      · subst hjk; rw [ux_at]
      · rw [ux_ne (by omega)]; exact h8 j (by omega))
    refine ⟨C', ?_, w2, w3, fun a j q => by rw [w4 a j q, ux_ne (by omega), ux_ne (by omega)]⟩
    have b1 : k < 2147483648 := by omega
    have b2 : ¬ 33 ≤ k := by omega
    rw [← w1, r_H_init_121]
    simp only [r_H_init_122, r_H_init_124, r_H_init_127, r_H_init_130, r_H_init_131, r_H_init_134, r_H_init_136, r_H_init_137, r_H_init_140, r_H_init_143, r_H_init_143_k, r_H_init_146, ly_g0_0, ly_n1, ly_r1, ly_w1, ly_g0_1, ly_n2, ly_r2, ly_w2, ly_g0_2, ly_n3, ly_r3, ly_w3, ly_g0_3, ly_n4, ly_r4, ly_w4, ly_g0_4, ly_n5, ly_r5, ly_w5, ly_g0_9, ly_n6, ly_r6, ly_w6, ly_g0_11, ly_k7, ly_g0_12, ly_k10, ly_g0_13, ly_n17, ly_r17, ly_w17, ly_g0_14, ly_n18, ly_r18, ly_w18, ly_g0_17, ly_p0_17, ly_g0_8, ly_p0_8, i3n_0, i3n_1, i3n_2, i3n_3, i3n_4, i3n_6, i3n_8, i3n_30, i3n_40, i3n_49, i3n_100, i3n_400, i3n_450, l6n_0, l6n_1, am_kf_s, am_km_s, am_kn_s, am_k_v, am_k_0, am_isr_r, am_isr_n, am_isr_v, am_sw_0, am_sw_i, am_sw_l, am_sw_r, am_sw_n, am_sw_v, am_ct_i, am_ct_r, am_ct_n, am_c1_o, am_c1_n, am_c1_i, am_c1_r, am_c1_v, am_mk_1, lc_lt, lc_gt, lc_eq, lc_le, lc_ge, i01_eq, i01_ok, ite_not, true_or, or_true, true_and, and_true, false_or, or_false, false_and, and_false, if_true, if_false, not_true_eq_false, not_false_eq_true, eq_self, Nat.reduceAdd, Nat.reduceLeDiff, Nat.reduceLT, Nat.reduceEqDiff, Nat.reduceMul, Nat.reduceSub, Nat.reduceDiv, Nat.reduceMod, reduceCtorEq, Nat.zero_le, i3_le, i3_lt, i3_eq, i3_eqN, i3_leN, i3_Nle, i3_ltN, i3_NleN, i3_NeqN, i3_Neq, i3_NltN, i3_Nlt, l6_le, l6_lt, l6_eq, l6_leN, l6_Nle, l6_ltN, l6_Nlt, l6_eqN, l6_Neq, hk, kc, b1, b2, e1, e2, e3, k7, i3_add, ↓reduceIte]
end
