/-! the class's constructor -/
section
variable {x n o : Nat} {Z : ly_Z} {C : Nat → Nat → Int32} {L : Nat → Nat → Int64} {R : Nat → Nat → Option Nat} {f : Nat → am_C} {F : Nat → Option am_C} {e : am_C}
theorem bl_at {D : am_M} (hZ : ∀ q, x + 23 ≤ q → Z.1 q = none) {q : Nat} (hq : x + 23 ≤ q) : (am_mk x false Z C L R D).2 q = D.2 q := by
  show ly_at x false Z C L R D q = D.2 q
  unfold ly_at
  rw [if_neg (fun e => by
    have := e.2
    simp only [ly_st, Bool.false_and, Bool.or_false, decide_eq_true_eq] at this
    omega), hZ q hq]
theorem bl_put {D : am_M} (hZ : ∀ q, x + 23 ≤ q → Z.1 q = none) {q : Nat} (hq : x + 23 ≤ q) : am_set (am_mk x false Z C L R D) q e = am_mk x false Z C L R (am_set D q e) := by
  refine Prod.ext rfl (funext fun a => ?_)
  show (if a = q then some e else ly_at x false Z C L R D a) = ly_at x false Z C L R (am_set D q e) a
  by_cases ha : a = q
  · subst ha
    have h1 := bl_at (C := C) (L := L) (R := R) (D := am_set D a e) hZ hq
    have h2 : (am_set D a e).2 a = some e := if_pos rfl
    rw [if_pos rfl]
    exact (h1.trans h2).symm
  · rw [if_neg ha]
    unfold ly_at
    have h2 : (am_set D q e).2 a = D.2 a := if_neg ha
    rw [h2]
theorem bl_1 : (am_mk x false Z C L R (mwf (x + 23) n f F)).1 = x + 23 + n := rfl
theorem bl_add (hZ : ∀ q, x + 23 ≤ q → Z.1 q = none) : am_add (am_mk x false Z C L R (mwf (x + 23) n f F)) e = am_mk x false Z C L R (mwf (x + 23) (n + 1) (wu f n e) F) := by
  have h1 : am_add (am_mk x false Z C L R (mwf (x + 23) n f F)) e = (x + 23 + n + 1, (am_set (am_mk x false Z C L R (mwf (x + 23) n f F)) (x + 23 + n) e).2) := rfl
  rw [h1, bl_put hZ (by omega), ← mw_add]
  rfl
theorem bl_pf {ci k : Nat} {ty : FieldType} {v : Value} (hZ : ∀ q, x + 23 ≤ q → Z.1 q = none) (h : o < n) : am_pf (am_mk x false Z C L R (mwf (x + 23) n f F)) (x + 23 + o) ci k ty v = match f o with
    | .inr (c, fs) => if c = ci ∧ k < fs.length ∧ am_okf ty v = true then some (am_mk x false Z C L R (mwf (x + 23) n (wu f o (.inr (ci, fs.set k v))) F)) else none
    | _ => none := by
  unfold am_pf
  rw [bl_at hZ (by omega), mw_get h]
  cases f o with
  | inl c => rfl
  | inr c =>
    obtain ⟨c, fs⟩ := c
    simp only [bl_put hZ (show x + 23 ≤ x + 23 + o by omega), mw_set h]
theorem bl_cls (hZ : ∀ q, x + 23 ≤ q → Z.1 q = none) (h : o < n) : am_cls (am_mk x false Z C L R (mwf (x + 23) n f F)) (x + 23 + o) = match f o with
    | .inr (c, _) => some c
    | _ => none := by
  unfold am_cls
  rw [bl_at hZ (by omega), mw_get h]
  cases f o <;> rfl
end
theorem ok_4_2 {a : Nat} : am_okf (am_fty 4 2) (.ref a) = true := rfl
section
variable {G : Nat → Value} {x : Nat} {F : Nat → Option am_C} {f : Nat → am_C}
theorem x_H_init (hS : tp_S G x st_Z (x + 19, F)) : ∃ (Z : ly_Z) (C : Nat → Nat → Int32) (L : Nat → Nat → Int64) (R : Nat → Nat → Option Nat) (F' : Nat → Option am_C) (f8 : Nat → am_C) (q : Nat), am_ex G 100 K_H_init [.ref x] (mwf x 1 (wu f 0 (.inr (9, [.null, .null, .null, .null, .null, .int (Int32.ofNat 0), .int (Int32.ofNat 0), .int (Int32.ofNat 0), .int (Int32.ofNat 0), .null, .int (Int32.ofNat 0), .null, .null, .null, .null, .int (Int32.ofNat 0), .int (Int32.ofNat 0), .int (Int32.ofNat 0)]))) F) = some (none, am_mk x false Z C L R (mwf (x + 23) 8 f8 F')) ∧ tp_Z x Z (x + 23, F') ∧ (∀ a, a < x → F' a = F a) ∧ tx_ok x false Z C R q 0 t0l t0e ∧ R 4 0 = some q ∧ (∀ s, s < 4 → R 5 s = some (x + (23 + 2 * s))) ∧ C 7 1 = Int32.ofNat 0 ∧ (∀ j, C 6 j = st_C 6 j) ∧ (∀ j, C 0 j = if j = 8 then Int32.ofNat 1 else st_C 0 j) ∧ (∀ s, s < 4 → f8 (2 * s) = .inr (4, [.int (-Int32.ofNat 1), .int (Int32.ofNat 0), .ref (x + (24 + 2 * s))]) ∧ f8 (2 * s + 1) = .inl (0, 40, .inl (fun _ => Int32.ofNat 0))) := by
  obtain ⟨C1, w1, w2, w3, w4⟩ := l_H_init (G := G) (x := x) (d := 95) (Z := st_Z) (L := st_L) (R := st_R) (D := (x + 19, F)) hS 33 0 st_C rfl (Nat.zero_le _) rfl (fun j hj => absurd hj (Nat.not_lt_zero _))
  have hB : tp_B (fun j => t0A.getD j 0) 33 C1 := ⟨w2, by decide, fun j hj => by have := (t0A_by j hj).2; show t0A.getD j 0 < 256; omega, w3⟩
  have hZ0 : tp_Z x st_Z (x + 19, F) := ⟨Nat.le_add_right _ _, fun _ _ => rfl, fun _ _ => rfl⟩
  obtain ⟨Z, C2, L2, R2, D2, v, r1, r2, r3, r4, r5, r6⟩ := x_Ta_read (G := G) (x := x) (bb := false) (d := 53) (t := 0) (Z := st_Z) (C := C1) (L := st_L) (R := st_R) (D := (x + 19, F)) (by omega) hS hZ0 (Or.inl ⟨rfl, Nat.le_refl _⟩) hB
  rw [t0A_text] at r6
  obtain ⟨q, rfl, hq⟩ := r6
  -- where the four new cells lie
  have hD23 : D2.1 = x + 23 := by
    obtain ⟨a1, a2, a3, k1, k2, k3, k4, -⟩ := hq
    have low : ∀ a t k, ly_is x false Z a t k → x + 19 ≤ a ∧ a < D2.1 ∧ Z.1 a = some t := by
      intro a t k hk
      obtain ⟨⟨g1, g2, g3⟩, g4, g5⟩ := hk
      rw [g4] at g1 g2
      refine ⟨?_, ?_, g2⟩
      · by_cases hxa : a < x
        · rw [r3.2.1 a hxa] at g2; cases g2
        · by_cases h19 : x + 19 ≤ a
          · exact h19
          · refine absurd ⟨by omega, ?_⟩ g1
            unfold ly_st
            rw [decide_eq_true (show a - x < 19 by omega)]
            rfl
      · by_cases hlt : a < D2.1
        · exact hlt
        · rw [r3.2.2 a (by omega)] at g2; cases g2
    obtain ⟨x1, y1, z1⟩ := low _ _ _ k1
    obtain ⟨x2, y2, z2⟩ := low _ _ _ k2
    obtain ⟨x3, y3, z3⟩ := low _ _ _ k3
    obtain ⟨x4, y4, z4⟩ := low _ _ _ k4
    have n12 : ¬ @Eq Nat q a1 := fun e => by rw [e, z2] at z1; cases z1
    have n13 : ¬ @Eq Nat q a2 := fun e => by rw [e, z3] at z1; cases z1
    have n14 : ¬ @Eq Nat q a3 := fun e => by rw [e, z4] at z1; cases z1
    have n23 : ¬ @Eq Nat a1 a2 := fun e => by rw [e, z3] at z2; cases z2
    have n24 : ¬ @Eq Nat a1 a3 := fun e => by rw [e, z4] at z2; cases z2
    have n34 : ¬ @Eq Nat a2 a3 := fun e => by rw [e, z4] at z3; cases z3
    have r4 : D2.1 ≤ x + 19 + 4 := r4
    omega
  have hDe : D2 = mwf (x + 23) 0 f D2.2 := by rw [← hD23, mw_0]
  have hZ23 : ∀ a, x + 23 ≤ a → Z.1 a = none := fun a ha => r3.2.2 a (by omega)
  have hq7 := hq
  obtain ⟨a1, a2, a3, k1, -⟩ := hq7
  have kq := ly_dk7 (C := C2) (L := L2) (R := R2) (D := D2) k1
  have cc : ∀ a j, ¬ (a = 7 ∨ a = 9 ∨ a = 0 + 7000 ∨ a = 0 + 8000 ∨ a = 0 + 9000 ∨ a = 0 + 10000) → ¬ (a = 8 ∨ a = 7 ∧ j = 1) → C2 a j = st_C a j := fun a j q1 q2 => by rw [(r2.1 a q1).1, w4 a j q2]
  have ec0 : ∀ j, C2 0 j = st_C 0 j := fun j => cc 0 j (by omega) (by omega)
  have step : ∃ f8 : Nat → am_C, am_run G 99 K_H_init (149, [some (.ref x), some (.int (Int32.ofNat 33))], [], am_mk x false st_Z C1 st_L st_R (x + 19, F)) = some (none, am_mk x false Z (ux C2 0 8 (Int32.ofNat 1)) L2 (ux (ux (ux (ux (ux R2 4 0 (some q)) 5 0 (some (x + 23 + 0))) 5 1 (some (x + 23 + 2))) 5 2 (some (x + 23 + 4))) 5 3 (some (x + 23 + 6))) (mwf (x + 23) 8 f8 D2.2)) ∧ (∀ s, s < 4 → f8 (2 * s) = .inr (4, [.int (-Int32.ofNat 1), .int (Int32.ofNat 0), .ref (x + (24 + 2 * s))]) ∧ f8 (2 * s + 1) = .inl (0, 40, .inl (fun _ => Int32.ofNat 0))) := by
    rw [hDe] at r1 kq
    simp only [r_H_init_149, r_H_init_150, r_H_init_153, r_H_init_154, r_H_init_155, r_H_init_158, r_H_init_161, r_H_init_162, r_H_init_163, r_H_init_164, r_H_init_167, r_H_init_168, r_H_init_168_k, ly_g0_0, ly_n1, ly_r1, ly_w1, ly_g0_1, ly_n2, ly_r2, ly_w2, ly_g0_2, ly_n3, ly_r3, ly_w3, ly_g0_3, ly_n4, ly_r4, ly_w4, ly_g0_4, ly_n5, ly_r5, ly_w5, ly_g0_9, ly_n6, ly_r6, ly_w6, ly_g0_11, ly_k7, ly_g0_12, ly_k10, ly_g0_13, ly_n17, ly_r17, ly_w17, ly_g0_14, ly_n18, ly_r18, ly_w18, ly_g0_17, ly_p0_17, ly_g0_8, ly_p0_8, i3n_0, i3n_1, i3n_2, i3n_3, i3n_4, i3n_6, i3n_8, i3n_30, i3n_40, i3n_49, i3n_100, i3n_400, i3n_450, l6n_0, l6n_1, am_kf_s, am_km_s, am_kn_s, am_k_v, am_k_0, am_isr_r, am_isr_n, am_isr_v, am_sw_0, am_sw_i, am_sw_l, am_sw_r, am_sw_n, am_sw_v, am_ct_i, am_ct_r, am_ct_n, am_c1_o, am_c1_n, am_c1_i, am_c1_r, am_c1_v, am_mk_1, lc_lt, lc_gt, lc_eq, lc_le, lc_ge, i01_eq, i01_ok, ite_not, true_or, or_true, true_and, and_true, false_or, or_false, false_and, and_false, if_true, if_false, not_true_eq_false, not_false_eq_true, eq_self, Nat.reduceAdd, Nat.reduceLeDiff, Nat.reduceLT, Nat.reduceEqDiff, Nat.reduceMul, Nat.reduceSub, Nat.reduceDiv, Nat.reduceMod, reduceCtorEq, Nat.zero_le, i3_le, i3_lt, i3_eq, i3_eqN, i3_leN, i3_Nle, i3_ltN, i3_NleN, i3_NeqN, i3_Neq, i3_NltN, i3_Nlt, l6_le, l6_lt, l6_eq, l6_leN, l6_Nle, l6_ltN, l6_Nlt, l6_eqN, l6_Neq, r1, kq, ↓reduceIte]
    simp only [r_H_init_169, r_H_init_170, r_H_init_171, r_H_init_174, r_H_init_175, r_H_init_178, r_H_init_179, r_H_init_182, r_H_init_183, r_H_init_186, r_H_init_187, r_H_init_190, r_H_init_191, r_H_init_191_k, r_H_init_194, r_H_init_197, ly_g0_0, ly_n1, ly_r1, ly_w1, ly_g0_1, ly_n2, ly_r2, ly_w2, ly_g0_2, ly_n3, ly_r3, ly_w3, ly_g0_3, ly_n4, ly_r4, ly_w4, ly_g0_4, ly_n5, ly_r5, ly_w5, ly_g0_9, ly_n6, ly_r6, ly_w6, ly_g0_11, ly_k7, ly_g0_12, ly_k10, ly_g0_13, ly_n17, ly_r17, ly_w17, ly_g0_14, ly_n18, ly_r18, ly_w18, ly_g0_17, ly_p0_17, ly_g0_8, ly_p0_8, i3n_0, i3n_1, i3n_2, i3n_3, i3n_4, i3n_6, i3n_8, i3n_30, i3n_40, i3n_49, i3n_100, i3n_400, i3n_450, l6n_0, l6n_1, e_Sh_init, r_Sh_init_0, r_Sh_init_1, r_Sh_init_4, r_Sh_init_5, r_Sh_init_6, r_Sh_init_9, r_Sh_init_10, r_Sh_init_12, r_Sh_init_14, r_Sh_init_17, ly_g23_0, ly_p23_0, ly_g25_0, ly_p25_0, ly_g27_0, ly_p27_0, ly_g29_0, ly_p29_0, ly_g23_2, ly_n24, ly_r24, ly_w24, ly_g25_2, ly_n26, ly_r26, ly_w26, ly_g27_2, ly_n28, ly_r28, ly_w28, ly_g29_2, ly_n30, ly_r30, ly_w30, i3n_0, i3n_1, i3n_40, l6n_0, l6n_1, am_kf_s, am_km_s, am_kn_s, am_k_v, am_k_0, am_isr_r, am_isr_n, am_isr_v, am_sw_0, am_sw_i, am_sw_l, am_sw_r, am_sw_n, am_sw_v, am_ct_i, am_ct_r, am_ct_n, am_c1_o, am_c1_n, am_c1_i, am_c1_r, am_c1_v, am_mk_1, lc_lt, lc_gt, lc_eq, lc_le, lc_ge, i01_eq, i01_ok, ite_not, true_or, or_true, true_and, and_true, false_or, or_false, false_and, and_false, if_true, if_false, not_true_eq_false, not_false_eq_true, eq_self, Nat.reduceAdd, Nat.reduceLeDiff, Nat.reduceLT, Nat.reduceEqDiff, Nat.reduceMul, Nat.reduceSub, Nat.reduceDiv, Nat.reduceMod, reduceCtorEq, Nat.zero_le, i3_le, i3_lt, i3_eq, i3_eqN, i3_leN, i3_Nle, i3_ltN, i3_NleN, i3_NeqN, i3_Neq, i3_NltN, i3_Nlt, l6_le, l6_lt, l6_eq, l6_leN, l6_Nle, l6_ltN, l6_Nlt, l6_eqN, l6_Neq, ux_eq, wu_eq, mw_1, bl_1, bl_add hZ23, bl_pf hZ23, bl_cls hZ23, mw_newa, ok_int, ok_4_2, List.length_set, List.length_cons, List.length_nil, i3_add, and_self, ↓reduceIte]
    refine ⟨_, rfl, fun s hs => ?_⟩
    have ss : s = 0 ∨ s = 1 ∨ s = 2 ∨ s = 3 := by omega
    rcases ss with rfl | rfl | rfl | rfl <;> exact ⟨rfl, rfl⟩
  obtain ⟨f8, st1, st2⟩ := step
  refine ⟨Z, ux C2 0 8 (Int32.ofNat 1), L2, ux (ux (ux (ux (ux R2 4 0 (some q)) 5 0 (some (x + 23 + 0))) 5 1 (some (x + 23 + 2))) 5 2 (some (x + 23 + 4))) 5 3 (some (x + 23 + 6)), D2.2, f8, q, ?_, ?_, ?_, ?_, ?_, ?_, ?_, ?_, ?_, st2⟩
  rotate_left
  · exact ⟨by show x ≤ x + 23; omega, r3.2.1, fun a ha => hZ23 a ha⟩
  · exact fun a ha => r2.2.2.2 a ha
  · refine tx_ok_keep hq (fun _ _ _ _ h => h) (fun j => ⟨by rw [ux_ne (by omega)], by rw [ux_ne (by omega)]⟩) (fun u j hu => by rw [ux_ne (by omega), ux_ne (by omega), ux_ne (by omega), ux_ne (by omega), ux_ne (by omega)])
  · rw [ux_ne (by omega), ux_ne (by omega), ux_ne (by omega), ux_ne (by omega), ux_at]
  · intro s hs
    have ss : s = 0 ∨ s = 1 ∨ s = 2 ∨ s = 3 := by omega
    rcases ss with rfl | rfl | rfl | rfl
    · rw [ux_ne (by omega), ux_ne (by omega), ux_ne (by omega), ux_at]
    · rw [ux_ne (by omega), ux_ne (by omega), ux_at]
    · rw [ux_ne (by omega), ux_at]
    · rw [ux_at]
  · rw [ux_ne (by omega)]; exact r5
  · intro j
    rw [ux_ne (by omega)]
    exact cc 6 j (by omega) (by omega)
  · intro j
    by_cases h8 : j = 8
    · subst h8; rw [ux_at, if_pos rfl]
    · rw [ux_ne (by omega), if_neg h8]; exact ec0 j
  · rw [e_H_init, H_init1, w1]
    exact st1
end
