/-! the NIGHTS that aren't LEFT OUT -/
def spk (N : Nat → Nat → Nat) (hl : Option Nat) (i : Nat) : Bool := decide (ve N i = Int32.ofNat 0) && (match hl with
  | none => true
  | some h => decide (N 44 i = h))
def spl (N : Nat → Nat → Nat) (hl : Option Nat) (n : Nat) : List Nat := (List.range n).filter (spk N hl)
theorem spl_0 {N : Nat → Nat → Nat} {hl : Option Nat} : spl N hl 0 = [] := rfl
theorem spl_s {N : Nat → Nat → Nat} {hl : Option Nat} {n : Nat} : spl N hl (n + 1) = if spk N hl n = true then spl N hl n ++ [n] else spl N hl n := by
  rw [spl, List.range_succ, List.filter_append]
  by_cases h : spk N hl n = true
  · rw [if_pos h]; simp [spl, h]
  · rw [if_neg h]; simp [spl, h]
theorem spl_len {N : Nat → Nat → Nat} {hl : Option Nat} {n : Nat} : (spl N hl n).length ≤ n := by
  have := List.length_filter_le (spk N hl) (List.range n)
  rw [List.length_range] at this
  exact this
theorem spl_mem {N : Nat → Nat → Nat} {hl : Option Nat} {n k i : Nat} (h : (spl N hl n)[k]? = some i) : i < n ∧ spk N hl i = true := by
  have h2 := List.mem_filter.mp (List.mem_of_getElem? h)
  exact ⟨List.mem_range.mp h2.1, h2.2⟩
def sp_r (N : Nat → Nat → Nat) (Z : ly_Z) (C : Nat → Nat → Int32) (L : Nat → Nat → Int64) (R : Nat → Nat → Option Nat) (k i : Nat) : Prop := R 11 k = some (Z.2 (i + 6000)) ∧ C 12 k = Int32.ofNat i ∧ L 13 k = Int64.ofNat (N 37 (N 44 i) * 100) ∧ L 14 k = Int64.ofNat (mE N (N 44 i) (N 45 i)) ∧ L 16 k = Int64.ofNat (N 47 i) - Int64.ofNat (mL N i)
def sp_ok (N : Nat → Nat → Nat) (Z : ly_Z) (C : Nat → Nat → Int32) (L : Nat → Nat → Int64) (R : Nat → Nat → Option Nat) (l : List Nat) : Prop := C 10 0 = Int32.ofNat l.length ∧ ∀ k i, l[k]? = some i → sp_r N Z C L R k i
theorem sp_ok_fr {N : Nat → Nat → Nat} {Z : ly_Z} {C C' : Nat → Nat → Int32} {L : Nat → Nat → Int64} {R : Nat → Nat → Option Nat} {l : List Nat} (h : sp_ok N Z C L R l) (f : ∀ k j, ¬ (10000 ≤ k ∧ k < 11000) → C' k j = C k j) : sp_ok N Z C' L R l := by
  refine ⟨by rw [f _ _ (by omega)]; exact h.1, fun k i hk => ?_⟩
  obtain ⟨a1, a2, a3, a4, a5⟩ := h.2 k i hk
  exact ⟨a1, by rw [f _ _ (by omega)]; exact a2, a3, a4, a5⟩
theorem i3_subL {a b : Nat} (ha : a < 2147483648) (hb : b < 2147483648) : (Int32.ofNat a - Int32.ofNat b).toInt64 = Int64.ofNat a - Int64.ofNat b := by
  apply Int64.toInt_inj.mp
  rw [Int32.toInt_toInt64, Int32.toInt_sub, Int64.toInt_sub, Int32.toInt_ofNat_of_lt ha, Int32.toInt_ofNat_of_lt hb, Int64.toInt_ofNat_of_lt (by omega), Int64.toInt_ofNat_of_lt (by omega)]
  simp only [Int.bmod_def]
  omega
section
variable {G : Nat → Value} {x : Nat} {N : Nat → Nat → Nat} {Z : ly_Z} {D : am_M}
theorem x_Sp_hear {C : Nat → Nat → Int32} {L : Nat → Nat → Int64} {R : Nat → Nat → Option Nat} (h : rl G N x Z C R D) {d i k e : Nat} (hi : i < N 31 27) (hk : k < 40) (hc : C 10 0 = Int32.ofNat k) : am_ex G (d + 2) K_Sp_hear [.ref (x + 10), .ref (Z.2 (i + 6000)), .int (Int32.ofNat i), .long (Int64.ofNat e), .int (Int32.ofNat (mL N i))] (am_mk x true Z C L R D) = some (none, am_mk x true Z (ux (ux C 12 k (Int32.ofNat i)) 10 0 (Int32.ofNat (k + 1))) (ux (ux (ux L 13 k (Int64.ofNat (N 37 (N 44 i) * 100))) 14 k (Int64.ofNat e)) 16 k (Int64.ofNat (N 47 i) - Int64.ofNat (mL N i))) (ux R 11 k (some (Z.2 (i + 6000)))) D) := by
  obtain ⟨-, n2, r1, -, a5, -, -, a8, -⟩ := h.2.2.2.1 i hi
  have p1 := ly_w11 (x := x) (b := true) (Z := Z) (C := C) (L := L) (R := R) (D := D) (v := Z.2 (i + 6000)) hk (ly_dk6 n2)
  have e1 : ux R 11 k (some (Z.2 (i + 6000))) (i + 6000) 1 = some (Z.2 (N 44 i + 2000)) := by rw [ux_ne (by omega)]; exact r1
  have e5 : ux C 12 k (Int32.ofNat i) (i + 6000) 5 = Int32.ofNat (N 47 i) := by rw [ux_ne (by omega)]; exact a8.1
  have er : ∀ (L' : Nat → Nat → Int64), am_ex G (d + 1) K_Ha_room [.ref (Z.2 (N 44 i + 2000))] (am_mk x true Z (ux C 12 k (Int32.ofNat i)) L' (ux R 11 k (some (Z.2 (i + 6000)))) D) = some (some (.long (Int64.ofNat (N 37 (N 44 i) * 100))), am_mk x true Z (ux C 12 k (Int32.ofNat i)) L' (ux R 11 k (some (Z.2 (i + 6000)))) D) := fun L' => x_Ha_room (rl_keep h (fun a b q => by rw [ux_ne (fun q2 => q (by unfold rl_scr; omega))]) (fun a b q => by rw [ux_ne (by omega)])) a5.2.2
  have k2 := fun (L' : Nat → Nat → Int64) => ly_dk2 (C := ux C 12 k (Int32.ofNat i)) (L := L') (R := ux R 11 k (some (Z.2 (i + 6000)))) (D := D) (h.2.2.1 _ a5.2.2).2.1
  have G1 : ∀ (L' : Nat → Nat → Int64), am_fld (am_mk x true Z (ux C 12 k (Int32.ofNat i)) L' (ux R 11 k (some (Z.2 (i + 6000)))) D) (Z.2 (i + 6000)) 3 1 = some (.ref (Z.2 (N 44 i + 2000))) := fun L' => (ly_dg6_1 n2).trans (by rw [e1, va_rf_s])
  have G5 : ∀ (L' : Nat → Nat → Int64), am_fld (am_mk x true Z (ux C 12 k (Int32.ofNat i)) L' (ux R 11 k (some (Z.2 (i + 6000)))) D) (Z.2 (i + 6000)) 3 5 = some (.int (Int32.ofNat (N 47 i))) := fun L' => (ly_dg6_5 n2).trans (by rw [e5])
  have b1 : k < 2147483648 := by omega
  have b2 : ¬ 40 ≤ k := by omega
  have b3 : N 47 i < 2147483648 := by omega
  have b4 : mL N i < 2147483648 := by have := mL_le (N := N) (i := i); omega
  have s1 : (Int32.ofNat (N 47 i) - Int32.ofNat (mL N i)).toInt64 = Int64.ofNat (N 47 i) - Int64.ofNat (mL N i) := i3_subL b3 b4
  simp only [e_Sp_hear, r_Sp_hear_0, r_Sp_hear_1, r_Sp_hear_4, r_Sp_hear_5, r_Sp_hear_8, r_Sp_hear_9, r_Sp_hear_12, r_Sp_hear_13, r_Sp_hear_14, r_Sp_hear_17, r_Sp_hear_18, r_Sp_hear_21, r_Sp_hear_22, r_Sp_hear_23, r_Sp_hear_24, r_Sp_hear_27, r_Sp_hear_28, r_Sp_hear_31, r_Sp_hear_32, r_Sp_hear_33, r_Sp_hear_34, r_Sp_hear_37, r_Sp_hear_38, r_Sp_hear_41, r_Sp_hear_42, r_Sp_hear_45, r_Sp_hear_48, r_Sp_hear_49, r_Sp_hear_50, r_Sp_hear_53, r_Sp_hear_54, r_Sp_hear_57, r_Sp_hear_58, r_Sp_hear_59, r_Sp_hear_60, r_Sp_hear_63, r_Sp_hear_64, r_Sp_hear_67, r_Sp_hear_68, r_Sp_hear_71, r_Sp_hear_73, r_Sp_hear_74, r_Sp_hear_75, r_Sp_hear_76, r_Sp_hear_77, r_Sp_hear_78, r_Sp_hear_81, r_Sp_hear_82, r_Sp_hear_83, r_Sp_hear_86, ly_g10_0, ly_g10_1, ly_n11, ly_r11, ly_w11, ly_g10_2, ly_n12, ly_r12, ly_w12, ly_g10_3, ly_n13, ly_r13, ly_w13, ly_g10_4, ly_n14, ly_r14, ly_w14, ly_g10_6, ly_n16, ly_r16, ly_w16, ly_p10_0, i3n_0, i3n_1, l6n_0, l6n_1, am_kf_s, am_km_s, am_kn_s, am_k_v, am_k_0, am_isr_r, am_isr_n, am_isr_v, am_sw_0, am_sw_i, am_sw_l, am_sw_r, am_sw_n, am_sw_v, am_ct_i, am_ct_r, am_ct_n, am_c1_o, am_c1_n, am_c1_i, am_c1_r, am_c1_v, am_mk_1, lc_lt, lc_gt, lc_eq, lc_le, lc_ge, i01_eq, i01_ok, ite_not, true_or, or_true, true_and, and_true, false_or, or_false, false_and, and_false, if_true, if_false, not_true_eq_false, not_false_eq_true, eq_self, Nat.reduceAdd, Nat.reduceLeDiff, Nat.reduceLT, Nat.reduceEqDiff, Nat.reduceMul, Nat.reduceSub, Nat.reduceDiv, Nat.reduceMod, reduceCtorEq, Nat.zero_le, i3_le, i3_lt, i3_eq, i3_eqN, i3_leN, i3_Nle, i3_ltN, i3_NleN, i3_NeqN, i3_Neq, i3_NltN, i3_Nlt, l6_le, l6_lt, l6_eq, l6_leN, l6_Nle, l6_ltN, l6_Nlt, l6_eqN, l6_Neq, ux_eq, hc, hk, b1, b2, p1, G1, G5, er, k2, s1, i3_add, ↓reduceIte]
theorem rl_hear {C : Nat → Nat → Int32} {L : Nat → Nat → Int64} {R : Nat → Nat → Option Nat} (h : rl G N x Z C R D) {i k : Nat} {v w : Int32} {o : Option Nat} : rl G N x Z (ux (ux C 12 k v) 10 0 w) (ux R 11 k o) D := rl_keep h (fun a b q => by rw [ux_ne (fun q2 => q (by unfold rl_scr; omega)), ux_ne (fun q2 => q (by unfold rl_scr; omega))]) (fun a b q => by rw [ux_ne (by omega)])
theorem sp_hear {C : Nat → Nat → Int32} {L : Nat → Nat → Int64} {R : Nat → Nat → Option Nat} {l : List Nat} {i : Nat} (h : sp_ok N Z C L R l) : sp_ok N Z (ux (ux C 12 l.length (Int32.ofNat i)) 10 0 (Int32.ofNat (l.length + 1))) (ux (ux (ux L 13 l.length (Int64.ofNat (N 37 (N 44 i) * 100))) 14 l.length (Int64.ofNat (mE N (N 44 i) (N 45 i)))) 16 l.length (Int64.ofNat (N 47 i) - Int64.ofNat (mL N i))) (ux R 11 l.length (some (Z.2 (i + 6000)))) (l ++ [i]) := by
  refine ⟨by rw [ux_at, List.length_append]; rfl, fun k j hk => ?_⟩
  by_cases hkl : k < l.length
  · rw [List.getElem?_append_left hkl] at hk
    obtain ⟨a1, a2, a3, a4, a5⟩ := h.2 k j hk
    refine ⟨?_, ?_, ?_, ?_, ?_⟩
    · rw [ux_ne (by omega)]; exact a1
    · rw [ux_ne (by omega), ux_ne (by omega)]; exact a2
    · rw [ux_ne (by omega), ux_ne (by omega), ux_ne (by omega)]; exact a3
    · rw [ux_ne (by omega), ux_ne (by omega), ux_ne (by omega)]; exact a4
    · rw [ux_ne (by omega), ux_ne (by omega), ux_ne (by omega)]; exact a5
  · have hlt := (List.getElem?_eq_some_iff.mp hk).1
    rw [List.length_append] at hlt
    have hlt : k < l.length + 1 := hlt
    have hkl : k = l.length := by omega
    subst hkl
    have hj : j = i := by
      rw [List.getElem?_append_right (Nat.le_refl _), Nat.sub_self] at hk
      exact (Option.some.inj hk).symm
    subst hj
    refine ⟨?_, ?_, ?_, ?_, ?_⟩
    · rw [ux_at]
    · rw [ux_ne (by omega), ux_at]
    · rw [ux_ne (by omega), ux_ne (by omega), ux_at]
    · rw [ux_ne (by omega), ux_at]
    · rw [ux_at]
theorem l_H_gather {d : Nat} {hl : Option Nat} {a : Int32} (ha : (hl = none ∧ a = -Int32.ofNat 1) ∨ ∃ i, hl = some i ∧ i < 6 ∧ a = Int32.ofNat i) : ∀ (r j : Nat) (C : Nat → Nat → Int32) (L : Nat → Nat → Int64) (R : Nat → Nat → Option Nat) (l3 : Option Value), N 31 27 - j = r → j ≤ N 31 27 → am_c1 l3 = true → rl G N x Z C R D → sp_ok N Z C L R (spl N hl j) → ∃ C' L' R', am_run G (d + 4) K_H_gatherSpeakers (10, [some (.ref x), some (.int a), some (.int (Int32.ofNat j)), l3], [], am_mk x true Z C L R D) = some (none, am_mk x true Z C' L' R' D) ∧ rl G N x Z C' R' D ∧ sp_ok N Z C' L' R' (spl N hl (N 31 27)) := by
  intro r
  induction r with
  | zero =>
    intro j C L R l3 hr hj hl3 h hs
    have e : j = N 31 27 := by omega
    subst e
    have h27 := h.1.2.2.1
    have b1 : N 31 27 < 2147483648 := by omega
    refine ⟨C, L, R, ?_, h, hs⟩
    rw [r_H_gatherSpeakers_10]
    simp only [r_H_gatherSpeakers_11, r_H_gatherSpeakers_12, r_H_gatherSpeakers_15, r_H_gatherSpeakers_18, r_H_gatherSpeakers_19, r_H_gatherSpeakers_20, r_H_gatherSpeakers_23, r_H_gatherSpeakers_23_k, r_H_gatherSpeakers_24, r_H_gatherSpeakers_25, r_H_gatherSpeakers_28, r_H_gatherSpeakers_29, r_H_gatherSpeakers_30, r_H_gatherSpeakers_33, r_H_gatherSpeakers_34, r_H_gatherSpeakers_37, r_H_gatherSpeakers_38, r_H_gatherSpeakers_41, r_H_gatherSpeakers_42, r_H_gatherSpeakers_43, r_H_gatherSpeakers_46, r_H_gatherSpeakers_49, r_H_gatherSpeakers_50, r_H_gatherSpeakers_53, r_H_gatherSpeakers_54, r_H_gatherSpeakers_55, r_H_gatherSpeakers_56, r_H_gatherSpeakers_57, r_H_gatherSpeakers_60, r_H_gatherSpeakers_61, r_H_gatherSpeakers_64, r_H_gatherSpeakers_67, r_H_gatherSpeakers_68, r_H_gatherSpeakers_69, r_H_gatherSpeakers_72, r_H_gatherSpeakers_75, r_H_gatherSpeakers_75_k, r_H_gatherSpeakers_78, r_H_gatherSpeakers_81, ly_g0_12, ly_k10, ly_g10_0, ly_p10_0, ly_g0_7, ly_k0, i3n_0, i3n_1, l6n_0, l6n_1, am_kf_s, am_km_s, am_kn_s, am_k_v, am_k_0, am_isr_r, am_isr_n, am_isr_v, am_sw_0, am_sw_i, am_sw_l, am_sw_r, am_sw_n, am_sw_v, am_ct_i, am_ct_r, am_ct_n, am_c1_o, am_c1_n, am_c1_i, am_c1_r, am_c1_v, am_mk_1, lc_lt, lc_gt, lc_eq, lc_le, lc_ge, i01_eq, i01_ok, ite_not, true_or, or_true, true_and, and_true, false_or, or_false, false_and, and_false, if_true, if_false, not_true_eq_false, not_false_eq_true, eq_self, Nat.reduceAdd, Nat.reduceLeDiff, Nat.reduceLT, Nat.reduceEqDiff, Nat.reduceMul, Nat.reduceSub, Nat.reduceDiv, Nat.reduceMod, reduceCtorEq, Nat.zero_le, i3_le, i3_lt, i3_eq, i3_eqN, i3_leN, i3_Nle, i3_ltN, i3_NleN, i3_NeqN, i3_Neq, i3_NltN, i3_Nlt, l6_le, l6_lt, l6_eq, l6_leN, l6_Nle, l6_ltN, l6_Nlt, l6_eqN, l6_Neq, h27.1, b1, hl3, Nat.le_refl, ↓reduceIte]
  | succ r ih =>
    intro j C L R l3 hr hj hl3 h hs
    have hjn : j < N 31 27 := by omega
    have h27 := h.1.2.2.1
    have b1 : N 31 27 < 2147483648 := by omega
    have b2 : j < 2147483648 := by omega
    have b3 : ¬ N 31 27 ≤ j := by omega
    have e0 := x_H_nightAt (G := G) (d := d + 3) (L := L) h hjn
    obtain ⟨-, n2, r1, a4, a5, a6, a7, a8, a9⟩ := h.2.2.2.1 j hjn
    have g2 := ly_dg6_2 (C := C) (L := L) (R := R) (D := D) n2
    rw [a5.1] at g2
    have b44 : N 44 j < 2147483648 := by have := a5.2.2; have := h.1.2.1.2.2; omega
    have skip : spk N hl j = false → ∀ C1, rl G N x Z C1 R D → sp_ok N Z C1 L R (spl N hl j) → ∃ C' L' R', am_run G (d + 4) K_H_gatherSpeakers (10, [some (.ref x), some (.int a), some (.int (Int32.ofNat (j + 1))), some (.ref (Z.2 (j + 6000)))], [], am_mk x true Z C1 L R D) = some (none, am_mk x true Z C' L' R' D) ∧ rl G N x Z C' R' D ∧ sp_ok N Z C' L' R' (spl N hl (N 31 27)) := by
      intro hf C1 h1 hs1
      exact ih (j + 1) C1 L R _ (by omega) (by omega) am_c1_r h1 (by rw [spl_s, if_neg (by rw [hf]; decide)]; exact hs1)
    have go : (∀ i, hl = some i → N 44 j = i) → ∃ C' L' R', am_run G (d + 4) K_H_gatherSpeakers (41, [some (.ref x), some (.int a), some (.int (Int32.ofNat j)), some (.ref (Z.2 (j + 6000)))], [], am_mk x true Z C L R D) = some (none, am_mk x true Z C' L' R' D) ∧ rl G N x Z C' R' D ∧ sp_ok N Z C' L' R' (spl N hl (N 31 27)) := by
      intro hmatch
      have k9 := ly_k0 (x := x) (b := true) (Z := Z) (C := C) (L := L) (R := R) (D := D)
      obtain ⟨C1, f1, f2⟩ := x_H_isLeftOut (G := G) (L := L) (d := d) h hjn
      have h1 := rl_p h f2
      have hs1 := sp_ok_fr hs f2
      by_cases hv : ve N j = Int32.ofNat 0
      · obtain ⟨-, n2', r1', a4', a5', a6', -⟩ := h1.2.2.2.1 j hjn
        have g1 := ly_dg6_1 (C := C1) (L := L) (R := R) (D := D) n2'
        rw [r1', va_rf_s] at g1
        have g3 := ly_dg6_3 (C := C1) (L := L) (R := R) (D := D) n2'
        rw [a6'.1] at g3
        have ee := x_H_eatenIn (G := G) (L := L) (d := d + 2) h1 a5'.2.2 (show N 45 j < 3 by omega)
        obtain ⟨C2, q1, q2⟩ := x_H_lateOf (G := G) (L := L) (d := d) h1 hjn
        have h2 := rl_p h1 q2
        have hs2 := sp_ok_fr hs1 q2
        have hlen : (spl N hl j).length < 40 := by have := spl_len (N := N) (hl := hl) (n := j); have := h27.2.2; omega
        have eh := x_Sp_hear (L := L) (d := d + 2) (e := mE N (N 44 j) (N 45 j)) h2 hjn hlen hs2.1
        have hs3 := sp_hear (i := j) hs2
        have h3 := rl_hear (L := L) (i := j) (k := (spl N hl j).length) (v := Int32.ofNat j) (w := Int32.ofNat ((spl N hl j).length + 1)) (o := some (Z.2 (j + 6000))) h2
        have hsp : spk N hl j = true := by
          unfold spk
          rw [decide_eq_true hv, Bool.true_and]
          split
          · rfl
          · next i => exact decide_eq_true (hmatch i rfl)
        obtain ⟨C', L', R', w1, w2, w3⟩ := ih (j + 1) _ _ _ (some (.ref (Z.2 (j + 6000)))) (by omega) (by omega) am_c1_r h3 (by rw [spl_s, if_pos hsp]; exact hs3)
        refine ⟨C', L', R', ?_, w2, w3⟩
        rw [← w1]
        simp only [r_H_gatherSpeakers_41, r_H_gatherSpeakers_42, r_H_gatherSpeakers_43, r_H_gatherSpeakers_46, r_H_gatherSpeakers_49, r_H_gatherSpeakers_50, r_H_gatherSpeakers_53, r_H_gatherSpeakers_54, r_H_gatherSpeakers_55, r_H_gatherSpeakers_56, r_H_gatherSpeakers_57, r_H_gatherSpeakers_60, r_H_gatherSpeakers_61, r_H_gatherSpeakers_64, r_H_gatherSpeakers_67, r_H_gatherSpeakers_68, r_H_gatherSpeakers_69, r_H_gatherSpeakers_72, r_H_gatherSpeakers_75, r_H_gatherSpeakers_75_k, r_H_gatherSpeakers_78, r_H_gatherSpeakers_81, ly_g0_12, ly_k10, ly_g10_0, ly_p10_0, ly_g0_7, ly_k0, i3n_0, i3n_1, l6n_0, l6n_1, am_kf_s, am_km_s, am_kn_s, am_k_v, am_k_0, am_isr_r, am_isr_n, am_isr_v, am_sw_0, am_sw_i, am_sw_l, am_sw_r, am_sw_n, am_sw_v, am_ct_i, am_ct_r, am_ct_n, am_c1_o, am_c1_n, am_c1_i, am_c1_r, am_c1_v, am_mk_1, lc_lt, lc_gt, lc_eq, lc_le, lc_ge, i01_eq, i01_ok, ite_not, true_or, or_true, true_and, and_true, false_or, or_false, false_and, and_false, if_true, if_false, not_true_eq_false, not_false_eq_true, eq_self, Nat.reduceAdd, Nat.reduceLeDiff, Nat.reduceLT, Nat.reduceEqDiff, Nat.reduceMul, Nat.reduceSub, Nat.reduceDiv, Nat.reduceMod, reduceCtorEq, Nat.zero_le, i3_le, i3_lt, i3_eq, i3_eqN, i3_leN, i3_Nle, i3_ltN, i3_NleN, i3_NeqN, i3_Neq, i3_NltN, i3_Nlt, l6_le, l6_lt, l6_eq, l6_leN, l6_Nle, l6_ltN, l6_Nlt, l6_eqN, l6_Neq, f1, hv, g1, g3, ee, q1, eh, i3_add, ↓reduceIte]
      · obtain ⟨C', L', R', w1, w2, w3⟩ := skip (by unfold spk; rw [decide_eq_false hv, Bool.false_and]) C1 h1 hs1
        refine ⟨C', L', R', ?_, w2, w3⟩
        rw [← w1]
        simp only [r_H_gatherSpeakers_41, r_H_gatherSpeakers_42, r_H_gatherSpeakers_43, r_H_gatherSpeakers_46, r_H_gatherSpeakers_49, r_H_gatherSpeakers_50, r_H_gatherSpeakers_53, r_H_gatherSpeakers_54, r_H_gatherSpeakers_55, r_H_gatherSpeakers_56, r_H_gatherSpeakers_57, r_H_gatherSpeakers_60, r_H_gatherSpeakers_61, r_H_gatherSpeakers_64, r_H_gatherSpeakers_67, r_H_gatherSpeakers_68, r_H_gatherSpeakers_69, r_H_gatherSpeakers_72, r_H_gatherSpeakers_75, r_H_gatherSpeakers_75_k, r_H_gatherSpeakers_78, r_H_gatherSpeakers_81, ly_g0_12, ly_k10, ly_g10_0, ly_p10_0, ly_g0_7, ly_k0, i3n_0, i3n_1, l6n_0, l6n_1, am_kf_s, am_km_s, am_kn_s, am_k_v, am_k_0, am_isr_r, am_isr_n, am_isr_v, am_sw_0, am_sw_i, am_sw_l, am_sw_r, am_sw_n, am_sw_v, am_ct_i, am_ct_r, am_ct_n, am_c1_o, am_c1_n, am_c1_i, am_c1_r, am_c1_v, am_mk_1, lc_lt, lc_gt, lc_eq, lc_le, lc_ge, i01_eq, i01_ok, ite_not, true_or, or_true, true_and, and_true, false_or, or_false, false_and, and_false, if_true, if_false, not_true_eq_false, not_false_eq_true, eq_self, Nat.reduceAdd, Nat.reduceLeDiff, Nat.reduceLT, Nat.reduceEqDiff, Nat.reduceMul, Nat.reduceSub, Nat.reduceDiv, Nat.reduceMod, reduceCtorEq, Nat.zero_le, i3_le, i3_lt, i3_eq, i3_eqN, i3_leN, i3_Nle, i3_ltN, i3_NleN, i3_NeqN, i3_Neq, i3_NltN, i3_Nlt, l6_le, l6_lt, l6_eq, l6_leN, l6_Nle, l6_ltN, l6_Nlt, l6_eqN, l6_Neq, f1, hv, i3_add, ↓reduceIte]
    rcases ha with ⟨rfl, rfl⟩ | ⟨i, rfl, hi6, rfl⟩
    · obtain ⟨C', L', R', w1, w2, w3⟩ := go (fun i q => by cases q)
      refine ⟨C', L', R', ?_, w2, w3⟩
      rw [← w1, r_H_gatherSpeakers_10]
      simp only [r_H_gatherSpeakers_11, r_H_gatherSpeakers_12, r_H_gatherSpeakers_15, r_H_gatherSpeakers_18, r_H_gatherSpeakers_19, r_H_gatherSpeakers_20, r_H_gatherSpeakers_23, r_H_gatherSpeakers_23_k, r_H_gatherSpeakers_24, r_H_gatherSpeakers_25, r_H_gatherSpeakers_28, r_H_gatherSpeakers_29, r_H_gatherSpeakers_30, r_H_gatherSpeakers_33, r_H_gatherSpeakers_34, r_H_gatherSpeakers_37, r_H_gatherSpeakers_38, ly_g0_12, ly_k10, ly_g10_0, ly_p10_0, ly_g0_7, ly_k0, i3n_0, i3n_1, l6n_0, l6n_1, am_kf_s, am_km_s, am_kn_s, am_k_v, am_k_0, am_isr_r, am_isr_n, am_isr_v, am_sw_0, am_sw_i, am_sw_l, am_sw_r, am_sw_n, am_sw_v, am_ct_i, am_ct_r, am_ct_n, am_c1_o, am_c1_n, am_c1_i, am_c1_r, am_c1_v, am_mk_1, lc_lt, lc_gt, lc_eq, lc_le, lc_ge, i01_eq, i01_ok, ite_not, true_or, or_true, true_and, and_true, false_or, or_false, false_and, and_false, if_true, if_false, not_true_eq_false, not_false_eq_true, eq_self, Nat.reduceAdd, Nat.reduceLeDiff, Nat.reduceLT, Nat.reduceEqDiff, Nat.reduceMul, Nat.reduceSub, Nat.reduceDiv, Nat.reduceMod, reduceCtorEq, Nat.zero_le, i3_le, i3_lt, i3_eq, i3_eqN, i3_leN, i3_Nle, i3_ltN, i3_NleN, i3_NeqN, i3_Neq, i3_NltN, i3_Nlt, l6_le, l6_lt, l6_eq, l6_leN, l6_Nle, l6_ltN, l6_Nlt, l6_eqN, l6_Neq, h27.1, b1, b2, b3, hl3, e0, ↓reduceIte]
    · have bi : i < 2147483648 := by omega
      by_cases hm : N 44 j = i
      · obtain ⟨C', L', R', w1, w2, w3⟩ := go (fun i' q => by cases q; exact hm)
        refine ⟨C', L', R', ?_, w2, w3⟩
        rw [← w1, r_H_gatherSpeakers_10]
        simp only [r_H_gatherSpeakers_11, r_H_gatherSpeakers_12, r_H_gatherSpeakers_15, r_H_gatherSpeakers_18, r_H_gatherSpeakers_19, r_H_gatherSpeakers_20, r_H_gatherSpeakers_23, r_H_gatherSpeakers_23_k, r_H_gatherSpeakers_24, r_H_gatherSpeakers_25, r_H_gatherSpeakers_28, r_H_gatherSpeakers_29, r_H_gatherSpeakers_30, r_H_gatherSpeakers_33, r_H_gatherSpeakers_34, r_H_gatherSpeakers_37, r_H_gatherSpeakers_38, ly_g0_12, ly_k10, ly_g10_0, ly_p10_0, ly_g0_7, ly_k0, i3n_0, i3n_1, l6n_0, l6n_1, am_kf_s, am_km_s, am_kn_s, am_k_v, am_k_0, am_isr_r, am_isr_n, am_isr_v, am_sw_0, am_sw_i, am_sw_l, am_sw_r, am_sw_n, am_sw_v, am_ct_i, am_ct_r, am_ct_n, am_c1_o, am_c1_n, am_c1_i, am_c1_r, am_c1_v, am_mk_1, lc_lt, lc_gt, lc_eq, lc_le, lc_ge, i01_eq, i01_ok, ite_not, true_or, or_true, true_and, and_true, false_or, or_false, false_and, and_false, if_true, if_false, not_true_eq_false, not_false_eq_true, eq_self, Nat.reduceAdd, Nat.reduceLeDiff, Nat.reduceLT, Nat.reduceEqDiff, Nat.reduceMul, Nat.reduceSub, Nat.reduceDiv, Nat.reduceMod, reduceCtorEq, Nat.zero_le, i3_le, i3_lt, i3_eq, i3_eqN, i3_leN, i3_Nle, i3_ltN, i3_NleN, i3_NeqN, i3_Neq, i3_NltN, i3_Nlt, l6_le, l6_lt, l6_eq, l6_leN, l6_Nle, l6_ltN, l6_Nlt, l6_eqN, l6_Neq, h27.1, b1, b2, b3, hl3, e0, g2, b44, bi, hm, Nat.zero_lt_one, ↓reduceIte]
      · obtain ⟨C', L', R', w1, w2, w3⟩ := skip (by unfold spk; simp only [decide_eq_false hm, Bool.and_false]) C h hs
        refine ⟨C', L', R', ?_, w2, w3⟩
        rw [← w1, r_H_gatherSpeakers_10]
        simp only [r_H_gatherSpeakers_11, r_H_gatherSpeakers_12, r_H_gatherSpeakers_15, r_H_gatherSpeakers_18, r_H_gatherSpeakers_19, r_H_gatherSpeakers_20, r_H_gatherSpeakers_23, r_H_gatherSpeakers_23_k, r_H_gatherSpeakers_24, r_H_gatherSpeakers_25, r_H_gatherSpeakers_28, r_H_gatherSpeakers_29, r_H_gatherSpeakers_30, r_H_gatherSpeakers_33, r_H_gatherSpeakers_34, r_H_gatherSpeakers_37, r_H_gatherSpeakers_38, r_H_gatherSpeakers_75, r_H_gatherSpeakers_75_k, r_H_gatherSpeakers_78, ly_g0_12, ly_k10, ly_g10_0, ly_p10_0, ly_g0_7, ly_k0, i3n_0, i3n_1, l6n_0, l6n_1, am_kf_s, am_km_s, am_kn_s, am_k_v, am_k_0, am_isr_r, am_isr_n, am_isr_v, am_sw_0, am_sw_i, am_sw_l, am_sw_r, am_sw_n, am_sw_v, am_ct_i, am_ct_r, am_ct_n, am_c1_o, am_c1_n, am_c1_i, am_c1_r, am_c1_v, am_mk_1, lc_lt, lc_gt, lc_eq, lc_le, lc_ge, i01_eq, i01_ok, ite_not, true_or, or_true, true_and, and_true, false_or, or_false, false_and, and_false, if_true, if_false, not_true_eq_false, not_false_eq_true, eq_self, Nat.reduceAdd, Nat.reduceLeDiff, Nat.reduceLT, Nat.reduceEqDiff, Nat.reduceMul, Nat.reduceSub, Nat.reduceDiv, Nat.reduceMod, reduceCtorEq, Nat.zero_le, i3_le, i3_lt, i3_eq, i3_eqN, i3_leN, i3_Nle, i3_ltN, i3_NleN, i3_NeqN, i3_Neq, i3_NltN, i3_Nlt, l6_le, l6_lt, l6_eq, l6_leN, l6_Nle, l6_ltN, l6_Nlt, l6_eqN, l6_Neq, h27.1, b1, b2, b3, hl3, e0, g2, b44, bi, hm, i3_add, Nat.zero_lt_one, ↓reduceIte]
theorem x_H_gather {d : Nat} {hl : Option Nat} {a : Int32} {C : Nat → Nat → Int32} {L : Nat → Nat → Int64} {R : Nat → Nat → Option Nat} (h : rl G N x Z C R D) (ha : (hl = none ∧ a = -Int32.ofNat 1) ∨ ∃ i, hl = some i ∧ i < 6 ∧ a = Int32.ofNat i) : ∃ C' L' R', am_ex G (d + 5) K_H_gatherSpeakers [.ref x, .int a] (am_mk x true Z C L R D) = some (none, am_mk x true Z C' L' R' D) ∧ rl G N x Z C' R' D ∧ sp_ok N Z C' L' R' (spl N hl (N 31 27)) := by
  have h1 : rl G N x Z (ux C 10 0 (Int32.ofNat 0)) R D := rl_keep h (fun a b q => by rw [ux_ne (fun q2 => q (by unfold rl_scr; omega))]) (fun _ _ _ => rfl)
  obtain ⟨C', L', R', w1, w2, w3⟩ := l_H_gather (d := d) ha (N 31 27) 0 (ux C 10 0 (Int32.ofNat 0)) L R none rfl (Nat.zero_le _) am_c1_n h1 ⟨by rw [ux_at]; rfl, fun k i hk => by rw [spl_0] at hk; cases hk⟩
  refine ⟨C', L', R', ?_, w2, w3⟩
  rw [← w1]
  simp only [e_H_gatherSpeakers, r_H_gatherSpeakers_0, r_H_gatherSpeakers_1, r_H_gatherSpeakers_4, r_H_gatherSpeakers_5, r_H_gatherSpeakers_8, r_H_gatherSpeakers_9, r_H_gatherSpeakers_9_k, r_H_gatherSpeakers_11, r_H_gatherSpeakers_12, r_H_gatherSpeakers_15, r_H_gatherSpeakers_18, r_H_gatherSpeakers_19, r_H_gatherSpeakers_20, r_H_gatherSpeakers_23, r_H_gatherSpeakers_23_k, r_H_gatherSpeakers_24, r_H_gatherSpeakers_25, r_H_gatherSpeakers_28, r_H_gatherSpeakers_29, r_H_gatherSpeakers_30, r_H_gatherSpeakers_33, r_H_gatherSpeakers_34, r_H_gatherSpeakers_37, r_H_gatherSpeakers_38, r_H_gatherSpeakers_41, r_H_gatherSpeakers_42, r_H_gatherSpeakers_43, r_H_gatherSpeakers_46, r_H_gatherSpeakers_49, r_H_gatherSpeakers_50, r_H_gatherSpeakers_53, r_H_gatherSpeakers_54, r_H_gatherSpeakers_55, r_H_gatherSpeakers_56, r_H_gatherSpeakers_57, r_H_gatherSpeakers_60, r_H_gatherSpeakers_61, r_H_gatherSpeakers_64, r_H_gatherSpeakers_67, r_H_gatherSpeakers_68, r_H_gatherSpeakers_69, r_H_gatherSpeakers_72, r_H_gatherSpeakers_75, r_H_gatherSpeakers_75_k, r_H_gatherSpeakers_78, r_H_gatherSpeakers_81, ly_g0_12, ly_k10, ly_g10_0, ly_p10_0, ly_g0_7, ly_k0, i3n_0, i3n_1, l6n_0, l6n_1, am_kf_s, am_km_s, am_kn_s, am_k_v, am_k_0, am_isr_r, am_isr_n, am_isr_v, am_sw_0, am_sw_i, am_sw_l, am_sw_r, am_sw_n, am_sw_v, am_ct_i, am_ct_r, am_ct_n, am_c1_o, am_c1_n, am_c1_i, am_c1_r, am_c1_v, am_mk_1, lc_lt, lc_gt, lc_eq, lc_le, lc_ge, i01_eq, i01_ok, ite_not, true_or, or_true, true_and, and_true, false_or, or_false, false_and, and_false, if_true, if_false, not_true_eq_false, not_false_eq_true, eq_self, Nat.reduceAdd, Nat.reduceLeDiff, Nat.reduceLT, Nat.reduceEqDiff, Nat.reduceMul, Nat.reduceSub, Nat.reduceDiv, Nat.reduceMod, reduceCtorEq, Nat.zero_le, i3_le, i3_lt, i3_eq, i3_eqN, i3_leN, i3_Nle, i3_ltN, i3_NleN, i3_NeqN, i3_Neq, i3_NltN, i3_Nlt, l6_le, l6_lt, l6_eq, l6_leN, l6_Nle, l6_ltN, l6_Nlt, l6_eqN, l6_Neq, ↓reduceIte]
end
