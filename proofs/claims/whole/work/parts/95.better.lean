/-! better: the line through two -/
def pl (a : Int64) : Int64 := if a < Int64.ofNat 0 then -a else a
theorem pl_abs {a : Int64} : (if Int64.ofNat 0 < a then a else -a) = pl a := by
  unfold pl
  by_cases h : a < Int64.ofNat 0
  · rw [if_pos h, if_neg (fun q => Int64.lt_irrefl (Int64.lt_trans h q))]
  · rw [if_neg h]
    by_cases h2 : Int64.ofNat 0 < a
    · rw [if_pos h2]
    · rw [if_neg h2]
      have e : a = Int64.ofNat 0 := Int64.le_antisymm (Int64.not_lt.mp h2) (Int64.not_lt.mp h)
      subst e
      decide
theorem l6_subne {p q : Nat} (hp : p < 1000000) (hq : q < 1000000) (h : ¬ p = q) : ¬ Int64.ofNat p - Int64.ofNat q = Int64.ofNat 0 := by
  intro e
  have e2 := congrArg Int64.toInt e
  have h0 : (Int64.ofNat 0).toInt = 0 := rfl
  rw [Int64.toInt_sub, Int64.toInt_ofNat_of_lt (by omega), Int64.toInt_ofNat_of_lt (by omega), h0, Int.bmod_def] at e2
  omega
/-- how far the NIGHT i is off the line through a and b -/
def lq (N : Nat → Nat → Nat) (a b i : Nat) : Int64 := pl (Int64.ofNat (N 47 a) + (Int64.ofNat (N 47 b) - Int64.ofNat (N 47 a)) * (Int64.ofNat (N 46 i) - Int64.ofNat (N 46 a)) / (Int64.ofNat (N 46 b) - Int64.ofNat (N 46 a)) - Int64.ofNat (N 47 i))
def ls (N : Nat → Nat → Nat) (a b : Nat) (l : List Nat) : Int64 := l.foldl (fun s i => s + lq N a b i) (Int64.ofNat 0)
theorem ls_app {N : Nat → Nat → Nat} {a b i : Nat} {l : List Nat} : ls N a b (l ++ [i]) = ls N a b l + lq N a b i := by
  unfold ls
  rw [List.foldl_append]
  rfl
theorem ls_take {N : Nat → Nat → Nat} {a b i k : Nat} {l : List Nat} (h : l[k]? = some i) : ls N a b (l.take (k + 1)) = ls N a b (l.take k) + lq N a b i := by
  rw [List.take_add_one, h]
  exact ls_app
/-- one pair, the pairs of one, all pairs -/
def s2 (N : Nat → Nat → Nat) (l : List Nat) (a b : Nat) (best : Int64) : Int64 := if N 46 a = N 46 b then best else if best < Int64.ofNat 0 then ls N a b l else if ls N a b l < best then ls N a b l else best
def s1 (N : Nat → Nat → Nat) (l : List Nat) (a : Nat) : List Nat → Int64 → Int64
  | [], best => best
  | b :: t, best => s1 N l a t (s2 N l a b best)
def s0 (N : Nat → Nat → Nat) (l : List Nat) : List Nat → Int64 → Int64
  | [], best => best
  | a :: t, best => s0 N l t (s1 N l a t best)
theorem drop_at {l : List Nat} {k i : Nat} (h : l[k]? = some i) : l.drop k = i :: l.drop (k + 1) := by
  obtain ⟨hk, rfl⟩ := List.getElem?_eq_some_iff.mp h
  exact List.drop_eq_getElem_cons hk
section
variable {G : Nat → Value} {x : Nat} {N : Nat → Nat → Nat} {Z : ly_Z} {C : Nat → Nat → Int32} {L : Nat → Nat → Int64} {R : Nat → Nat → Option Nat} {D : am_M}
theorem ni_g4 (h : rl G N x Z C R D) {i : Nat} (hi : i < N 31 27) : am_fld (am_mk x true Z C L R D) (Z.2 (i + 6000)) 3 4 = some (.int (Int32.ofNat (N 46 i))) := by
  obtain ⟨-, n2, -, -, -, -, a7, -⟩ := h.2.2.2.1 i hi
  exact (ly_dg6_4 n2).trans (by rw [a7.1])
theorem ni_g5 (h : rl G N x Z C R D) {i : Nat} (hi : i < N 31 27) : am_fld (am_mk x true Z C L R D) (Z.2 (i + 6000)) 3 5 = some (.int (Int32.ofNat (N 47 i))) := by
  obtain ⟨-, n2, -, -, -, -, -, a8, -⟩ := h.2.2.2.1 i hi
  exact (ly_dg6_5 n2).trans (by rw [a8.1])
theorem ni_le (h : rl G N x Z C R D) {i : Nat} (hi : i < N 31 27) : N 46 i ≤ 999 ∧ N 47 i ≤ 99999 := by
  obtain ⟨-, n2, -, -, -, -, a7, a8, -⟩ := h.2.2.2.1 i hi
  exact ⟨a7.2.2, a8.2.2⟩
theorem l_Sp_sumOffLine (h : rl G N x Z C R D) {l : List Nat} (hs : sp_ok N Z C L R l) (hl : l.length ≤ 40) (hv : ∀ i, i ∈ l → i < N 31 27) {d a b : Nat} (ha : a < N 31 27) (hb : b < N 31 27) (hab : ¬ N 46 a = N 46 b) : ∀ (r k : Nat) (l6 l7 l8 : Option Value), l.length - k = r → k ≤ l.length → am_run G (d + 1) K_Sp_sumOffLine (5, [some (.ref (x + 10)), some (.ref (Z.2 (a + 6000))), some (.ref (Z.2 (b + 6000))), some (.long (ls N a b (l.take k))), none, some (.int (Int32.ofNat k)), l6, l7, l8], [], am_mk x true Z C L R D) = some (some (.long (ls N a b l)), am_mk x true Z C L R D) := by
  have qa := ni_le h ha
  have qb := ni_le h hb
  have a4 := ni_g4 (L := L) h ha
  have a5 := ni_g5 (L := L) h ha
  have b4 := ni_g4 (L := L) h hb
  have b5 := ni_g5 (L := L) h hb
  have eq := fun t => x_H_quotient (G := G) (d := d) (a := t) (M := am_mk x true Z C L R D) (l6_subne (show N 46 b < 1000000 by omega) (show N 46 a < 1000000 by omega) (fun q => hab q.symm))
  intro r
  induction r with
  | zero =>
    intro k l6 l7 l8 hr hk
    have e : k = l.length := by omega
    subst e
    have b1 : l.length < 2147483648 := by omega
    rw [List.take_length, r_Sp_sumOffLine_5]
    simp only [r_Sp_sumOffLine_7, r_Sp_sumOffLine_8, r_Sp_sumOffLine_11, r_Sp_sumOffLine_14, r_Sp_sumOffLine_15, r_Sp_sumOffLine_17, r_Sp_sumOffLine_20, r_Sp_sumOffLine_20_k, r_Sp_sumOffLine_22, r_Sp_sumOffLine_24, r_Sp_sumOffLine_27, r_Sp_sumOffLine_28, r_Sp_sumOffLine_31, r_Sp_sumOffLine_32, r_Sp_sumOffLine_35, r_Sp_sumOffLine_36, r_Sp_sumOffLine_37, r_Sp_sumOffLine_39, r_Sp_sumOffLine_42, r_Sp_sumOffLine_43, r_Sp_sumOffLine_46, r_Sp_sumOffLine_47, r_Sp_sumOffLine_48, r_Sp_sumOffLine_49, r_Sp_sumOffLine_49_k, r_Sp_sumOffLine_51, r_Sp_sumOffLine_52, r_Sp_sumOffLine_53, r_Sp_sumOffLine_56, r_Sp_sumOffLine_57, r_Sp_sumOffLine_59, r_Sp_sumOffLine_60, r_Sp_sumOffLine_63, r_Sp_sumOffLine_64, r_Sp_sumOffLine_67, r_Sp_sumOffLine_68, r_Sp_sumOffLine_69, r_Sp_sumOffLine_72, r_Sp_sumOffLine_73, r_Sp_sumOffLine_75, r_Sp_sumOffLine_78, r_Sp_sumOffLine_79, r_Sp_sumOffLine_80, r_Sp_sumOffLine_83, r_Sp_sumOffLine_84, r_Sp_sumOffLine_84_k, r_Sp_sumOffLine_85, r_Sp_sumOffLine_85_k, r_Sp_sumOffLine_88, r_Sp_sumOffLine_91, r_Sp_sumOffLine_92, ly_g10_0, ly_k10, i3n_0, i3n_1, l6n_0, l6n_1, am_kf_s, am_km_s, am_kn_s, am_k_v, am_k_0, am_isr_r, am_isr_n, am_isr_v, am_sw_0, am_sw_i, am_sw_l, am_sw_r, am_sw_n, am_sw_v, am_ct_i, am_ct_r, am_ct_n, am_c1_o, am_c1_n, am_c1_i, am_c1_r, am_c1_v, am_mk_1, lc_lt, lc_gt, lc_eq, lc_le, lc_ge, i01_eq, i01_ok, ite_not, true_or, or_true, true_and, and_true, false_or, or_false, false_and, and_false, if_true, if_false, not_true_eq_false, not_false_eq_true, eq_self, Nat.reduceAdd, Nat.reduceLeDiff, Nat.reduceLT, Nat.reduceEqDiff, Nat.reduceMul, Nat.reduceSub, Nat.reduceDiv, Nat.reduceMod, reduceCtorEq, Nat.zero_le, i3_le, i3_lt, i3_eq, i3_eqN, i3_leN, i3_Nle, i3_ltN, i3_NleN, i3_NeqN, i3_Neq, i3_NltN, i3_Nlt, l6_le, l6_lt, l6_eq, l6_leN, l6_Nle, l6_ltN, l6_Nlt, l6_eqN, l6_Neq, hs.1, b1, Nat.le_refl, ↓reduceIte]
  | succ r ih =>
    intro k l6 l7 l8 hr hk
    have hkl : k < l.length := by omega
    obtain ⟨i, hi⟩ : ∃ i, l[k]? = some i := ⟨l[k], List.getElem?_eq_getElem hkl⟩
    have hin := hv i (List.mem_of_getElem? hi)
    have qi := ni_le h hin
    have i4 := ni_g4 (L := L) h hin
    have i5 := ni_g5 (L := L) h hin
    have b1 : l.length < 2147483648 := by omega
    have b2 : k < 2147483648 := by omega
    have b3 : ¬ l.length ≤ k := by omega
    have e1 := x_Sp_speakerAt (G := G) (x := x) (D := D) (d := d) hs hl hi
    have u1 : (Int32.ofNat (N 47 b) - Int32.ofNat (N 47 a)).toInt64 = Int64.ofNat (N 47 b) - Int64.ofNat (N 47 a) := i3_subL (by omega) (by omega)
    have u2 : (Int32.ofNat (N 46 i) - Int32.ofNat (N 46 a)).toInt64 = Int64.ofNat (N 46 i) - Int64.ofNat (N 46 a) := i3_subL (by omega) (by omega)
    have u3 : (Int32.ofNat (N 46 b) - Int32.ofNat (N 46 a)).toInt64 = Int64.ofNat (N 46 b) - Int64.ofNat (N 46 a) := i3_subL (by omega) (by omega)
    have u4 : (Int32.ofNat (N 47 a)).toInt64 = Int64.ofNat (N 47 a) := i3_long (by omega)
    have u5 : (Int32.ofNat (N 47 i)).toInt64 = Int64.ofNat (N 47 i) := i3_long (by omega)
    have eb : pl (Int64.ofNat (N 47 a) + (Int64.ofNat (N 47 b) - Int64.ofNat (N 47 a)) * (Int64.ofNat (N 46 i) - Int64.ofNat (N 46 a)) / (Int64.ofNat (N 46 b) - Int64.ofNat (N 46 a)) - Int64.ofNat (N 47 i)) = lq N a b i := rfl
    rw [← ih (k + 1) (some (.ref (Z.2 (i + 6000)))) (some (.long ((Int64.ofNat (N 47 b) - Int64.ofNat (N 47 a)) * (Int64.ofNat (N 46 i) - Int64.ofNat (N 46 a))))) none (by omega) (by omega), ls_take hi, r_Sp_sumOffLine_5]
    simp only [r_Sp_sumOffLine_7, r_Sp_sumOffLine_8, r_Sp_sumOffLine_11, r_Sp_sumOffLine_14, r_Sp_sumOffLine_15, r_Sp_sumOffLine_17, r_Sp_sumOffLine_20, r_Sp_sumOffLine_20_k, r_Sp_sumOffLine_22, r_Sp_sumOffLine_24, r_Sp_sumOffLine_27, r_Sp_sumOffLine_28, r_Sp_sumOffLine_31, r_Sp_sumOffLine_32, r_Sp_sumOffLine_35, r_Sp_sumOffLine_36, r_Sp_sumOffLine_37, r_Sp_sumOffLine_39, r_Sp_sumOffLine_42, r_Sp_sumOffLine_43, r_Sp_sumOffLine_46, r_Sp_sumOffLine_47, r_Sp_sumOffLine_48, r_Sp_sumOffLine_49, r_Sp_sumOffLine_49_k, r_Sp_sumOffLine_51, r_Sp_sumOffLine_52, r_Sp_sumOffLine_53, r_Sp_sumOffLine_56, r_Sp_sumOffLine_57, r_Sp_sumOffLine_59, r_Sp_sumOffLine_60, r_Sp_sumOffLine_63, r_Sp_sumOffLine_64, r_Sp_sumOffLine_67, r_Sp_sumOffLine_68, r_Sp_sumOffLine_69, r_Sp_sumOffLine_72, r_Sp_sumOffLine_73, r_Sp_sumOffLine_75, r_Sp_sumOffLine_78, r_Sp_sumOffLine_79, r_Sp_sumOffLine_80, r_Sp_sumOffLine_83, r_Sp_sumOffLine_84, r_Sp_sumOffLine_84_k, r_Sp_sumOffLine_85, r_Sp_sumOffLine_85_k, r_Sp_sumOffLine_88, ly_g10_0, ly_k10, i3n_0, i3n_1, l6n_0, l6n_1, am_kf_s, am_km_s, am_kn_s, am_k_v, am_k_0, am_isr_r, am_isr_n, am_isr_v, am_sw_0, am_sw_i, am_sw_l, am_sw_r, am_sw_n, am_sw_v, am_ct_i, am_ct_r, am_ct_n, am_c1_o, am_c1_n, am_c1_i, am_c1_r, am_c1_v, am_mk_1, lc_lt, lc_gt, lc_eq, lc_le, lc_ge, i01_eq, i01_ok, ite_not, true_or, or_true, true_and, and_true, false_or, or_false, false_and, and_false, if_true, if_false, not_true_eq_false, not_false_eq_true, eq_self, Nat.reduceAdd, Nat.reduceLeDiff, Nat.reduceLT, Nat.reduceEqDiff, Nat.reduceMul, Nat.reduceSub, Nat.reduceDiv, Nat.reduceMod, reduceCtorEq, Nat.zero_le, i3_le, i3_lt, i3_eq, i3_eqN, i3_leN, i3_Nle, i3_ltN, i3_NleN, i3_NeqN, i3_Neq, i3_NltN, i3_Nlt, l6_le, l6_lt, l6_eq, l6_leN, l6_Nle, l6_ltN, l6_Nlt, l6_eqN, l6_Neq, hs.1, b1, b2, b3, e1, a4, a5, b4, b5, i4, i5, u1, u2, u3, u4, u5, eq, pl_abs, eb, i3_add, ↓reduceIte]
theorem x_Sp_sumOffLine (h : rl G N x Z C R D) {l : List Nat} (hs : sp_ok N Z C L R l) (hl : l.length ≤ 40) (hv : ∀ i, i ∈ l → i < N 31 27) {d a b : Nat} (ha : a < N 31 27) (hb : b < N 31 27) (hab : ¬ N 46 a = N 46 b) : am_ex G (d + 2) K_Sp_sumOffLine [.ref (x + 10), .ref (Z.2 (a + 6000)), .ref (Z.2 (b + 6000))] (am_mk x true Z C L R D) = some (some (.long (ls N a b l)), am_mk x true Z C L R D) := by
  have w := l_Sp_sumOffLine (G := G) h hs hl hv (d := d) ha hb hab l.length 0 none none none rfl (Nat.zero_le _)
  have e0 : ls N a b (l.take 0) = Int64.ofNat 0 := rfl
  rw [e0] at w
  rw [← w]
  simp only [e_Sp_sumOffLine, r_Sp_sumOffLine_0, r_Sp_sumOffLine_1, r_Sp_sumOffLine_1_k, r_Sp_sumOffLine_2, r_Sp_sumOffLine_3, r_Sp_sumOffLine_3_k, r_Sp_sumOffLine_7, r_Sp_sumOffLine_8, r_Sp_sumOffLine_11, r_Sp_sumOffLine_14, r_Sp_sumOffLine_15, r_Sp_sumOffLine_17, r_Sp_sumOffLine_20, r_Sp_sumOffLine_20_k, r_Sp_sumOffLine_22, r_Sp_sumOffLine_24, r_Sp_sumOffLine_27, r_Sp_sumOffLine_28, r_Sp_sumOffLine_31, r_Sp_sumOffLine_32, r_Sp_sumOffLine_35, r_Sp_sumOffLine_36, r_Sp_sumOffLine_37, r_Sp_sumOffLine_39, r_Sp_sumOffLine_42, r_Sp_sumOffLine_43, r_Sp_sumOffLine_46, r_Sp_sumOffLine_47, r_Sp_sumOffLine_48, r_Sp_sumOffLine_49, r_Sp_sumOffLine_49_k, r_Sp_sumOffLine_51, r_Sp_sumOffLine_52, r_Sp_sumOffLine_53, r_Sp_sumOffLine_56, r_Sp_sumOffLine_57, r_Sp_sumOffLine_59, r_Sp_sumOffLine_60, r_Sp_sumOffLine_63, r_Sp_sumOffLine_64, r_Sp_sumOffLine_67, r_Sp_sumOffLine_68, r_Sp_sumOffLine_69, r_Sp_sumOffLine_72, r_Sp_sumOffLine_73, r_Sp_sumOffLine_75, r_Sp_sumOffLine_78, r_Sp_sumOffLine_79, r_Sp_sumOffLine_80, r_Sp_sumOffLine_83, r_Sp_sumOffLine_84, r_Sp_sumOffLine_84_k, r_Sp_sumOffLine_85, r_Sp_sumOffLine_85_k, r_Sp_sumOffLine_88, r_Sp_sumOffLine_91, r_Sp_sumOffLine_92, ly_g10_0, ly_k10, i3n_0, i3n_1, l6n_0, l6n_1, am_kf_s, am_km_s, am_kn_s, am_k_v, am_k_0, am_isr_r, am_isr_n, am_isr_v, am_sw_0, am_sw_i, am_sw_l, am_sw_r, am_sw_n, am_sw_v, am_ct_i, am_ct_r, am_ct_n, am_c1_o, am_c1_n, am_c1_i, am_c1_r, am_c1_v, am_mk_1, lc_lt, lc_gt, lc_eq, lc_le, lc_ge, i01_eq, i01_ok, ite_not, true_or, or_true, true_and, and_true, false_or, or_false, false_and, and_false, if_true, if_false, not_true_eq_false, not_false_eq_true, eq_self, Nat.reduceAdd, Nat.reduceLeDiff, Nat.reduceLT, Nat.reduceEqDiff, Nat.reduceMul, Nat.reduceSub, Nat.reduceDiv, Nat.reduceMod, reduceCtorEq, Nat.zero_le, i3_le, i3_lt, i3_eq, i3_eqN, i3_leN, i3_Nle, i3_ltN, i3_NleN, i3_NeqN, i3_Neq, i3_NltN, i3_Nlt, l6_le, l6_lt, l6_eq, l6_leN, l6_Nle, l6_ltN, l6_Nlt, l6_eqN, l6_Neq, ↓reduceIte]
theorem l_Sp_straight1 (h : rl G N x Z C R D) {l : List Nat} (hs : sp_ok N Z C L R l) (hl : l.length ≤ 40) (hv : ∀ i, i ∈ l → i < N 31 27) {d i a : Nat} (ha : l[i]? = some a) : ∀ (r k : Nat) (best : Int64) (l5 l6 l7 l8 : Option Value), l.length - k = r → k ≤ l.length → am_c1 l6 = true → ∃ (m5 m6 m7 m8 : Option Value), am_c1 m6 = true ∧ am_run G (d + 2) K_Sp_straightSum (19, [some (.ref (x + 10)), some (.long best), none, some (.int (Int32.ofNat i)), some (.int (Int32.ofNat k)), l5, l6, l7, l8], [], am_mk x true Z C L R D) = am_run G (d + 2) K_Sp_straightSum (98, [some (.ref (x + 10)), some (.long (s1 N l a (l.drop k) best)), none, some (.int (Int32.ofNat i)), some (.int (Int32.ofNat l.length)), m5, m6, m7, m8], [], am_mk x true Z C L R D) := by
  have han := hv a (List.mem_of_getElem? ha)
  have ea := x_Sp_speakerAt (G := G) (x := x) (D := D) (d := d + 1) hs hl ha
  have a4 := ni_g4 (L := L) h han
  have qa := ni_le h han
  intro r
  induction r with
  | zero =>
    intro k best l5 l6 l7 l8 hr hk c6
    have e : k = l.length := by omega
    subst e
    have b1 : l.length < 2147483648 := by omega
    refine ⟨l5, l6, l7, l8, c6, ?_⟩
    rw [List.drop_length, s1, r_Sp_straightSum_19]
    simp only [r_Sp_straightSum_21, r_Sp_straightSum_22, r_Sp_straightSum_25, ly_g10_0, ly_k10, i3n_0, i3n_1, l6n_0, l6n_1, am_kf_s, am_km_s, am_kn_s, am_k_v, am_k_0, am_isr_r, am_isr_n, am_isr_v, am_sw_0, am_sw_i, am_sw_l, am_sw_r, am_sw_n, am_sw_v, am_ct_i, am_ct_r, am_ct_n, am_c1_o, am_c1_n, am_c1_i, am_c1_r, am_c1_v, am_mk_1, lc_lt, lc_gt, lc_eq, lc_le, lc_ge, i01_eq, i01_ok, ite_not, true_or, or_true, true_and, and_true, false_or, or_false, false_and, and_false, if_true, if_false, not_true_eq_false, not_false_eq_true, eq_self, Nat.reduceAdd, Nat.reduceLeDiff, Nat.reduceLT, Nat.reduceEqDiff, Nat.reduceMul, Nat.reduceSub, Nat.reduceDiv, Nat.reduceMod, reduceCtorEq, Nat.zero_le, i3_le, i3_lt, i3_eq, i3_eqN, i3_leN, i3_Nle, i3_ltN, i3_NleN, i3_NeqN, i3_Neq, i3_NltN, i3_Nlt, l6_le, l6_lt, l6_eq, l6_leN, l6_Nle, l6_ltN, l6_Nlt, l6_eqN, l6_Neq, hs.1, b1, Nat.le_refl, ↓reduceIte]
  | succ r ih =>
    intro k best l5 l6 l7 l8 hr hk c6
    have hkl : k < l.length := by omega
    obtain ⟨b, hb⟩ : ∃ b, l[k]? = some b := ⟨l[k], List.getElem?_eq_getElem hkl⟩
    have hbn := hv b (List.mem_of_getElem? hb)
    have eb := x_Sp_speakerAt (G := G) (x := x) (D := D) (d := d + 1) hs hl hb
    have b4 := ni_g4 (L := L) h hbn
    have qb := ni_le h hbn
    have b1 : l.length < 2147483648 := by omega
    have b2 : k < 2147483648 := by omega
    have b3 : ¬ l.length ≤ k := by omega
    have b5 : N 46 a < 2147483648 := by omega
    have b6 : N 46 b < 2147483648 := by omega
    rw [drop_at hb, s1]
    by_cases hm : N 46 a = N 46 b
    · obtain ⟨m5, m6, m7, m8, c7, w⟩ := ih (k + 1) best (some (.ref (Z.2 (a + 6000)))) (some (.ref (Z.2 (b + 6000)))) l7 l8 (by omega) (by omega) am_c1_r
      refine ⟨m5, m6, m7, m8, c7, ?_⟩
      have e2 : s2 N l a b best = best := by unfold s2; rw [if_pos hm]
      rw [e2, ← w, r_Sp_straightSum_19]
      rw [hm] at a4 b5
      simp only [r_Sp_straightSum_21, r_Sp_straightSum_22, r_Sp_straightSum_25, r_Sp_straightSum_28, r_Sp_straightSum_29, r_Sp_straightSum_30, r_Sp_straightSum_33, r_Sp_straightSum_33_k, r_Sp_straightSum_35, r_Sp_straightSum_36, r_Sp_straightSum_38, r_Sp_straightSum_41, r_Sp_straightSum_41_k, r_Sp_straightSum_43, r_Sp_straightSum_45, r_Sp_straightSum_48, r_Sp_straightSum_50, r_Sp_straightSum_53, r_Sp_straightSum_55, r_Sp_straightSum_58, r_Sp_straightSum_60, r_Sp_straightSum_63, r_Sp_straightSum_66, r_Sp_straightSum_67, r_Sp_straightSum_69, r_Sp_straightSum_71, r_Sp_straightSum_74, r_Sp_straightSum_74_k, r_Sp_straightSum_76, r_Sp_straightSum_77, r_Sp_straightSum_78, r_Sp_straightSum_79, r_Sp_straightSum_82, r_Sp_straightSum_84, r_Sp_straightSum_85, r_Sp_straightSum_86, r_Sp_straightSum_89, r_Sp_straightSum_91, r_Sp_straightSum_91_k, r_Sp_straightSum_92, r_Sp_straightSum_92_k, r_Sp_straightSum_95, ly_g10_0, ly_k10, i3n_0, i3n_1, l6n_0, l6n_1, am_kf_s, am_km_s, am_kn_s, am_k_v, am_k_0, am_isr_r, am_isr_n, am_isr_v, am_sw_0, am_sw_i, am_sw_l, am_sw_r, am_sw_n, am_sw_v, am_ct_i, am_ct_r, am_ct_n, am_c1_o, am_c1_n, am_c1_i, am_c1_r, am_c1_v, am_mk_1, lc_lt, lc_gt, lc_eq, lc_le, lc_ge, i01_eq, i01_ok, ite_not, true_or, or_true, true_and, and_true, false_or, or_false, false_and, and_false, if_true, if_false, not_true_eq_false, not_false_eq_true, eq_self, Nat.reduceAdd, Nat.reduceLeDiff, Nat.reduceLT, Nat.reduceEqDiff, Nat.reduceMul, Nat.reduceSub, Nat.reduceDiv, Nat.reduceMod, reduceCtorEq, Nat.zero_le, i3_le, i3_lt, i3_eq, i3_eqN, i3_leN, i3_Nle, i3_ltN, i3_NleN, i3_NeqN, i3_Neq, i3_NltN, i3_Nlt, l6_le, l6_lt, l6_eq, l6_leN, l6_Nle, l6_ltN, l6_Nlt, l6_eqN, l6_Neq, hs.1, b1, b2, b3, ea, eb, a4, b4, i3_add, ↓reduceIte]
    · have e3 := x_Sp_sumOffLine (G := G) h hs hl hv (d := d) han hbn hm
      obtain ⟨m5, m6, m7, m8, c7, w⟩ := ih (k + 1) (s2 N l a b best) (some (.ref (Z.2 (a + 6000)))) (some (.ref (Z.2 (b + 6000)))) (some (.long (ls N a b l))) none (by omega) (by omega) am_c1_r
      refine ⟨m5, m6, m7, m8, c7, ?_⟩
      rw [← w, r_Sp_straightSum_19]
      unfold s2
      rw [if_neg hm]
      by_cases h1 : best < Int64.ofNat 0
      · rw [if_pos h1]
        simp only [r_Sp_straightSum_21, r_Sp_straightSum_22, r_Sp_straightSum_25, r_Sp_straightSum_28, r_Sp_straightSum_29, r_Sp_straightSum_30, r_Sp_straightSum_33, r_Sp_straightSum_33_k, r_Sp_straightSum_35, r_Sp_straightSum_36, r_Sp_straightSum_38, r_Sp_straightSum_41, r_Sp_straightSum_41_k, r_Sp_straightSum_43, r_Sp_straightSum_45, r_Sp_straightSum_48, r_Sp_straightSum_50, r_Sp_straightSum_53, r_Sp_straightSum_55, r_Sp_straightSum_58, r_Sp_straightSum_60, r_Sp_straightSum_63, r_Sp_straightSum_66, r_Sp_straightSum_67, r_Sp_straightSum_69, r_Sp_straightSum_71, r_Sp_straightSum_74, r_Sp_straightSum_74_k, r_Sp_straightSum_76, r_Sp_straightSum_77, r_Sp_straightSum_78, r_Sp_straightSum_79, r_Sp_straightSum_82, r_Sp_straightSum_84, r_Sp_straightSum_85, r_Sp_straightSum_86, r_Sp_straightSum_89, r_Sp_straightSum_91, r_Sp_straightSum_91_k, r_Sp_straightSum_92, r_Sp_straightSum_92_k, r_Sp_straightSum_95, ly_g10_0, ly_k10, i3n_0, i3n_1, l6n_0, l6n_1, am_kf_s, am_km_s, am_kn_s, am_k_v, am_k_0, am_isr_r, am_isr_n, am_isr_v, am_sw_0, am_sw_i, am_sw_l, am_sw_r, am_sw_n, am_sw_v, am_ct_i, am_ct_r, am_ct_n, am_c1_o, am_c1_n, am_c1_i, am_c1_r, am_c1_v, am_mk_1, lc_lt, lc_gt, lc_eq, lc_le, lc_ge, i01_eq, i01_ok, ite_not, true_or, or_true, true_and, and_true, false_or, or_false, false_and, and_false, if_true, if_false, not_true_eq_false, not_false_eq_true, eq_self, Nat.reduceAdd, Nat.reduceLeDiff, Nat.reduceLT, Nat.reduceEqDiff, Nat.reduceMul, Nat.reduceSub, Nat.reduceDiv, Nat.reduceMod, reduceCtorEq, Nat.zero_le, i3_le, i3_lt, i3_eq, i3_eqN, i3_leN, i3_Nle, i3_ltN, i3_NleN, i3_NeqN, i3_Neq, i3_NltN, i3_Nlt, l6_le, l6_lt, l6_eq, l6_leN, l6_Nle, l6_ltN, l6_Nlt, l6_eqN, l6_Neq, hs.1, b1, b2, b3, b5, b6, ea, eb, a4, b4, hm, e3, h1, i3_add, ↓reduceIte]
      · rw [if_neg h1]
        by_cases h2 : ls N a b l < best
        · have h3 : ¬ best ≤ ls N a b l := Int64.not_le.mpr h2
          rw [if_pos h2]
          simp only [r_Sp_straightSum_21, r_Sp_straightSum_22, r_Sp_straightSum_25, r_Sp_straightSum_28, r_Sp_straightSum_29, r_Sp_straightSum_30, r_Sp_straightSum_33, r_Sp_straightSum_33_k, r_Sp_straightSum_35, r_Sp_straightSum_36, r_Sp_straightSum_38, r_Sp_straightSum_41, r_Sp_straightSum_41_k, r_Sp_straightSum_43, r_Sp_straightSum_45, r_Sp_straightSum_48, r_Sp_straightSum_50, r_Sp_straightSum_53, r_Sp_straightSum_55, r_Sp_straightSum_58, r_Sp_straightSum_60, r_Sp_straightSum_63, r_Sp_straightSum_66, r_Sp_straightSum_67, r_Sp_straightSum_69, r_Sp_straightSum_71, r_Sp_straightSum_74, r_Sp_straightSum_74_k, r_Sp_straightSum_76, r_Sp_straightSum_77, r_Sp_straightSum_78, r_Sp_straightSum_79, r_Sp_straightSum_82, r_Sp_straightSum_84, r_Sp_straightSum_85, r_Sp_straightSum_86, r_Sp_straightSum_89, r_Sp_straightSum_91, r_Sp_straightSum_91_k, r_Sp_straightSum_92, r_Sp_straightSum_92_k, r_Sp_straightSum_95, ly_g10_0, ly_k10, i3n_0, i3n_1, l6n_0, l6n_1, am_kf_s, am_km_s, am_kn_s, am_k_v, am_k_0, am_isr_r, am_isr_n, am_isr_v, am_sw_0, am_sw_i, am_sw_l, am_sw_r, am_sw_n, am_sw_v, am_ct_i, am_ct_r, am_ct_n, am_c1_o, am_c1_n, am_c1_i, am_c1_r, am_c1_v, am_mk_1, lc_lt, lc_gt, lc_eq, lc_le, lc_ge, i01_eq, i01_ok, ite_not, true_or, or_true, true_and, and_true, false_or, or_false, false_and, and_false, if_true, if_false, not_true_eq_false, not_false_eq_true, eq_self, Nat.reduceAdd, Nat.reduceLeDiff, Nat.reduceLT, Nat.reduceEqDiff, Nat.reduceMul, Nat.reduceSub, Nat.reduceDiv, Nat.reduceMod, reduceCtorEq, Nat.zero_le, i3_le, i3_lt, i3_eq, i3_eqN, i3_leN, i3_Nle, i3_ltN, i3_NleN, i3_NeqN, i3_Neq, i3_NltN, i3_Nlt, l6_le, l6_lt, l6_eq, l6_leN, l6_Nle, l6_ltN, l6_Nlt, l6_eqN, l6_Neq, hs.1, b1, b2, b3, b5, b6, ea, eb, a4, b4, hm, e3, h1, h2, h3, i3_add, ↓reduceIte]
        · have h3 : best ≤ ls N a b l := Int64.not_lt.mp h2
          rw [if_neg h2]
          simp only [r_Sp_straightSum_21, r_Sp_straightSum_22, r_Sp_straightSum_25, r_Sp_straightSum_28, r_Sp_straightSum_29, r_Sp_straightSum_30, r_Sp_straightSum_33, r_Sp_straightSum_33_k, r_Sp_straightSum_35, r_Sp_straightSum_36, r_Sp_straightSum_38, r_Sp_straightSum_41, r_Sp_straightSum_41_k, r_Sp_straightSum_43, r_Sp_straightSum_45, r_Sp_straightSum_48, r_Sp_straightSum_50, r_Sp_straightSum_53, r_Sp_straightSum_55, r_Sp_straightSum_58, r_Sp_straightSum_60, r_Sp_straightSum_63, r_Sp_straightSum_66, r_Sp_straightSum_67, r_Sp_straightSum_69, r_Sp_straightSum_71, r_Sp_straightSum_74, r_Sp_straightSum_74_k, r_Sp_straightSum_76, r_Sp_straightSum_77, r_Sp_straightSum_78, r_Sp_straightSum_79, r_Sp_straightSum_82, r_Sp_straightSum_84, r_Sp_straightSum_85, r_Sp_straightSum_86, r_Sp_straightSum_89, r_Sp_straightSum_91, r_Sp_straightSum_91_k, r_Sp_straightSum_92, r_Sp_straightSum_92_k, r_Sp_straightSum_95, ly_g10_0, ly_k10, i3n_0, i3n_1, l6n_0, l6n_1, am_kf_s, am_km_s, am_kn_s, am_k_v, am_k_0, am_isr_r, am_isr_n, am_isr_v, am_sw_0, am_sw_i, am_sw_l, am_sw_r, am_sw_n, am_sw_v, am_ct_i, am_ct_r, am_ct_n, am_c1_o, am_c1_n, am_c1_i, am_c1_r, am_c1_v, am_mk_1, lc_lt, lc_gt, lc_eq, lc_le, lc_ge, i01_eq, i01_ok, ite_not, true_or, or_true, true_and, and_true, false_or, or_false, false_and, and_false, if_true, if_false, not_true_eq_false, not_false_eq_true, eq_self, Nat.reduceAdd, Nat.reduceLeDiff, Nat.reduceLT, Nat.reduceEqDiff, Nat.reduceMul, Nat.reduceSub, Nat.reduceDiv, Nat.reduceMod, reduceCtorEq, Nat.zero_le, i3_le, i3_lt, i3_eq, i3_eqN, i3_leN, i3_Nle, i3_ltN, i3_NleN, i3_NeqN, i3_Neq, i3_NltN, i3_Nlt, l6_le, l6_lt, l6_eq, l6_leN, l6_Nle, l6_ltN, l6_Nlt, l6_eqN, l6_Neq, hs.1, b1, b2, b3, b5, b6, ea, eb, a4, b4, hm, e3, h1, h2, h3, i3_add, ↓reduceIte]
theorem l_Sp_straight0 (h : rl G N x Z C R D) {l : List Nat} (hs : sp_ok N Z C L R l) (hl : l.length ≤ 40) (hv : ∀ i, i ∈ l → i < N 31 27) {d : Nat} : ∀ (r k : Nat) (best : Int64) (l4 l5 l6 l7 l8 : Option Value), l.length - k = r → k ≤ l.length → am_c1 l6 = true → am_run G (d + 2) K_Sp_straightSum (6, [some (.ref (x + 10)), some (.long best), none, some (.int (Int32.ofNat k)), l4, l5, l6, l7, l8], [], am_mk x true Z C L R D) = some (some (.long (s0 N l (l.drop k) best)), am_mk x true Z C L R D) := by
  intro r
  induction r with
  | zero =>
    intro k best l4 l5 l6 l7 l8 hr hk c6
    have e : k = l.length := by omega
    subst e
    have b1 : l.length < 2147483648 := by omega
    rw [List.drop_length, s0, r_Sp_straightSum_6]
    simp only [r_Sp_straightSum_7, r_Sp_straightSum_8, r_Sp_straightSum_11, r_Sp_straightSum_104, r_Sp_straightSum_105, ly_g10_0, ly_k10, i3n_0, i3n_1, l6n_0, l6n_1, am_kf_s, am_km_s, am_kn_s, am_k_v, am_k_0, am_isr_r, am_isr_n, am_isr_v, am_sw_0, am_sw_i, am_sw_l, am_sw_r, am_sw_n, am_sw_v, am_ct_i, am_ct_r, am_ct_n, am_c1_o, am_c1_n, am_c1_i, am_c1_r, am_c1_v, am_mk_1, lc_lt, lc_gt, lc_eq, lc_le, lc_ge, i01_eq, i01_ok, ite_not, true_or, or_true, true_and, and_true, false_or, or_false, false_and, and_false, if_true, if_false, not_true_eq_false, not_false_eq_true, eq_self, Nat.reduceAdd, Nat.reduceLeDiff, Nat.reduceLT, Nat.reduceEqDiff, Nat.reduceMul, Nat.reduceSub, Nat.reduceDiv, Nat.reduceMod, reduceCtorEq, Nat.zero_le, i3_le, i3_lt, i3_eq, i3_eqN, i3_leN, i3_Nle, i3_ltN, i3_NleN, i3_NeqN, i3_Neq, i3_NltN, i3_Nlt, l6_le, l6_lt, l6_eq, l6_leN, l6_Nle, l6_ltN, l6_Nlt, l6_eqN, l6_Neq, hs.1, b1, Nat.le_refl, ↓reduceIte]
  | succ r ih =>
    intro k best l4 l5 l6 l7 l8 hr hk c6
    have hkl : k < l.length := by omega
    obtain ⟨a, ha⟩ : ∃ a, l[k]? = some a := ⟨l[k], List.getElem?_eq_getElem hkl⟩
    have b1 : l.length < 2147483648 := by omega
    have b2 : k < 2147483648 := by omega
    have b3 : ¬ l.length ≤ k := by omega
    obtain ⟨m5, m6, m7, m8, c7, w⟩ := l_Sp_straight1 (G := G) h hs hl hv (d := d) ha (l.length - (k + 1)) (k + 1) best l5 l6 l7 l8 rfl (by omega) c6
    rw [drop_at ha, s0, ← ih (k + 1) _ (some (.int (Int32.ofNat l.length))) m5 m6 m7 m8 (by omega) (by omega) c7, r_Sp_straightSum_6]
    simp only [r_Sp_straightSum_7, r_Sp_straightSum_8, r_Sp_straightSum_11, r_Sp_straightSum_14, r_Sp_straightSum_15, r_Sp_straightSum_16, r_Sp_straightSum_17, r_Sp_straightSum_17_k, ly_g10_0, ly_k10, i3n_0, i3n_1, l6n_0, l6n_1, am_kf_s, am_km_s, am_kn_s, am_k_v, am_k_0, am_isr_r, am_isr_n, am_isr_v, am_sw_0, am_sw_i, am_sw_l, am_sw_r, am_sw_n, am_sw_v, am_ct_i, am_ct_r, am_ct_n, am_c1_o, am_c1_n, am_c1_i, am_c1_r, am_c1_v, am_mk_1, lc_lt, lc_gt, lc_eq, lc_le, lc_ge, i01_eq, i01_ok, ite_not, true_or, or_true, true_and, and_true, false_or, or_false, false_and, and_false, if_true, if_false, not_true_eq_false, not_false_eq_true, eq_self, Nat.reduceAdd, Nat.reduceLeDiff, Nat.reduceLT, Nat.reduceEqDiff, Nat.reduceMul, Nat.reduceSub, Nat.reduceDiv, Nat.reduceMod, reduceCtorEq, Nat.zero_le, i3_le, i3_lt, i3_eq, i3_eqN, i3_leN, i3_Nle, i3_ltN, i3_NleN, i3_NeqN, i3_Neq, i3_NltN, i3_Nlt, l6_le, l6_lt, l6_eq, l6_leN, l6_Nle, l6_ltN, l6_Nlt, l6_eqN, l6_Neq, hs.1, b1, b2, b3, i3_add, ↓reduceIte]
    rw [w]
    simp only [r_Sp_straightSum_98, r_Sp_straightSum_98_k, r_Sp_straightSum_101, ly_g10_0, ly_k10, i3n_0, i3n_1, l6n_0, l6n_1, am_kf_s, am_km_s, am_kn_s, am_k_v, am_k_0, am_isr_r, am_isr_n, am_isr_v, am_sw_0, am_sw_i, am_sw_l, am_sw_r, am_sw_n, am_sw_v, am_ct_i, am_ct_r, am_ct_n, am_c1_o, am_c1_n, am_c1_i, am_c1_r, am_c1_v, am_mk_1, lc_lt, lc_gt, lc_eq, lc_le, lc_ge, i01_eq, i01_ok, ite_not, true_or, or_true, true_and, and_true, false_or, or_false, false_and, and_false, if_true, if_false, not_true_eq_false, not_false_eq_true, eq_self, Nat.reduceAdd, Nat.reduceLeDiff, Nat.reduceLT, Nat.reduceEqDiff, Nat.reduceMul, Nat.reduceSub, Nat.reduceDiv, Nat.reduceMod, reduceCtorEq, Nat.zero_le, i3_le, i3_lt, i3_eq, i3_eqN, i3_leN, i3_Nle, i3_ltN, i3_NleN, i3_NeqN, i3_Neq, i3_NltN, i3_Nlt, l6_le, l6_lt, l6_eq, l6_leN, l6_Nle, l6_ltN, l6_Nlt, l6_eqN, l6_Neq, i3_add, ↓reduceIte]
theorem x_Sp_straightSum (h : rl G N x Z C R D) {l : List Nat} (hs : sp_ok N Z C L R l) (hl : l.length ≤ 40) (hv : ∀ i, i ∈ l → i < N 31 27) {d : Nat} : am_ex G (d + 3) K_Sp_straightSum [.ref (x + 10)] (am_mk x true Z C L R D) = some (some (.long (s0 N l l (-Int64.ofNat 1))), am_mk x true Z C L R D) := by
  have w := l_Sp_straight0 (G := G) h hs hl hv (d := d) l.length 0 (-Int64.ofNat 1) none none none none none rfl (Nat.zero_le _) am_c1_n
  rw [List.drop_zero] at w
  rw [← w]
  simp only [e_Sp_straightSum, r_Sp_straightSum_0, r_Sp_straightSum_3, r_Sp_straightSum_3_k, r_Sp_straightSum_4, r_Sp_straightSum_5, r_Sp_straightSum_5_k, r_Sp_straightSum_7, r_Sp_straightSum_8, r_Sp_straightSum_11, r_Sp_straightSum_14, r_Sp_straightSum_15, r_Sp_straightSum_16, r_Sp_straightSum_17, r_Sp_straightSum_17_k, r_Sp_straightSum_21, r_Sp_straightSum_22, r_Sp_straightSum_25, r_Sp_straightSum_28, r_Sp_straightSum_29, r_Sp_straightSum_30, r_Sp_straightSum_33, r_Sp_straightSum_33_k, r_Sp_straightSum_35, r_Sp_straightSum_36, r_Sp_straightSum_38, r_Sp_straightSum_41, r_Sp_straightSum_41_k, r_Sp_straightSum_43, r_Sp_straightSum_45, r_Sp_straightSum_48, r_Sp_straightSum_50, r_Sp_straightSum_53, r_Sp_straightSum_55, r_Sp_straightSum_58, r_Sp_straightSum_60, r_Sp_straightSum_63, r_Sp_straightSum_66, r_Sp_straightSum_67, r_Sp_straightSum_69, r_Sp_straightSum_71, r_Sp_straightSum_74, r_Sp_straightSum_74_k, r_Sp_straightSum_76, r_Sp_straightSum_77, r_Sp_straightSum_78, r_Sp_straightSum_79, r_Sp_straightSum_82, r_Sp_straightSum_84, r_Sp_straightSum_85, r_Sp_straightSum_86, r_Sp_straightSum_89, r_Sp_straightSum_91, r_Sp_straightSum_91_k, r_Sp_straightSum_92, r_Sp_straightSum_92_k, r_Sp_straightSum_95, r_Sp_straightSum_98, r_Sp_straightSum_98_k, r_Sp_straightSum_101, r_Sp_straightSum_104, r_Sp_straightSum_105, ly_g10_0, ly_k10, i3n_0, i3n_1, l6n_0, l6n_1, am_kf_s, am_km_s, am_kn_s, am_k_v, am_k_0, am_isr_r, am_isr_n, am_isr_v, am_sw_0, am_sw_i, am_sw_l, am_sw_r, am_sw_n, am_sw_v, am_ct_i, am_ct_r, am_ct_n, am_c1_o, am_c1_n, am_c1_i, am_c1_r, am_c1_v, am_mk_1, lc_lt, lc_gt, lc_eq, lc_le, lc_ge, i01_eq, i01_ok, ite_not, true_or, or_true, true_and, and_true, false_or, or_false, false_and, and_false, if_true, if_false, not_true_eq_false, not_false_eq_true, eq_self, Nat.reduceAdd, Nat.reduceLeDiff, Nat.reduceLT, Nat.reduceEqDiff, Nat.reduceMul, Nat.reduceSub, Nat.reduceDiv, Nat.reduceMod, reduceCtorEq, Nat.zero_le, i3_le, i3_lt, i3_eq, i3_eqN, i3_leN, i3_Nle, i3_ltN, i3_NleN, i3_NeqN, i3_Neq, i3_NltN, i3_Nlt, l6_le, l6_lt, l6_eq, l6_leN, l6_Nle, l6_ltN, l6_Nlt, l6_eqN, l6_Neq, ↓reduceIte]
end
