/-! codes worked off; the reference's reader: what it keeps to -/
def ev_join (c a b : Int32) : Int32 := if c = -Int32.ofNat 10 then a + b else if c = -Int32.ofNat 11 then a - b else if c = -Int32.ofNat 12 then a * b else if c = -Int32.ofNat 13 then (if a < b then Int32.ofNat 1 else Int32.ofNat 0) else if c = -Int32.ofNat 14 then (if a = b then Int32.ofNat 1 else Int32.ofNat 0) else if c = -Int32.ofNat 15 then (if a = Int32.ofNat 0 then Int32.ofNat 0 else if b = Int32.ofNat 0 then Int32.ofNat 0 else Int32.ofNat 1) else (if a = Int32.ofNat 0 then (if b = Int32.ofNat 0 then Int32.ofNat 0 else Int32.ofNat 1) else Int32.ofNat 1)
def ev_step (ev : Int32 → Int32) (c : Int32) (st : List Int32) : Option (List Int32) :=
  if -Int32.ofNat 6 ≤ c then some ((if Int32.ofNat 0 ≤ c then c else ev (-Int32.ofNat 1 - c)) :: st)
  else if c ≤ -Int32.ofNat 20 then (match st with
    | a :: r => some ((if c = -Int32.ofNat 21 then (if a = Int32.ofNat 0 then Int32.ofNat 1 else Int32.ofNat 0) else -a) :: r)
    | [] => none)
  else (match st with
    | b :: a :: r => some (ev_join c a b :: r)
    | _ => none)
def ev_run (ev : Int32 → Int32) : List Int32 → List Int32 → Option (List Int32)
  | [], st => some st
  | c :: cs, st => (ev_step ev c st).bind (ev_run ev cs)
theorem ev_run_app {ev : Int32 → Int32} : ∀ (a b st : List Int32), ev_run ev (a ++ b) st = (ev_run ev a st).bind (ev_run ev b) := by
  intro a
  induction a with
  | nil => intro b st; rfl
  | cons c a ih =>
    intro b st
    rw [List.cons_append, ev_run, ev_run]
    cases ev_step ev c st with
    | none => rfl
    | some st' => exact ih b st'
/-- the codes c leave v -/
def ev_val (ev : Int32 → Int32) (c : List Int32) (v : Int32) : Prop := ∀ st, ev_run ev c st = some (v :: st)
theorem ev_val_bin {ev : Int32 → Int32} {c c' : List Int32} {v v' o w : Int32} (h : ev_val ev c v) (h' : ev_val ev c' v') (ho : ∀ st, ev_step ev o (v' :: v :: st) = some (w :: st)) : ev_val ev (c ++ c' ++ [o]) w := by
  intro st
  rw [ev_run_app, ev_run_app, h st, Option.bind_some, h' (v :: st), Option.bind_some, ev_run, ho, Option.bind_some]
  rfl
theorem ev_val_un {ev : Int32 → Int32} {c : List Int32} {v o w : Int32} (h : ev_val ev c v) (ho : ∀ st, ev_step ev o (v :: st) = some (w :: st)) : ev_val ev (c ++ [o]) w := by
  intro st
  rw [ev_run_app, h st, Option.bind_some, ev_run, ho, Option.bind_some]
  rfl
theorem ev_val_one {ev : Int32 → Int32} {o w : Int32} (ho : ∀ st, ev_step ev o st = some (w :: st)) : ev_val ev [o] w := by
  intro st
  rw [ev_run, ho, Option.bind_some]
  rfl
theorem ev_op {ev : Int32 → Int32} {o a b : Int32} {st : List Int32} (h : o = -Int32.ofNat 10 ∨ o = -Int32.ofNat 11 ∨ o = -Int32.ofNat 12 ∨ o = -Int32.ofNat 13 ∨ o = -Int32.ofNat 14 ∨ o = -Int32.ofNat 15 ∨ o = -Int32.ofNat 16) : ev_step ev o (b :: a :: st) = some (ev_join o a b :: st) := by
  unfold ev_step
  rcases h with rfl | rfl | rfl | rfl | rfl | rfl | rfl <;> rw [if_neg (by decide), if_neg (by decide)]
theorem ev_neg {ev : Int32 → Int32} {a : Int32} {st : List Int32} : ev_step ev (-Int32.ofNat 20) (a :: st) = some (-a :: st) := by
  unfold ev_step
  rw [if_neg (by decide), if_pos (by decide)]
  simp only
  rw [if_neg (by decide)]
theorem ev_not {ev : Int32 → Int32} {a : Int32} {st : List Int32} : ev_step ev (-Int32.ofNat 21) (a :: st) = some ((if a = Int32.ofNat 0 then Int32.ofNat 1 else Int32.ofNat 0) :: st) := by
  unfold ev_step
  rw [if_neg (by decide), if_pos (by decide)]
  simp only [if_true]
theorem ev_num {ev : Int32 → Int32} {m : Nat} (h : m < 2147483648) {st : List Int32} : ev_step ev (Int32.ofNat m) st = some (Int32.ofNat m :: st) := by
  unfold ev_step
  have h0 : Int32.ofNat 0 ≤ Int32.ofNat m := ly_nn h
  rw [if_pos (by rw [i3_Nle h (by decide)]; trivial), if_pos h0]
theorem ev_name {ev : Int32 → Int32} {w : Nat} (h : w < 6) {st : List Int32} : ev_step ev (-Int32.ofNat 1 - Int32.ofNat w) st = some (ev (Int32.ofNat w) :: st) := by
  unfold ev_step
  have : w = 0 ∨ w = 1 ∨ w = 2 ∨ w = 3 ∨ w = 4 ∨ w = 5 := by omega
  rcases this with rfl | rfl | rfl | rfl | rfl | rfl <;> rfl
/-- the NAMES of the NIGHT that the reference's reader is about -/
def mr_e (ev : Int32 → Int32) (C : Nat → Nat → Int32) : Prop := ∃ i, i < 40 ∧ C 31 37 = Int32.ofNat i ∧ ev (Int32.ofNat 0) = C 43 i ∧ ev (Int32.ofNat 1) = C 44 i ∧ ev (Int32.ofNat 2) = C 45 i ∧ ev (Int32.ofNat 3) = C 46 i ∧ ev (Int32.ofNat 4) = C 47 i ∧ ev (Int32.ofNat 5) = C 48 i
def mr_f2 (C C' : Nat → Nat → Int32) : Prop := ∀ k j, ¬ (k = 31 ∧ (j = 30 ∨ j = 31 ∨ j = 33 ∨ j = 34 ∨ j = 35 ∨ j = 36)) → C' k j = C k j
theorem mr_f2_tr {C C' C'' : Nat → Nat → Int32} (h : mr_f2 C C') (h' : mr_f2 C' C'') : mr_f2 C C'' := fun k j hk => (h' k j hk).trans (h k j hk)
theorem mr_fl_tr {C C' C'' : Nat → Nat → Int64} (h : mr_fl C C') (h' : mr_fl C' C'') : mr_fl C C'' := fun k j hk => (h' k j hk).trans (h k j hk)
theorem mr_f2_rf {C : Nat → Nat → Int32} : mr_f2 C C := fun _ _ _ => rfl
theorem mr_fl_rf {C : Nat → Nat → Int64} : mr_fl C C := fun _ _ _ => rfl
theorem mr_f2_fr {C C' : Nat → Nat → Int32} (h : mr_fr C C') : mr_f2 C C' := fun k j hk => h k j (by omega)
theorem mr_f2_ux {C : Nat → Nat → Int32} {j : Nat} {v : Int32} (h : j = 30 ∨ j = 31 ∨ j = 33 ∨ j = 34 ∨ j = 35 ∨ j = 36) : mr_f2 C (ux C 31 j v) := fun k i hk => by rw [ux_eq, if_neg (by omega)]
theorem mr_e_f2 {ev : Int32 → Int32} {C C' : Nat → Nat → Int32} (h : mr_e ev C) (hf : mr_f2 C C') : mr_e ev C' := by
  obtain ⟨i, h1, h2, h3, h4, h5, h6, h7, h8⟩ := h
  refine ⟨i, h1, ?_, ?_, ?_, ?_, ?_, ?_, ?_⟩
  · rw [hf 31 37 (by omega)]; exact h2
  · rw [hf 43 i (by omega)]; exact h3
  · rw [hf 44 i (by omega)]; exact h4
  · rw [hf 45 i (by omega)]; exact h5
  · rw [hf 46 i (by omega)]; exact h6
  · rw [hf 47 i (by omega)]; exact h7
  · rw [hf 48 i (by omega)]; exact h8
theorem mr_B_f2 {b : Nat → Nat} {n X : Nat} {C C' : Nat → Nat → Int32} (h : mr_B b n X C) (hf : mr_f2 C C') : mr_B b n X C' := by
  obtain ⟨a1, a2, a3, a4, a5, a6⟩ := h
  exact ⟨(hf 31 28 (by omega)).trans a1, (hf 31 29 (by omega)).trans a2, a3, a4, a5, fun j hj => (hf 32 (160 * X + j) (by omega)).trans (a6 j hj)⟩
theorem mr_at_ux {b : Nat → Nat} {n X s : Nat} {C : Nat → Nat → Int32} {L : Nat → Nat → Int64} {j : Nat} {v : Int32} (h : mr_at b n X s C L) (hj : j = 34 ∨ j = 35 ∨ j = 36) : mr_at b n X s (ux C 31 j v) L := by
  obtain ⟨h0, h1, h2, h3, h4, h5⟩ := h
  refine ⟨mr_ux h0 (by omega) (by omega), h1, ?_, ?_, h4, fun e => ?_⟩
  · rw [ux_eq, if_neg (by omega)]; exact h2
  · rw [ux_eq, if_neg (by omega)]; exact h3
  · rw [ux_eq, if_neg (by omega)]; exact h5 e
def mr_res (x : Nat) (Z : ly_Z) (R : Nat → Nat → Option Nat) (D : am_M) (b : Nat → Nat) (n X : Nat) (ev : Int32 → Int32) (o : Nat) (run : Option am_R) (r : pa_R) (C : Nat → Nat → Int32) (L : Nat → Nat → Int64) : Prop := match r with
  | .inl (c, t) => ∃ C' L' v, run = some (some (.int v), am_mk x true Z C' L' R D) ∧ ev_val ev c v ∧ mr_at b n X t C' L' ∧ C' 31 35 = Int32.ofNat 0 ∧ C' 31 34 = Int32.ofNat o ∧ mr_f2 C C' ∧ mr_fl L L'
  | .inr e => ∃ C' L' v, run = some (some (.int v), am_mk x true Z C' L' R D) ∧ C' 31 35 = Int32.ofNat 1 ∧ C' 31 36 = Int32.ofNat e ∧ mr_f2 C C' ∧ mr_fl L L'
theorem mr_res_tr {x : Nat} {Z : ly_Z} {R : Nat → Nat → Option Nat} {D : am_M} {b : Nat → Nat} {n X : Nat} {ev : Int32 → Int32} {o : Nat} {run : Option am_R} {r : pa_R} {C C' : Nat → Nat → Int32} {L L' : Nat → Nat → Int64} (hf : mr_f2 C C') (hl : mr_fl L L') (h : mr_res x Z R D b n X ev o run r C' L') : mr_res x Z R D b n X ev o run r C L := by
  cases r with
  | inl q =>
    obtain ⟨c, t⟩ := q
    obtain ⟨C1, L1, v, h1, h2, h3, h4, h5, h6, h7⟩ := h
    exact ⟨C1, L1, v, h1, h2, h3, h4, h5, mr_f2_tr hf h6, mr_fl_tr hl h7⟩
  | inr e =>
    obtain ⟨C1, L1, v, h1, h2, h3, h4, h5⟩ := h
    exact ⟨C1, L1, v, h1, h2, h3, mr_f2_tr hf h4, mr_fl_tr hl h5⟩
def mr_rd (G : Nat → Value) (x : Nat) (Z : ly_Z) (R : Nat → Nat → Option Nat) (D : am_M) (b : Nat → Nat) (n X : Nat) (ev : Int32 → Int32) (K lo o : Nat) (P : Nat → pa_R) : Prop := ∀ d, lo ≤ d → ∀ (C : Nat → Nat → Int32) (L : Nat → Nat → Int64) (s : Nat), mr_at b n X s C L → C 31 35 = Int32.ofNat 0 → C 31 34 = Int32.ofNat o → mr_e ev C → mr_res x Z R D b n X ev o (am_ex G d K [.ref (x + 31)] (am_mk x true Z C L R D)) (P s) C L
theorem mr_rd_mono {G : Nat → Value} {x : Nat} {Z : ly_Z} {R : Nat → Nat → Option Nat} {D : am_M} {b : Nat → Nat} {n X : Nat} {ev : Int32 → Int32} {K lo lo' o : Nat} {P : Nat → pa_R} (h : mr_rd G x Z R D b n X ev K lo o P) (hl : lo ≤ lo') : mr_rd G x Z R D b n X ev K lo' o P := fun d hd => h d (Nat.le_trans hl hd)
section
variable {G : Nat → Value} {d x : Nat} {Z : ly_Z} {C : Nat → Nat → Int32} {L : Nat → Nat → Int64} {R : Nat → Nat → Option Nat} {D : am_M} {b : Nat → Nat} {n X : Nat}
theorem x_M_nx {s : Nat} (h : mr_at b n X s C L) (ht : ¬ pa_tk b n s = 257) : ∃ C' L', am_ex G (d + 2) K_M_next [.ref (x + 31)] (am_mk x true Z C L R D) = some (none, am_mk x true Z C' L' R D) ∧ mr_at b n X (pa_nx b n s) C' L' ∧ mr_fr C C' ∧ mr_fl L L' := x_M_next h.1 (h.2.2.2.2.2 ht) (pa_te_le h.2.1).2.1
theorem x_M_opens_f {s : Nat} (h : mr_at b n X s C L) (h0 : C 31 35 = Int32.ofNat 0) (ho : C 31 34 = Int32.ofNat 5) : am_ex G (d + 2) K_M_opens [.ref (x + 31)] (am_mk x true Z C L R D) = some (some (.int (Int32.ofNat 0)), am_mk x true Z (ux (ux C 31 35 (Int32.ofNat 1)) 31 36 (Int32.ofNat s)) L R D) := by
  simp only [e_M_opens, r_M_opens_0, r_M_opens_1, r_M_opens_4, r_M_opens_5, r_M_opens_8, r_M_opens_9, r_M_opens_12, r_M_opens_13, r_M_opens_14, r_M_opens_15, r_M_opens_16, r_M_opens_19, r_M_opens_20, r_M_opens_21, r_M_opens_24, r_M_opens_25, r_M_opens_28, r_M_opens_29, ly_g31_34, ly_k31, ly_p31_34, i3n_0, i3n_1, i3n_5, l6n_0, l6n_1, am_kf_s, am_km_s, am_kn_s, am_k_v, am_k_0, am_isr_r, am_isr_n, am_isr_v, am_sw_0, am_sw_i, am_sw_l, am_sw_r, am_sw_n, am_sw_v, am_ct_i, am_ct_r, am_ct_n, am_c1_o, am_c1_n, am_c1_i, am_c1_r, am_c1_v, am_mk_1, lc_lt, lc_gt, lc_eq, lc_le, lc_ge, i01_eq, i01_ok, ite_not, true_or, or_true, true_and, and_true, false_or, or_false, false_and, and_false, if_true, if_false, not_true_eq_false, not_false_eq_true, eq_self, Nat.reduceAdd, Nat.reduceLeDiff, Nat.reduceLT, Nat.reduceEqDiff, Nat.reduceMul, Nat.reduceSub, Nat.reduceDiv, Nat.reduceMod, reduceCtorEq, Nat.zero_le, i3_le, i3_lt, i3_eq, i3_eqN, i3_leN, i3_Nle, i3_ltN, i3_NleN, i3_NeqN, i3_Neq, i3_NltN, i3_Nlt, l6_le, l6_lt, l6_eq, l6_leN, l6_Nle, l6_ltN, l6_Nlt, l6_eqN, l6_Neq, ho, x_M_fail h0 h.2.2.1]
theorem x_M_opens {s o : Nat} (h : mr_at b n X s C L) (ht : ¬ pa_tk b n s = 257) (h0 : C 31 35 = Int32.ofNat 0) (ho : C 31 34 = Int32.ofNat o) (ho5 : o < 5) : ∃ C' L', am_ex G (d + 3) K_M_opens [.ref (x + 31)] (am_mk x true Z C L R D) = some (some (.int (Int32.ofNat 1)), am_mk x true Z C' L' R D) ∧ mr_at b n X (pa_nx b n s) C' L' ∧ C' 31 35 = Int32.ofNat 0 ∧ C' 31 34 = Int32.ofNat (o + 1) ∧ mr_f2 C C' ∧ mr_fl L L' := by
  obtain ⟨C1, L1, e1, at1, f1, g1⟩ := x_M_nx (G := G) (d := d) (x := x) (Z := Z) (R := R) (D := D) (mr_at_ux (j := 34) (v := Int32.ofNat (o + 1)) h (Or.inl rfl)) ht
  have a1 : o < 2147483648 := by omega
  have a2 : ¬ o = 5 := by omega
  refine ⟨C1, L1, ?_, at1, ?_, ?_, mr_f2_tr (mr_f2_ux (by omega)) (mr_f2_fr f1), g1⟩
  · simp only [e_M_opens, r_M_opens_0, r_M_opens_1, r_M_opens_4, r_M_opens_5, r_M_opens_8, r_M_opens_9, r_M_opens_12, r_M_opens_13, r_M_opens_14, r_M_opens_15, r_M_opens_16, r_M_opens_19, r_M_opens_20, r_M_opens_21, r_M_opens_24, r_M_opens_25, r_M_opens_28, r_M_opens_29, ly_g31_34, ly_k31, ly_p31_34, i3n_0, i3n_1, i3n_5, l6n_0, l6n_1, am_kf_s, am_km_s, am_kn_s, am_k_v, am_k_0, am_isr_r, am_isr_n, am_isr_v, am_sw_0, am_sw_i, am_sw_l, am_sw_r, am_sw_n, am_sw_v, am_ct_i, am_ct_r, am_ct_n, am_c1_o, am_c1_n, am_c1_i, am_c1_r, am_c1_v, am_mk_1, lc_lt, lc_gt, lc_eq, lc_le, lc_ge, i01_eq, i01_ok, ite_not, true_or, or_true, true_and, and_true, false_or, or_false, false_and, and_false, if_true, if_false, not_true_eq_false, not_false_eq_true, eq_self, Nat.reduceAdd, Nat.reduceLeDiff, Nat.reduceLT, Nat.reduceEqDiff, Nat.reduceMul, Nat.reduceSub, Nat.reduceDiv, Nat.reduceMod, reduceCtorEq, Nat.zero_le, i3_le, i3_lt, i3_eq, i3_eqN, i3_leN, i3_Nle, i3_ltN, i3_NleN, i3_NeqN, i3_Neq, i3_NltN, i3_Nlt, l6_le, l6_lt, l6_eq, l6_leN, l6_Nle, l6_ltN, l6_Nlt, l6_eqN, l6_Neq, ho, a1, a2, i3_add, e1]
  · rw [f1 31 35 (by omega), ux_eq, if_neg (by omega)]; exact h0
  · rw [f1 31 34 (by omega), ux_eq, if_pos ⟨rfl, rfl⟩]
theorem mr_W_at : mr_W.getD 0 0 = 223456 ∧ mr_W.getD 1 0 = 158529 ∧ mr_W.getD 2 0 = 8694872 ∧ mr_W.getD 3 0 = 257011 ∧ mr_W.getD 4 0 = 400577 ∧ mr_W.getD 5 0 = 10819228 ∧ mr_W.getD 6 0 = 237470 ∧ mr_W.getD 7 0 = 6477035 ∧ mr_W.getD 8 0 = 423 ∧ mr_W.getD 9 0 = 1111 ∧ mr_W.getD 10 0 = 10631 := by decide
theorem x_M_name {s : Nat} {ev : Int32 → Int32} (h : mr_at b n X s C L) (h0 : C 31 35 = Int32.ofNat 0) (he : mr_e ev C) (ht : pa_tk b n s = 259) (hv : pa_tv b n s < 6) : am_ex G (d + 2) K_M_name [.ref (x + 31)] (am_mk x true Z C L R D) = some (some (.int (ev (Int32.ofNat (pa_tv b n s)))), am_mk x true Z C L R D) := by
  obtain ⟨i, i1, i2, i3, i4, i5, i6, i7, i8⟩ := he
  have w0 := x_M_isWordN (G := G) (d := d) (x := x) (Z := Z) (R := R) (D := D) (w := 0) h h0 (by decide)
  have w1 := x_M_isWordN (G := G) (d := d) (x := x) (Z := Z) (R := R) (D := D) (w := 1) h h0 (by decide)
  have w2 := x_M_isWordN (G := G) (d := d) (x := x) (Z := Z) (R := R) (D := D) (w := 2) h h0 (by decide)
  have w3 := x_M_isWordN (G := G) (d := d) (x := x) (Z := Z) (R := R) (D := D) (w := 3) h h0 (by decide)
  have w4 := x_M_isWordN (G := G) (d := d) (x := x) (Z := Z) (R := R) (D := D) (w := 4) h h0 (by decide)
  have w5 := x_M_isWordN (G := G) (d := d) (x := x) (Z := Z) (R := R) (D := D) (w := 5) h h0 (by decide)
  obtain ⟨q0, q1, q2, q3, q4, q5, -⟩ := mr_W_at
  rw [q0] at w0
  rw [q1] at w1
  rw [q2] at w2
  rw [q3] at w3
  rw [q4] at w4
  rw [q5] at w5
  generalize pa_tv b n s = w at *
  have : w = 0 ∨ w = 1 ∨ w = 2 ∨ w = 3 ∨ w = 4 ∨ w = 5 := by omega
  rcases this with rfl | rfl | rfl | rfl | rfl | rfl <;> simp only [e_M_name, r_M_name_0, r_M_name_1, r_M_name_4, r_M_name_7, r_M_name_10, r_M_name_11, r_M_name_14, r_M_name_15, r_M_name_18, r_M_name_19, r_M_name_20, r_M_name_21, r_M_name_24, r_M_name_27, r_M_name_30, r_M_name_31, r_M_name_34, r_M_name_35, r_M_name_38, r_M_name_39, r_M_name_40, r_M_name_41, r_M_name_44, r_M_name_47, r_M_name_50, r_M_name_51, r_M_name_54, r_M_name_55, r_M_name_58, r_M_name_59, r_M_name_60, r_M_name_61, r_M_name_64, r_M_name_67, r_M_name_70, r_M_name_71, r_M_name_74, r_M_name_75, r_M_name_78, r_M_name_79, r_M_name_80, r_M_name_81, r_M_name_84, r_M_name_87, r_M_name_90, r_M_name_91, r_M_name_94, r_M_name_95, r_M_name_98, r_M_name_99, r_M_name_100, r_M_name_101, r_M_name_104, r_M_name_107, r_M_name_110, r_M_name_111, r_M_name_114, r_M_name_115, r_M_name_118, r_M_name_119, r_M_name_120, r_M_name_121, r_M_name_124, r_M_name_125, ly_k31, ly_g31_21, ly_n43, ly_r43, ly_w43, ly_g31_37, ly_g31_24, ly_n46, ly_r46, ly_w46, ly_g31_23, ly_n45, ly_r45, ly_w45, ly_g31_22, ly_n44, ly_r44, ly_w44, ly_g31_25, ly_n47, ly_r47, ly_w47, ly_g31_26, ly_n48, ly_r48, ly_w48, i3n_0, i3n_1, l6n_0, l6n_1, l6n_158529, l6n_223456, l6n_257011, l6n_400577, l6n_8694872, l6n_10819228, am_kf_s, am_km_s, am_kn_s, am_k_v, am_k_0, am_isr_r, am_isr_n, am_isr_v, am_sw_0, am_sw_i, am_sw_l, am_sw_r, am_sw_n, am_sw_v, am_ct_i, am_ct_r, am_ct_n, am_c1_o, am_c1_n, am_c1_i, am_c1_r, am_c1_v, am_mk_1, lc_lt, lc_gt, lc_eq, lc_le, lc_ge, i01_eq, i01_ok, ite_not, true_or, or_true, true_and, and_true, false_or, or_false, false_and, and_false, if_true, if_false, not_true_eq_false, not_false_eq_true, eq_self, Nat.reduceAdd, Nat.reduceLeDiff, Nat.reduceLT, Nat.reduceEqDiff, Nat.reduceMul, Nat.reduceSub, Nat.reduceDiv, Nat.reduceMod, reduceCtorEq, Nat.zero_le, i3_le, i3_lt, i3_eq, i3_eqN, i3_leN, i3_Nle, i3_ltN, i3_NleN, i3_NeqN, i3_Neq, i3_NltN, i3_Nlt, l6_le, l6_lt, l6_eq, l6_leN, l6_Nle, l6_ltN, l6_Nlt, l6_eqN, l6_Neq, ht, w0, w1, w2, w3, w4, w5, i1, i2, i3, i4, i5, i6, i7, i8]
theorem x_M_name_f {s : Nat} (h : mr_at b n X s C L) (h0 : C 31 35 = Int32.ofNat 0) (ht : ¬ pa_tk b n s = 259) : am_ex G (d + 2) K_M_name [.ref (x + 31)] (am_mk x true Z C L R D) = some (some (.int (Int32.ofNat 0)), am_mk x true Z (ux (ux C 31 35 (Int32.ofNat 1)) 31 36 (Int32.ofNat s)) L R D) := by
  have w0 := x_M_isWordN (G := G) (d := d) (x := x) (Z := Z) (R := R) (D := D) (w := 0) h h0 (by decide)
  have w1 := x_M_isWordN (G := G) (d := d) (x := x) (Z := Z) (R := R) (D := D) (w := 1) h h0 (by decide)
  have w2 := x_M_isWordN (G := G) (d := d) (x := x) (Z := Z) (R := R) (D := D) (w := 2) h h0 (by decide)
  have w3 := x_M_isWordN (G := G) (d := d) (x := x) (Z := Z) (R := R) (D := D) (w := 3) h h0 (by decide)
  have w4 := x_M_isWordN (G := G) (d := d) (x := x) (Z := Z) (R := R) (D := D) (w := 4) h h0 (by decide)
  have w5 := x_M_isWordN (G := G) (d := d) (x := x) (Z := Z) (R := R) (D := D) (w := 5) h h0 (by decide)
  obtain ⟨q0, q1, q2, q3, q4, q5, -⟩ := mr_W_at
  rw [q0] at w0
  rw [q1] at w1
  rw [q2] at w2
  rw [q3] at w3
  rw [q4] at w4
  rw [q5] at w5
  simp only [e_M_name, r_M_name_0, r_M_name_1, r_M_name_4, r_M_name_7, r_M_name_10, r_M_name_11, r_M_name_14, r_M_name_15, r_M_name_18, r_M_name_19, r_M_name_20, r_M_name_21, r_M_name_24, r_M_name_27, r_M_name_30, r_M_name_31, r_M_name_34, r_M_name_35, r_M_name_38, r_M_name_39, r_M_name_40, r_M_name_41, r_M_name_44, r_M_name_47, r_M_name_50, r_M_name_51, r_M_name_54, r_M_name_55, r_M_name_58, r_M_name_59, r_M_name_60, r_M_name_61, r_M_name_64, r_M_name_67, r_M_name_70, r_M_name_71, r_M_name_74, r_M_name_75, r_M_name_78, r_M_name_79, r_M_name_80, r_M_name_81, r_M_name_84, r_M_name_87, r_M_name_90, r_M_name_91, r_M_name_94, r_M_name_95, r_M_name_98, r_M_name_99, r_M_name_100, r_M_name_101, r_M_name_104, r_M_name_107, r_M_name_110, r_M_name_111, r_M_name_114, r_M_name_115, r_M_name_118, r_M_name_119, r_M_name_120, r_M_name_121, r_M_name_124, r_M_name_125, ly_k31, ly_g31_21, ly_n43, ly_r43, ly_w43, ly_g31_37, ly_g31_24, ly_n46, ly_r46, ly_w46, ly_g31_23, ly_n45, ly_r45, ly_w45, ly_g31_22, ly_n44, ly_r44, ly_w44, ly_g31_25, ly_n47, ly_r47, ly_w47, ly_g31_26, ly_n48, ly_r48, ly_w48, i3n_0, i3n_1, l6n_0, l6n_1, l6n_158529, l6n_223456, l6n_257011, l6n_400577, l6n_8694872, l6n_10819228, am_kf_s, am_km_s, am_kn_s, am_k_v, am_k_0, am_isr_r, am_isr_n, am_isr_v, am_sw_0, am_sw_i, am_sw_l, am_sw_r, am_sw_n, am_sw_v, am_ct_i, am_ct_r, am_ct_n, am_c1_o, am_c1_n, am_c1_i, am_c1_r, am_c1_v, am_mk_1, lc_lt, lc_gt, lc_eq, lc_le, lc_ge, i01_eq, i01_ok, ite_not, true_or, or_true, true_and, and_true, false_or, or_false, false_and, and_false, if_true, if_false, not_true_eq_false, not_false_eq_true, eq_self, Nat.reduceAdd, Nat.reduceLeDiff, Nat.reduceLT, Nat.reduceEqDiff, Nat.reduceMul, Nat.reduceSub, Nat.reduceDiv, Nat.reduceMod, reduceCtorEq, Nat.zero_le, i3_le, i3_lt, i3_eq, i3_eqN, i3_leN, i3_Nle, i3_ltN, i3_NleN, i3_NeqN, i3_Neq, i3_NltN, i3_Nlt, l6_le, l6_lt, l6_eq, l6_leN, l6_Nle, l6_ltN, l6_Nlt, l6_eqN, l6_Neq, ht, w0, w1, w2, w3, w4, w5, x_M_fail h0 h.2.2.1]
end
