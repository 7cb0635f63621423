/-! cells with tags (printed by wip/whole/gen_dyn.py) -/
/-- q is where the tag t stands; its kind is k -/
def ly_is (x : Nat) (b : Bool) (Z : ly_Z) (q t k : Nat) : Prop := ly_ok x b Z t ∧ Z.2 t = q ∧ t / 1000 = k
theorem va_rf_s {a : Nat} : va_rf (some a) = .ref a := by cases a <;> rfl
theorem va_rf_n : va_rf none = .null := by
  cases h : va_rf none with
  | null => rfl
  | ref q => cases h
  | _ => cases h
theorem am_opt_lt {n : Nat} (h : n < 1000) : (0 : Int32) ≤ Int32.ofNat n ∧ (Int32.ofNat n).toNatClampNeg = n := ⟨ly_nn (by omega), i3_clamp (by omega)⟩
section
variable {x : Nat} {b : Bool} {Z : ly_Z} {C : Nat → Nat → Int32} {L : Nat → Nat → Int64} {R : Nat → Nat → Option Nat} {D : am_M} {q t : Nat}
theorem ly_dc {k : Nat} (h : ly_is x b Z q t k) : (am_mk x b Z C L R D).2 q = some (ly_D k (C t) (L t) (R t)) := by
  obtain ⟨h1, h2, h3⟩ := h
  rw [← h2, ← h3]
  exact ly_getd h1
theorem ly_ds {k : Nat} {f : Nat → Int32} {g : Nat → Int64} {r : Nat → Option Nat} (h : ly_is x b Z q t k) : am_set (am_mk x b Z C L R D) q (ly_D k f g r) = am_mk x b Z (uk C t f) (uk L t g) (uk R t r) D := by
  obtain ⟨h1, h2, h3⟩ := h
  rw [← h2, ← h3]
  exact ly_putd h1
theorem ly_is_new {k : Nat} (hs : ¬ (x ≤ q ∧ ly_st b (q - x) = true)) (ht : 1000 ≤ t) (hk : t / 1000 = k) : ly_is x b (ly_new Z q t) q t k := ⟨ly_new_ok hs ht, by rw [ly_new_2, if_pos rfl], hk⟩
theorem ly_is_old {k q' t' : Nat} (h : ly_is x b Z q t k) (ht : ¬ t = t') (hq : ¬ q = q') : ly_is x b (ly_new Z q' t') q t k := by
  obtain ⟨h1, h2, h3⟩ := h
  refine ⟨ly_new_old h1 ht (by rw [h2]; exact hq), ?_, h3⟩
  rw [ly_new_2, if_neg ht]; exact h2
theorem ly_newa {n : Nat} (hn : n ≤ 1000) {M : am_M} : am_newa (some (0, .inl (fun _ => Int32.ofNat 0))) (Int32.ofNat n) M = some (am_add M (.inl (0, n, .inl (fun _ => Int32.ofNat 0)))) := by
  have e : (Int32.ofNat n).toNatClampNeg = n := i3_clamp (by omega)
  unfold am_newa
  simp only [e]
  rw [if_pos ⟨ly_nn (by omega), hn⟩]

theorem ly_dk1 (h : ly_is x b Z q t 1) : am_cls (am_mk x b Z C L R D) q = some 6 := by rw [am_cls, ly_dc h]; rfl
theorem ly_a1 (ht : 1000 ≤ t) (hk : t / 1000 = 1) (hs : ¬ (x ≤ D.1 ∧ ly_st b (D.1 - x) = true)) : am_add (am_mk x b Z C L R D) (.inr (6, [.int (Int32.ofNat 0), .int (Int32.ofNat 0)])) = am_mk x b (ly_new Z D.1 t) (uk C t (fun _ => Int32.ofNat 0)) (uk L t (fun _ => Int64.ofNat 0)) (uk R t (fun _ => none)) (ly_fz x Z C L R D t) := by
  have := ly_add (x := x) (b := b) (Z := Z) (C := C) (L := L) (R := R) (D := D) (t := t) (f := fun _ => Int32.ofNat 0) (g := fun _ => Int64.ofNat 0) (r := fun _ => none) ht hs
  rw [hk] at this
  exact this
theorem ly_dg1_0 (h : ly_is x b Z q t 1) : am_fld (am_mk x b Z C L R D) q 6 0 = some (.int (C t 0)) := by rw [am_fld, ly_dc h]; rfl
theorem ly_dp1_0 {v : Int32} (h : ly_is x b Z q t 1) : am_pf (am_mk x b Z C L R D) q 6 0 .int (.int v) = some (am_mk x b Z (ux C t 0 v) L R D) := by
  rw [am_pf, ly_dc h]
  simp only [ly_D]
  rw [if_pos ⟨trivial, by simp only [List.length_cons, List.length_nil]; decide, rfl⟩, ← uk_upd]
  exact congrArg some ((ly_ds (f := upd (C t) 0 v) (g := L t) (r := R t) h).trans (by rw [uk_self, uk_self]))
theorem ly_dg1_1 (h : ly_is x b Z q t 1) : am_fld (am_mk x b Z C L R D) q 6 1 = some (.int (C t 1)) := by rw [am_fld, ly_dc h]; rfl
theorem ly_dp1_1 {v : Int32} (h : ly_is x b Z q t 1) : am_pf (am_mk x b Z C L R D) q 6 1 .int (.int v) = some (am_mk x b Z (ux C t 1 v) L R D) := by
  rw [am_pf, ly_dc h]
  simp only [ly_D]
  rw [if_pos ⟨trivial, by simp only [List.length_cons, List.length_nil]; decide, rfl⟩, ← uk_upd]
  exact congrArg some ((ly_ds (f := upd (C t) 1 v) (g := L t) (r := R t) h).trans (by rw [uk_self, uk_self]))
theorem ly_dk2 (h : ly_is x b Z q t 2) : am_cls (am_mk x b Z C L R D) q = some 2 := by rw [am_cls, ly_dc h]; rfl
theorem ly_a2 (ht : 1000 ≤ t) (hk : t / 1000 = 2) (hs : ¬ (x ≤ D.1 ∧ ly_st b (D.1 - x) = true)) : am_add (am_mk x b Z C L R D) (.inr (2, [.int (Int32.ofNat 0), .int (Int32.ofNat 0), .int (Int32.ofNat 0), .null, .null, .int (Int32.ofNat 0), .null, .int (Int32.ofNat 0)])) = am_mk x b (ly_new Z D.1 t) (uk C t (fun _ => Int32.ofNat 0)) (uk L t (fun _ => Int64.ofNat 0)) (uk R t (fun _ => none)) (ly_fz x Z C L R D t) := by
  have := ly_add (x := x) (b := b) (Z := Z) (C := C) (L := L) (R := R) (D := D) (t := t) (f := fun _ => Int32.ofNat 0) (g := fun _ => Int64.ofNat 0) (r := fun _ => none) ht hs
  rw [hk] at this
  exact this
theorem ly_dg2_0 (h : ly_is x b Z q t 2) : am_fld (am_mk x b Z C L R D) q 2 0 = some (.int (C t 0)) := by rw [am_fld, ly_dc h]; rfl
theorem ly_dp2_0 {v : Int32} (h : ly_is x b Z q t 2) : am_pf (am_mk x b Z C L R D) q 2 0 .int (.int v) = some (am_mk x b Z (ux C t 0 v) L R D) := by
  rw [am_pf, ly_dc h]
  simp only [ly_D]
  rw [if_pos ⟨trivial, by simp only [List.length_cons, List.length_nil]; decide, rfl⟩, ← uk_upd]
  exact congrArg some ((ly_ds (f := upd (C t) 0 v) (g := L t) (r := R t) h).trans (by rw [uk_self, uk_self]))
theorem ly_dg2_1 (h : ly_is x b Z q t 2) : am_fld (am_mk x b Z C L R D) q 2 1 = some (.int (C t 1)) := by rw [am_fld, ly_dc h]; rfl
theorem ly_dp2_1 {v : Int32} (h : ly_is x b Z q t 2) : am_pf (am_mk x b Z C L R D) q 2 1 .int (.int v) = some (am_mk x b Z (ux C t 1 v) L R D) := by
  rw [am_pf, ly_dc h]
  simp only [ly_D]
  rw [if_pos ⟨trivial, by simp only [List.length_cons, List.length_nil]; decide, rfl⟩, ← uk_upd]
  exact congrArg some ((ly_ds (f := upd (C t) 1 v) (g := L t) (r := R t) h).trans (by rw [uk_self, uk_self]))
theorem ly_dg2_2 (h : ly_is x b Z q t 2) : am_fld (am_mk x b Z C L R D) q 2 2 = some (.int (C t 2)) := by rw [am_fld, ly_dc h]; rfl
theorem ly_dp2_2 {v : Int32} (h : ly_is x b Z q t 2) : am_pf (am_mk x b Z C L R D) q 2 2 .int (.int v) = some (am_mk x b Z (ux C t 2 v) L R D) := by
  rw [am_pf, ly_dc h]
  simp only [ly_D]
  rw [if_pos ⟨trivial, by simp only [List.length_cons, List.length_nil]; decide, rfl⟩, ← uk_upd]
  exact congrArg some ((ly_ds (f := upd (C t) 2 v) (g := L t) (r := R t) h).trans (by rw [uk_self, uk_self]))
theorem ly_dg2_3 (h : ly_is x b Z q t 2) : am_fld (am_mk x b Z C L R D) q 2 3 = some (va_rf (R t 3)) := by rw [am_fld, ly_dc h]; rfl
theorem ly_dp2_3 {v : Nat} (h : ly_is x b Z q t 2) : am_pf (am_mk x b Z C L R D) q 2 3 (am_fty 2 3) (.ref v) = some (am_mk x b Z C L (ux R t 3 (some v)) D) := by
  rw [am_pf, ly_dc h]
  simp only [ly_D]
  rw [if_pos ⟨trivial, by simp only [List.length_cons, List.length_nil]; decide, rfl⟩, ← uk_up]
  exact congrArg some ((ly_ds (f := C t) (g := L t) (r := va_up (R t) 3 (some v)) h).trans (by rw [uk_self, uk_self]))
theorem ly_dg2_4 (h : ly_is x b Z q t 2) : am_fld (am_mk x b Z C L R D) q 2 4 = some (va_rf (R t 4)) := by rw [am_fld, ly_dc h]; rfl
theorem ly_dp2_4 {v : Nat} (h : ly_is x b Z q t 2) : am_pf (am_mk x b Z C L R D) q 2 4 (am_fty 2 4) (.ref v) = some (am_mk x b Z C L (ux R t 4 (some v)) D) := by
  rw [am_pf, ly_dc h]
  simp only [ly_D]
  rw [if_pos ⟨trivial, by simp only [List.length_cons, List.length_nil]; decide, rfl⟩, ← uk_up]
  exact congrArg some ((ly_ds (f := C t) (g := L t) (r := va_up (R t) 4 (some v)) h).trans (by rw [uk_self, uk_self]))
theorem ly_dg2_5 (h : ly_is x b Z q t 2) : am_fld (am_mk x b Z C L R D) q 2 5 = some (.int (C t 5)) := by rw [am_fld, ly_dc h]; rfl
theorem ly_dp2_5 {v : Int32} (h : ly_is x b Z q t 2) : am_pf (am_mk x b Z C L R D) q 2 5 .int (.int v) = some (am_mk x b Z (ux C t 5 v) L R D) := by
  rw [am_pf, ly_dc h]
  simp only [ly_D]
  rw [if_pos ⟨trivial, by simp only [List.length_cons, List.length_nil]; decide, rfl⟩, ← uk_upd]
  exact congrArg some ((ly_ds (f := upd (C t) 5 v) (g := L t) (r := R t) h).trans (by rw [uk_self, uk_self]))
theorem ly_dg2_6 (h : ly_is x b Z q t 2) : am_fld (am_mk x b Z C L R D) q 2 6 = some (va_rf (R t 6)) := by rw [am_fld, ly_dc h]; rfl
theorem ly_dp2_6 {v : Nat} (h : ly_is x b Z q t 2) : am_pf (am_mk x b Z C L R D) q 2 6 (am_fty 2 6) (.ref v) = some (am_mk x b Z C L (ux R t 6 (some v)) D) := by
  rw [am_pf, ly_dc h]
  simp only [ly_D]
  rw [if_pos ⟨trivial, by simp only [List.length_cons, List.length_nil]; decide, rfl⟩, ← uk_up]
  exact congrArg some ((ly_ds (f := C t) (g := L t) (r := va_up (R t) 6 (some v)) h).trans (by rw [uk_self, uk_self]))
theorem ly_dg2_7 (h : ly_is x b Z q t 2) : am_fld (am_mk x b Z C L R D) q 2 7 = some (.int (C t 7)) := by rw [am_fld, ly_dc h]; rfl
theorem ly_dp2_7 {v : Int32} (h : ly_is x b Z q t 2) : am_pf (am_mk x b Z C L R D) q 2 7 .int (.int v) = some (am_mk x b Z (ux C t 7 v) L R D) := by
  rw [am_pf, ly_dc h]
  simp only [ly_D]
  rw [if_pos ⟨trivial, by simp only [List.length_cons, List.length_nil]; decide, rfl⟩, ← uk_upd]
  exact congrArg some ((ly_ds (f := upd (C t) 7 v) (g := L t) (r := R t) h).trans (by rw [uk_self, uk_self]))
theorem ly_dc3 (h : ly_is x b Z q t 3) : (am_mk x b Z C L R D).2 q = some (.inl (0, 6, .inl (C t))) := by
  rw [ly_dc h]; rfl
theorem ly_dn3 (h : ly_is x b Z q t 3) : am_len (am_mk x b Z C L R D) q = some 6 := by rw [am_len, ly_dc3 h]
theorem ly_dr3 (h : ly_is x b Z q t 3) {j : Nat} (hj : j < 6) (hm : j < 2147483648) : am_ag 0 (am_mk x b Z C L R D) q (Int32.ofNat j) = some (.int (C t j)) := by
  have e : (Int32.ofNat j).toNatClampNeg = j := i3_clamp hm
  rw [am_ag, ly_dc3 h]
  simp only [e]
  rw [if_pos ⟨rfl, ly_nn hm, hj⟩]
  rfl
theorem ly_dw3 (h : ly_is x b Z q t 3) {j : Nat} {v : Int32} (hj : j < 6) (hm : j < 2147483648) : am_pi (am_mk x b Z C L R D) q (Int32.ofNat j) v = some (am_mk x b Z (ux C t j v) L R D) := by
  have e : (Int32.ofNat j).toNatClampNeg = j := i3_clamp hm
  rw [am_pi, ly_dc3 h]
  simp only [e]
  rw [if_pos ⟨trivial, ly_nn hm, hj⟩, ← uk_upd]
  have := ly_ds (C := C) (L := L) (R := R) (D := D) (f := upd (C t) j v) (g := L t) (r := R t) h
  rw [uk_self, uk_self] at this
  rw [← this]
  rfl
theorem ly_a3 {n : Nat} (ht : 1000 ≤ t) (hk : t / 1000 = 3) (hn : n = 6) (hs : ¬ (x ≤ D.1 ∧ ly_st b (D.1 - x) = true)) : am_add (am_mk x b Z C L R D) (.inl (0, n, .inl (fun _ => Int32.ofNat 0))) = am_mk x b (ly_new Z D.1 t) (uk C t (fun _ => Int32.ofNat 0)) (uk L t (fun _ => Int64.ofNat 0)) (uk R t (fun _ => none)) (ly_fz x Z C L R D t) := by
  have := ly_add (x := x) (b := b) (Z := Z) (C := C) (L := L) (R := R) (D := D) (t := t) (f := fun _ => Int32.ofNat 0) (g := fun _ => Int64.ofNat 0) (r := (fun _ => none)) ht hs
  rw [hk] at this
  subst hn
  exact this
theorem ly_dc4 (h : ly_is x b Z q t 4) : (am_mk x b Z C L R D).2 q = some (.inl (0, 6, .inl (C t))) := by
  rw [ly_dc h]; rfl
theorem ly_dn4 (h : ly_is x b Z q t 4) : am_len (am_mk x b Z C L R D) q = some 6 := by rw [am_len, ly_dc4 h]
theorem ly_dr4 (h : ly_is x b Z q t 4) {j : Nat} (hj : j < 6) (hm : j < 2147483648) : am_ag 0 (am_mk x b Z C L R D) q (Int32.ofNat j) = some (.int (C t j)) := by
  have e : (Int32.ofNat j).toNatClampNeg = j := i3_clamp hm
  rw [am_ag, ly_dc4 h]
  simp only [e]
  rw [if_pos ⟨rfl, ly_nn hm, hj⟩]
  rfl
theorem ly_dw4 (h : ly_is x b Z q t 4) {j : Nat} {v : Int32} (hj : j < 6) (hm : j < 2147483648) : am_pi (am_mk x b Z C L R D) q (Int32.ofNat j) v = some (am_mk x b Z (ux C t j v) L R D) := by
  have e : (Int32.ofNat j).toNatClampNeg = j := i3_clamp hm
  rw [am_pi, ly_dc4 h]
  simp only [e]
  rw [if_pos ⟨trivial, ly_nn hm, hj⟩, ← uk_upd]
  have := ly_ds (C := C) (L := L) (R := R) (D := D) (f := upd (C t) j v) (g := L t) (r := R t) h
  rw [uk_self, uk_self] at this
  rw [← this]
  rfl
theorem ly_a4 {n : Nat} (ht : 1000 ≤ t) (hk : t / 1000 = 4) (hn : n = 6) (hs : ¬ (x ≤ D.1 ∧ ly_st b (D.1 - x) = true)) : am_add (am_mk x b Z C L R D) (.inl (0, n, .inl (fun _ => Int32.ofNat 0))) = am_mk x b (ly_new Z D.1 t) (uk C t (fun _ => Int32.ofNat 0)) (uk L t (fun _ => Int64.ofNat 0)) (uk R t (fun _ => none)) (ly_fz x Z C L R D t) := by
  have := ly_add (x := x) (b := b) (Z := Z) (C := C) (L := L) (R := R) (D := D) (t := t) (f := fun _ => Int32.ofNat 0) (g := fun _ => Int64.ofNat 0) (r := (fun _ => none)) ht hs
  rw [hk] at this
  subst hn
  exact this
theorem ly_dc5 (h : ly_is x b Z q t 5) : (am_mk x b Z C L R D).2 q = some (.inl (0, 6, .inl (C t))) := by
  rw [ly_dc h]; rfl
theorem ly_dn5 (h : ly_is x b Z q t 5) : am_len (am_mk x b Z C L R D) q = some 6 := by rw [am_len, ly_dc5 h]
theorem ly_dr5 (h : ly_is x b Z q t 5) {j : Nat} (hj : j < 6) (hm : j < 2147483648) : am_ag 0 (am_mk x b Z C L R D) q (Int32.ofNat j) = some (.int (C t j)) := by
  have e : (Int32.ofNat j).toNatClampNeg = j := i3_clamp hm
  rw [am_ag, ly_dc5 h]
  simp only [e]
  rw [if_pos ⟨rfl, ly_nn hm, hj⟩]
  rfl
theorem ly_dw5 (h : ly_is x b Z q t 5) {j : Nat} {v : Int32} (hj : j < 6) (hm : j < 2147483648) : am_pi (am_mk x b Z C L R D) q (Int32.ofNat j) v = some (am_mk x b Z (ux C t j v) L R D) := by
  have e : (Int32.ofNat j).toNatClampNeg = j := i3_clamp hm
  rw [am_pi, ly_dc5 h]
  simp only [e]
  rw [if_pos ⟨trivial, ly_nn hm, hj⟩, ← uk_upd]
  have := ly_ds (C := C) (L := L) (R := R) (D := D) (f := upd (C t) j v) (g := L t) (r := R t) h
  rw [uk_self, uk_self] at this
  rw [← this]
  rfl
theorem ly_a5 {n : Nat} (ht : 1000 ≤ t) (hk : t / 1000 = 5) (hn : n = 6) (hs : ¬ (x ≤ D.1 ∧ ly_st b (D.1 - x) = true)) : am_add (am_mk x b Z C L R D) (.inl (0, n, .inl (fun _ => Int32.ofNat 0))) = am_mk x b (ly_new Z D.1 t) (uk C t (fun _ => Int32.ofNat 0)) (uk L t (fun _ => Int64.ofNat 0)) (uk R t (fun _ => none)) (ly_fz x Z C L R D t) := by
  have := ly_add (x := x) (b := b) (Z := Z) (C := C) (L := L) (R := R) (D := D) (t := t) (f := fun _ => Int32.ofNat 0) (g := fun _ => Int64.ofNat 0) (r := (fun _ => none)) ht hs
  rw [hk] at this
  subst hn
  exact this
theorem ly_dk6 (h : ly_is x b Z q t 6) : am_cls (am_mk x b Z C L R D) q = some 3 := by rw [am_cls, ly_dc h]; rfl
theorem ly_a6 (ht : 1000 ≤ t) (hk : t / 1000 = 6) (hs : ¬ (x ≤ D.1 ∧ ly_st b (D.1 - x) = true)) : am_add (am_mk x b Z C L R D) (.inr (3, [.int (Int32.ofNat 0), .null, .int (Int32.ofNat 0), .int (Int32.ofNat 0), .int (Int32.ofNat 0), .int (Int32.ofNat 0), .int (Int32.ofNat 0)])) = am_mk x b (ly_new Z D.1 t) (uk C t (fun _ => Int32.ofNat 0)) (uk L t (fun _ => Int64.ofNat 0)) (uk R t (fun _ => none)) (ly_fz x Z C L R D t) := by
  have := ly_add (x := x) (b := b) (Z := Z) (C := C) (L := L) (R := R) (D := D) (t := t) (f := fun _ => Int32.ofNat 0) (g := fun _ => Int64.ofNat 0) (r := fun _ => none) ht hs
  rw [hk] at this
  exact this
theorem ly_dg6_0 (h : ly_is x b Z q t 6) : am_fld (am_mk x b Z C L R D) q 3 0 = some (.int (C t 0)) := by rw [am_fld, ly_dc h]; rfl
theorem ly_dp6_0 {v : Int32} (h : ly_is x b Z q t 6) : am_pf (am_mk x b Z C L R D) q 3 0 .int (.int v) = some (am_mk x b Z (ux C t 0 v) L R D) := by
  rw [am_pf, ly_dc h]
  simp only [ly_D]
  rw [if_pos ⟨trivial, by simp only [List.length_cons, List.length_nil]; decide, rfl⟩, ← uk_upd]
  exact congrArg some ((ly_ds (f := upd (C t) 0 v) (g := L t) (r := R t) h).trans (by rw [uk_self, uk_self]))
theorem ly_dg6_1 (h : ly_is x b Z q t 6) : am_fld (am_mk x b Z C L R D) q 3 1 = some (va_rf (R t 1)) := by rw [am_fld, ly_dc h]; rfl
theorem ly_dp6_1 {v : Nat} (h : ly_is x b Z q t 6) : am_pf (am_mk x b Z C L R D) q 3 1 (am_fty 3 1) (.ref v) = some (am_mk x b Z C L (ux R t 1 (some v)) D) := by
  rw [am_pf, ly_dc h]
  simp only [ly_D]
  rw [if_pos ⟨trivial, by simp only [List.length_cons, List.length_nil]; decide, rfl⟩, ← uk_up]
  exact congrArg some ((ly_ds (f := C t) (g := L t) (r := va_up (R t) 1 (some v)) h).trans (by rw [uk_self, uk_self]))
theorem ly_dg6_2 (h : ly_is x b Z q t 6) : am_fld (am_mk x b Z C L R D) q 3 2 = some (.int (C t 2)) := by rw [am_fld, ly_dc h]; rfl
theorem ly_dp6_2 {v : Int32} (h : ly_is x b Z q t 6) : am_pf (am_mk x b Z C L R D) q 3 2 .int (.int v) = some (am_mk x b Z (ux C t 2 v) L R D) := by
  rw [am_pf, ly_dc h]
  simp only [ly_D]
  rw [if_pos ⟨trivial, by simp only [List.length_cons, List.length_nil]; decide, rfl⟩, ← uk_upd]
  exact congrArg some ((ly_ds (f := upd (C t) 2 v) (g := L t) (r := R t) h).trans (by rw [uk_self, uk_self]))
theorem ly_dg6_3 (h : ly_is x b Z q t 6) : am_fld (am_mk x b Z C L R D) q 3 3 = some (.int (C t 3)) := by rw [am_fld, ly_dc h]; rfl
theorem ly_dp6_3 {v : Int32} (h : ly_is x b Z q t 6) : am_pf (am_mk x b Z C L R D) q 3 3 .int (.int v) = some (am_mk x b Z (ux C t 3 v) L R D) := by
  rw [am_pf, ly_dc h]
  simp only [ly_D]
  rw [if_pos ⟨trivial, by simp only [List.length_cons, List.length_nil]; decide, rfl⟩, ← uk_upd]
  exact congrArg some ((ly_ds (f := upd (C t) 3 v) (g := L t) (r := R t) h).trans (by rw [uk_self, uk_self]))
theorem ly_dg6_4 (h : ly_is x b Z q t 6) : am_fld (am_mk x b Z C L R D) q 3 4 = some (.int (C t 4)) := by rw [am_fld, ly_dc h]; rfl
theorem ly_dp6_4 {v : Int32} (h : ly_is x b Z q t 6) : am_pf (am_mk x b Z C L R D) q 3 4 .int (.int v) = some (am_mk x b Z (ux C t 4 v) L R D) := by
  rw [am_pf, ly_dc h]
  simp only [ly_D]
  rw [if_pos ⟨trivial, by simp only [List.length_cons, List.length_nil]; decide, rfl⟩, ← uk_upd]
  exact congrArg some ((ly_ds (f := upd (C t) 4 v) (g := L t) (r := R t) h).trans (by rw [uk_self, uk_self]))
theorem ly_dg6_5 (h : ly_is x b Z q t 6) : am_fld (am_mk x b Z C L R D) q 3 5 = some (.int (C t 5)) := by rw [am_fld, ly_dc h]; rfl
theorem ly_dp6_5 {v : Int32} (h : ly_is x b Z q t 6) : am_pf (am_mk x b Z C L R D) q 3 5 .int (.int v) = some (am_mk x b Z (ux C t 5 v) L R D) := by
  rw [am_pf, ly_dc h]
  simp only [ly_D]
  rw [if_pos ⟨trivial, by simp only [List.length_cons, List.length_nil]; decide, rfl⟩, ← uk_upd]
  exact congrArg some ((ly_ds (f := upd (C t) 5 v) (g := L t) (r := R t) h).trans (by rw [uk_self, uk_self]))
theorem ly_dg6_6 (h : ly_is x b Z q t 6) : am_fld (am_mk x b Z C L R D) q 3 6 = some (.int (C t 6)) := by rw [am_fld, ly_dc h]; rfl
theorem ly_dp6_6 {v : Int32} (h : ly_is x b Z q t 6) : am_pf (am_mk x b Z C L R D) q 3 6 .int (.int v) = some (am_mk x b Z (ux C t 6 v) L R D) := by
  rw [am_pf, ly_dc h]
  simp only [ly_D]
  rw [if_pos ⟨trivial, by simp only [List.length_cons, List.length_nil]; decide, rfl⟩, ← uk_upd]
  exact congrArg some ((ly_ds (f := upd (C t) 6 v) (g := L t) (r := R t) h).trans (by rw [uk_self, uk_self]))
theorem ly_dk7 (h : ly_is x b Z q t 7) : am_cls (am_mk x b Z C L R D) q = some 8 := by rw [am_cls, ly_dc h]; rfl
theorem ly_a7 (ht : 1000 ≤ t) (hk : t / 1000 = 7) (hs : ¬ (x ≤ D.1 ∧ ly_st b (D.1 - x) = true)) : am_add (am_mk x b Z C L R D) (.inr (8, [.null, .null, .null])) = am_mk x b (ly_new Z D.1 t) (uk C t (fun _ => Int32.ofNat 0)) (uk L t (fun _ => Int64.ofNat 0)) (uk R t (fun _ => none)) (ly_fz x Z C L R D t) := by
  have := ly_add (x := x) (b := b) (Z := Z) (C := C) (L := L) (R := R) (D := D) (t := t) (f := fun _ => Int32.ofNat 0) (g := fun _ => Int64.ofNat 0) (r := fun _ => none) ht hs
  rw [hk] at this
  exact this
theorem ly_dg7_0 (h : ly_is x b Z q t 7) : am_fld (am_mk x b Z C L R D) q 8 0 = some (va_rf (R t 0)) := by rw [am_fld, ly_dc h]; rfl
theorem ly_dp7_0 {v : Nat} (h : ly_is x b Z q t 7) : am_pf (am_mk x b Z C L R D) q 8 0 (am_fty 8 0) (.ref v) = some (am_mk x b Z C L (ux R t 0 (some v)) D) := by
  rw [am_pf, ly_dc h]
  simp only [ly_D]
  rw [if_pos ⟨trivial, by simp only [List.length_cons, List.length_nil]; decide, rfl⟩, ← uk_up]
  exact congrArg some ((ly_ds (f := C t) (g := L t) (r := va_up (R t) 0 (some v)) h).trans (by rw [uk_self, uk_self]))
theorem ly_dg7_1 (h : ly_is x b Z q t 7) : am_fld (am_mk x b Z C L R D) q 8 1 = some (va_rf (R t 1)) := by rw [am_fld, ly_dc h]; rfl
theorem ly_dp7_1 {v : Nat} (h : ly_is x b Z q t 7) : am_pf (am_mk x b Z C L R D) q 8 1 (am_fty 8 1) (.ref v) = some (am_mk x b Z C L (ux R t 1 (some v)) D) := by
  rw [am_pf, ly_dc h]
  simp only [ly_D]
  rw [if_pos ⟨trivial, by simp only [List.length_cons, List.length_nil]; decide, rfl⟩, ← uk_up]
  exact congrArg some ((ly_ds (f := C t) (g := L t) (r := va_up (R t) 1 (some v)) h).trans (by rw [uk_self, uk_self]))
theorem ly_dg7_2 (h : ly_is x b Z q t 7) : am_fld (am_mk x b Z C L R D) q 8 2 = some (va_rf (R t 2)) := by rw [am_fld, ly_dc h]; rfl
theorem ly_dp7_2 {v : Nat} (h : ly_is x b Z q t 7) : am_pf (am_mk x b Z C L R D) q 8 2 (am_fty 8 2) (.ref v) = some (am_mk x b Z C L (ux R t 2 (some v)) D) := by
  rw [am_pf, ly_dc h]
  simp only [ly_D]
  rw [if_pos ⟨trivial, by simp only [List.length_cons, List.length_nil]; decide, rfl⟩, ← uk_up]
  exact congrArg some ((ly_ds (f := C t) (g := L t) (r := va_up (R t) 2 (some v)) h).trans (by rw [uk_self, uk_self]))
theorem ly_dc8 {n : Nat} (hn : R t 0 = some n) (h : ly_is x b Z q t 8) : (am_mk x b Z C L R D).2 q = some (.inl (0, n, .inl (C t))) := by
  rw [ly_dc h]; simp only [ly_D, hn]; rfl
theorem ly_dn8 {n : Nat} (hn : R t 0 = some n) (h : ly_is x b Z q t 8) : am_len (am_mk x b Z C L R D) q = some n := by rw [am_len, ly_dc8 hn h]
theorem ly_dr8 {n : Nat} (hn : R t 0 = some n) (h : ly_is x b Z q t 8) {j : Nat} (hj : j < n) (hm : j < 2147483648) : am_ag 0 (am_mk x b Z C L R D) q (Int32.ofNat j) = some (.int (C t j)) := by
  have e : (Int32.ofNat j).toNatClampNeg = j := i3_clamp hm
  rw [am_ag, ly_dc8 hn h]
  simp only [e]
  rw [if_pos ⟨rfl, ly_nn hm, hj⟩]
  rfl
theorem ly_dw8 {n : Nat} (hn : R t 0 = some n) (h : ly_is x b Z q t 8) {j : Nat} {v : Int32} (hj : j < n) (hm : j < 2147483648) : am_pi (am_mk x b Z C L R D) q (Int32.ofNat j) v = some (am_mk x b Z (ux C t j v) L R D) := by
  have e : (Int32.ofNat j).toNatClampNeg = j := i3_clamp hm
  rw [am_pi, ly_dc8 hn h]
  simp only [e]
  rw [if_pos ⟨trivial, ly_nn hm, hj⟩, ← uk_upd]
  have := ly_ds (C := C) (L := L) (R := R) (D := D) (f := upd (C t) j v) (g := L t) (r := R t) h
  rw [uk_self, uk_self] at this
  rw [← this]
  simp only [ly_D, hn]
  rfl
theorem ly_a8 {n : Nat} (ht : 1000 ≤ t) (hk : t / 1000 = 8) (hs : ¬ (x ≤ D.1 ∧ ly_st b (D.1 - x) = true)) : am_add (am_mk x b Z C L R D) (.inl (0, n, .inl (fun _ => Int32.ofNat 0))) = am_mk x b (ly_new Z D.1 t) (uk C t (fun _ => Int32.ofNat 0)) (uk L t (fun _ => Int64.ofNat 0)) (uk R t (fun _ => some n)) (ly_fz x Z C L R D t) := by
  have := ly_add (x := x) (b := b) (Z := Z) (C := C) (L := L) (R := R) (D := D) (t := t) (f := fun _ => Int32.ofNat 0) (g := fun _ => Int64.ofNat 0) (r := (fun _ => some n)) ht hs
  rw [hk] at this
  exact this
theorem ly_dc9 {n : Nat} (hn : R t 0 = some n) (h : ly_is x b Z q t 9) : (am_mk x b Z C L R D).2 q = some (.inl (0, n, .inl (C t))) := by
  rw [ly_dc h]; simp only [ly_D, hn]; rfl
theorem ly_dn9 {n : Nat} (hn : R t 0 = some n) (h : ly_is x b Z q t 9) : am_len (am_mk x b Z C L R D) q = some n := by rw [am_len, ly_dc9 hn h]
theorem ly_dr9 {n : Nat} (hn : R t 0 = some n) (h : ly_is x b Z q t 9) {j : Nat} (hj : j < n) (hm : j < 2147483648) : am_ag 0 (am_mk x b Z C L R D) q (Int32.ofNat j) = some (.int (C t j)) := by
  have e : (Int32.ofNat j).toNatClampNeg = j := i3_clamp hm
  rw [am_ag, ly_dc9 hn h]
  simp only [e]
  rw [if_pos ⟨rfl, ly_nn hm, hj⟩]
  rfl
theorem ly_dw9 {n : Nat} (hn : R t 0 = some n) (h : ly_is x b Z q t 9) {j : Nat} {v : Int32} (hj : j < n) (hm : j < 2147483648) : am_pi (am_mk x b Z C L R D) q (Int32.ofNat j) v = some (am_mk x b Z (ux C t j v) L R D) := by
  have e : (Int32.ofNat j).toNatClampNeg = j := i3_clamp hm
  rw [am_pi, ly_dc9 hn h]
  simp only [e]
  rw [if_pos ⟨trivial, ly_nn hm, hj⟩, ← uk_upd]
  have := ly_ds (C := C) (L := L) (R := R) (D := D) (f := upd (C t) j v) (g := L t) (r := R t) h
  rw [uk_self, uk_self] at this
  rw [← this]
  simp only [ly_D, hn]
  rfl
theorem ly_a9 {n : Nat} (ht : 1000 ≤ t) (hk : t / 1000 = 9) (hs : ¬ (x ≤ D.1 ∧ ly_st b (D.1 - x) = true)) : am_add (am_mk x b Z C L R D) (.inl (0, n, .inl (fun _ => Int32.ofNat 0))) = am_mk x b (ly_new Z D.1 t) (uk C t (fun _ => Int32.ofNat 0)) (uk L t (fun _ => Int64.ofNat 0)) (uk R t (fun _ => some n)) (ly_fz x Z C L R D t) := by
  have := ly_add (x := x) (b := b) (Z := Z) (C := C) (L := L) (R := R) (D := D) (t := t) (f := fun _ => Int32.ofNat 0) (g := fun _ => Int64.ofNat 0) (r := (fun _ => some n)) ht hs
  rw [hk] at this
  exact this
theorem ly_dc10 {n : Nat} (hn : R t 0 = some n) (h : ly_is x b Z q t 10) : (am_mk x b Z C L R D).2 q = some (.inl (0, n, .inl (C t))) := by
  rw [ly_dc h]; simp only [ly_D, hn]; rfl
theorem ly_dn10 {n : Nat} (hn : R t 0 = some n) (h : ly_is x b Z q t 10) : am_len (am_mk x b Z C L R D) q = some n := by rw [am_len, ly_dc10 hn h]
theorem ly_dr10 {n : Nat} (hn : R t 0 = some n) (h : ly_is x b Z q t 10) {j : Nat} (hj : j < n) (hm : j < 2147483648) : am_ag 0 (am_mk x b Z C L R D) q (Int32.ofNat j) = some (.int (C t j)) := by
  have e : (Int32.ofNat j).toNatClampNeg = j := i3_clamp hm
  rw [am_ag, ly_dc10 hn h]
  simp only [e]
  rw [if_pos ⟨rfl, ly_nn hm, hj⟩]
  rfl
theorem ly_dw10 {n : Nat} (hn : R t 0 = some n) (h : ly_is x b Z q t 10) {j : Nat} {v : Int32} (hj : j < n) (hm : j < 2147483648) : am_pi (am_mk x b Z C L R D) q (Int32.ofNat j) v = some (am_mk x b Z (ux C t j v) L R D) := by
  have e : (Int32.ofNat j).toNatClampNeg = j := i3_clamp hm
  rw [am_pi, ly_dc10 hn h]
  simp only [e]
  rw [if_pos ⟨trivial, ly_nn hm, hj⟩, ← uk_upd]
  have := ly_ds (C := C) (L := L) (R := R) (D := D) (f := upd (C t) j v) (g := L t) (r := R t) h
  rw [uk_self, uk_self] at this
  rw [← this]
  simp only [ly_D, hn]
  rfl
theorem ly_a10 {n : Nat} (ht : 1000 ≤ t) (hk : t / 1000 = 10) (hs : ¬ (x ≤ D.1 ∧ ly_st b (D.1 - x) = true)) : am_add (am_mk x b Z C L R D) (.inl (0, n, .inl (fun _ => Int32.ofNat 0))) = am_mk x b (ly_new Z D.1 t) (uk C t (fun _ => Int32.ofNat 0)) (uk L t (fun _ => Int64.ofNat 0)) (uk R t (fun _ => some n)) (ly_fz x Z C L R D t) := by
  have := ly_add (x := x) (b := b) (Z := Z) (C := C) (L := L) (R := R) (D := D) (t := t) (f := fun _ => Int32.ofNat 0) (g := fun _ => Int64.ofNat 0) (r := (fun _ => some n)) ht hs
  rw [hk] at this
  exact this
theorem ly_dk11 (h : ly_is x b Z q t 11) : am_cls (am_mk x b Z C L R D) q = some 0 := by rw [am_cls, ly_dc h]; rfl
theorem ly_a11 (ht : 1000 ≤ t) (hk : t / 1000 = 11) (hs : ¬ (x ≤ D.1 ∧ ly_st b (D.1 - x) = true)) : am_add (am_mk x b Z C L R D) (.inr (0, [.null, .int (Int32.ofNat 0), .long (Int64.ofNat 0), .int (Int32.ofNat 0), .int (Int32.ofNat 0), .null, .int (Int32.ofNat 0), .long (Int64.ofNat 0), .long (Int64.ofNat 0)])) = am_mk x b (ly_new Z D.1 t) (uk C t (fun _ => Int32.ofNat 0)) (uk L t (fun _ => Int64.ofNat 0)) (uk R t (fun _ => none)) (ly_fz x Z C L R D t) := by
  have := ly_add (x := x) (b := b) (Z := Z) (C := C) (L := L) (R := R) (D := D) (t := t) (f := fun _ => Int32.ofNat 0) (g := fun _ => Int64.ofNat 0) (r := fun _ => none) ht hs
  rw [hk] at this
  exact this
theorem ly_dg11_0 (h : ly_is x b Z q t 11) : am_fld (am_mk x b Z C L R D) q 0 0 = some (va_rf (R t 0)) := by rw [am_fld, ly_dc h]; rfl
theorem ly_dp11_0 {v : Nat} (h : ly_is x b Z q t 11) : am_pf (am_mk x b Z C L R D) q 0 0 (am_fty 0 0) (.ref v) = some (am_mk x b Z C L (ux R t 0 (some v)) D) := by
  rw [am_pf, ly_dc h]
  simp only [ly_D]
  rw [if_pos ⟨trivial, by simp only [List.length_cons, List.length_nil]; decide, rfl⟩, ← uk_up]
  exact congrArg some ((ly_ds (f := C t) (g := L t) (r := va_up (R t) 0 (some v)) h).trans (by rw [uk_self, uk_self]))
theorem ly_dg11_1 (h : ly_is x b Z q t 11) : am_fld (am_mk x b Z C L R D) q 0 1 = some (.int (C t 1)) := by rw [am_fld, ly_dc h]; rfl
theorem ly_dp11_1 {v : Int32} (h : ly_is x b Z q t 11) : am_pf (am_mk x b Z C L R D) q 0 1 .int (.int v) = some (am_mk x b Z (ux C t 1 v) L R D) := by
  rw [am_pf, ly_dc h]
  simp only [ly_D]
  rw [if_pos ⟨trivial, by simp only [List.length_cons, List.length_nil]; decide, rfl⟩, ← uk_upd]
  exact congrArg some ((ly_ds (f := upd (C t) 1 v) (g := L t) (r := R t) h).trans (by rw [uk_self, uk_self]))
theorem ly_dg11_2 (h : ly_is x b Z q t 11) : am_fld (am_mk x b Z C L R D) q 0 2 = some (.long (L t 2)) := by rw [am_fld, ly_dc h]; rfl
theorem ly_dp11_2 {v : Int64} (h : ly_is x b Z q t 11) : am_pf (am_mk x b Z C L R D) q 0 2 .long (.long v) = some (am_mk x b Z C (ux L t 2 v) R D) := by
  rw [am_pf, ly_dc h]
  simp only [ly_D]
  rw [if_pos ⟨trivial, by simp only [List.length_cons, List.length_nil]; decide, rfl⟩, ← uk_updL]
  exact congrArg some ((ly_ds (f := C t) (g := vp_updL (L t) 2 v) (r := R t) h).trans (by rw [uk_self, uk_self]))
theorem ly_dg11_3 (h : ly_is x b Z q t 11) : am_fld (am_mk x b Z C L R D) q 0 3 = some (.int (C t 3)) := by rw [am_fld, ly_dc h]; rfl
theorem ly_dp11_3 {v : Int32} (h : ly_is x b Z q t 11) : am_pf (am_mk x b Z C L R D) q 0 3 .int (.int v) = some (am_mk x b Z (ux C t 3 v) L R D) := by
  rw [am_pf, ly_dc h]
  simp only [ly_D]
  rw [if_pos ⟨trivial, by simp only [List.length_cons, List.length_nil]; decide, rfl⟩, ← uk_upd]
  exact congrArg some ((ly_ds (f := upd (C t) 3 v) (g := L t) (r := R t) h).trans (by rw [uk_self, uk_self]))
theorem ly_dg11_4 (h : ly_is x b Z q t 11) : am_fld (am_mk x b Z C L R D) q 0 4 = some (.int (C t 4)) := by rw [am_fld, ly_dc h]; rfl
theorem ly_dp11_4 {v : Int32} (h : ly_is x b Z q t 11) : am_pf (am_mk x b Z C L R D) q 0 4 .int (.int v) = some (am_mk x b Z (ux C t 4 v) L R D) := by
  rw [am_pf, ly_dc h]
  simp only [ly_D]
  rw [if_pos ⟨trivial, by simp only [List.length_cons, List.length_nil]; decide, rfl⟩, ← uk_upd]
  exact congrArg some ((ly_ds (f := upd (C t) 4 v) (g := L t) (r := R t) h).trans (by rw [uk_self, uk_self]))
theorem ly_dg11_5 (h : ly_is x b Z q t 11) : am_fld (am_mk x b Z C L R D) q 0 5 = some (va_rf (R t 5)) := by rw [am_fld, ly_dc h]; rfl
theorem ly_dp11_5 {v : Nat} (h : ly_is x b Z q t 11) : am_pf (am_mk x b Z C L R D) q 0 5 (am_fty 0 5) (.ref v) = some (am_mk x b Z C L (ux R t 5 (some v)) D) := by
  rw [am_pf, ly_dc h]
  simp only [ly_D]
  rw [if_pos ⟨trivial, by simp only [List.length_cons, List.length_nil]; decide, rfl⟩, ← uk_up]
  exact congrArg some ((ly_ds (f := C t) (g := L t) (r := va_up (R t) 5 (some v)) h).trans (by rw [uk_self, uk_self]))
theorem ly_dg11_6 (h : ly_is x b Z q t 11) : am_fld (am_mk x b Z C L R D) q 0 6 = some (.int (C t 6)) := by rw [am_fld, ly_dc h]; rfl
theorem ly_dp11_6 {v : Int32} (h : ly_is x b Z q t 11) : am_pf (am_mk x b Z C L R D) q 0 6 .int (.int v) = some (am_mk x b Z (ux C t 6 v) L R D) := by
  rw [am_pf, ly_dc h]
  simp only [ly_D]
  rw [if_pos ⟨trivial, by simp only [List.length_cons, List.length_nil]; decide, rfl⟩, ← uk_upd]
  exact congrArg some ((ly_ds (f := upd (C t) 6 v) (g := L t) (r := R t) h).trans (by rw [uk_self, uk_self]))
theorem ly_dg11_7 (h : ly_is x b Z q t 11) : am_fld (am_mk x b Z C L R D) q 0 7 = some (.long (L t 7)) := by rw [am_fld, ly_dc h]; rfl
theorem ly_dp11_7 {v : Int64} (h : ly_is x b Z q t 11) : am_pf (am_mk x b Z C L R D) q 0 7 .long (.long v) = some (am_mk x b Z C (ux L t 7 v) R D) := by
  rw [am_pf, ly_dc h]
  simp only [ly_D]
  rw [if_pos ⟨trivial, by simp only [List.length_cons, List.length_nil]; decide, rfl⟩, ← uk_updL]
  exact congrArg some ((ly_ds (f := C t) (g := vp_updL (L t) 7 v) (r := R t) h).trans (by rw [uk_self, uk_self]))
theorem ly_dg11_8 (h : ly_is x b Z q t 11) : am_fld (am_mk x b Z C L R D) q 0 8 = some (.long (L t 8)) := by rw [am_fld, ly_dc h]; rfl
theorem ly_dp11_8 {v : Int64} (h : ly_is x b Z q t 11) : am_pf (am_mk x b Z C L R D) q 0 8 .long (.long v) = some (am_mk x b Z C (ux L t 8 v) R D) := by
  rw [am_pf, ly_dc h]
  simp only [ly_D]
  rw [if_pos ⟨trivial, by simp only [List.length_cons, List.length_nil]; decide, rfl⟩, ← uk_updL]
  exact congrArg some ((ly_ds (f := C t) (g := vp_updL (L t) 8 v) (r := R t) h).trans (by rw [uk_self, uk_self]))
theorem ly_dk12 (h : ly_is x b Z q t 12) : am_cls (am_mk x b Z C L R D) q = some 1 := by rw [am_cls, ly_dc h]; rfl
theorem ly_a12 (ht : 1000 ≤ t) (hk : t / 1000 = 12) (hs : ¬ (x ≤ D.1 ∧ ly_st b (D.1 - x) = true)) : am_add (am_mk x b Z C L R D) (.inr (1, [.int (Int32.ofNat 0), .int (Int32.ofNat 0), .long (Int64.ofNat 0), .long (Int64.ofNat 0), .long (Int64.ofNat 0), .long (Int64.ofNat 0)])) = am_mk x b (ly_new Z D.1 t) (uk C t (fun _ => Int32.ofNat 0)) (uk L t (fun _ => Int64.ofNat 0)) (uk R t (fun _ => none)) (ly_fz x Z C L R D t) := by
  have := ly_add (x := x) (b := b) (Z := Z) (C := C) (L := L) (R := R) (D := D) (t := t) (f := fun _ => Int32.ofNat 0) (g := fun _ => Int64.ofNat 0) (r := fun _ => none) ht hs
  rw [hk] at this
  exact this
theorem ly_dg12_0 (h : ly_is x b Z q t 12) : am_fld (am_mk x b Z C L R D) q 1 0 = some (.int (C t 0)) := by rw [am_fld, ly_dc h]; rfl
theorem ly_dp12_0 {v : Int32} (h : ly_is x b Z q t 12) : am_pf (am_mk x b Z C L R D) q 1 0 .int (.int v) = some (am_mk x b Z (ux C t 0 v) L R D) := by
  rw [am_pf, ly_dc h]
  simp only [ly_D]
  rw [if_pos ⟨trivial, by simp only [List.length_cons, List.length_nil]; decide, rfl⟩, ← uk_upd]
  exact congrArg some ((ly_ds (f := upd (C t) 0 v) (g := L t) (r := R t) h).trans (by rw [uk_self, uk_self]))
theorem ly_dg12_1 (h : ly_is x b Z q t 12) : am_fld (am_mk x b Z C L R D) q 1 1 = some (.int (C t 1)) := by rw [am_fld, ly_dc h]; rfl
theorem ly_dp12_1 {v : Int32} (h : ly_is x b Z q t 12) : am_pf (am_mk x b Z C L R D) q 1 1 .int (.int v) = some (am_mk x b Z (ux C t 1 v) L R D) := by
  rw [am_pf, ly_dc h]
  simp only [ly_D]
  rw [if_pos ⟨trivial, by simp only [List.length_cons, List.length_nil]; decide, rfl⟩, ← uk_upd]
  exact congrArg some ((ly_ds (f := upd (C t) 1 v) (g := L t) (r := R t) h).trans (by rw [uk_self, uk_self]))
theorem ly_dg12_2 (h : ly_is x b Z q t 12) : am_fld (am_mk x b Z C L R D) q 1 2 = some (.long (L t 2)) := by rw [am_fld, ly_dc h]; rfl
theorem ly_dp12_2 {v : Int64} (h : ly_is x b Z q t 12) : am_pf (am_mk x b Z C L R D) q 1 2 .long (.long v) = some (am_mk x b Z C (ux L t 2 v) R D) := by
  rw [am_pf, ly_dc h]
  simp only [ly_D]
  rw [if_pos ⟨trivial, by simp only [List.length_cons, List.length_nil]; decide, rfl⟩, ← uk_updL]
  exact congrArg some ((ly_ds (f := C t) (g := vp_updL (L t) 2 v) (r := R t) h).trans (by rw [uk_self, uk_self]))
theorem ly_dg12_3 (h : ly_is x b Z q t 12) : am_fld (am_mk x b Z C L R D) q 1 3 = some (.long (L t 3)) := by rw [am_fld, ly_dc h]; rfl
theorem ly_dp12_3 {v : Int64} (h : ly_is x b Z q t 12) : am_pf (am_mk x b Z C L R D) q 1 3 .long (.long v) = some (am_mk x b Z C (ux L t 3 v) R D) := by
  rw [am_pf, ly_dc h]
  simp only [ly_D]
  rw [if_pos ⟨trivial, by simp only [List.length_cons, List.length_nil]; decide, rfl⟩, ← uk_updL]
  exact congrArg some ((ly_ds (f := C t) (g := vp_updL (L t) 3 v) (r := R t) h).trans (by rw [uk_self, uk_self]))
theorem ly_dg12_4 (h : ly_is x b Z q t 12) : am_fld (am_mk x b Z C L R D) q 1 4 = some (.long (L t 4)) := by rw [am_fld, ly_dc h]; rfl
theorem ly_dp12_4 {v : Int64} (h : ly_is x b Z q t 12) : am_pf (am_mk x b Z C L R D) q 1 4 .long (.long v) = some (am_mk x b Z C (ux L t 4 v) R D) := by
  rw [am_pf, ly_dc h]
  simp only [ly_D]
  rw [if_pos ⟨trivial, by simp only [List.length_cons, List.length_nil]; decide, rfl⟩, ← uk_updL]
  exact congrArg some ((ly_ds (f := C t) (g := vp_updL (L t) 4 v) (r := R t) h).trans (by rw [uk_self, uk_self]))
theorem ly_dg12_5 (h : ly_is x b Z q t 12) : am_fld (am_mk x b Z C L R D) q 1 5 = some (.long (L t 5)) := by rw [am_fld, ly_dc h]; rfl
theorem ly_dp12_5 {v : Int64} (h : ly_is x b Z q t 12) : am_pf (am_mk x b Z C L R D) q 1 5 .long (.long v) = some (am_mk x b Z C (ux L t 5 v) R D) := by
  rw [am_pf, ly_dc h]
  simp only [ly_D]
  rw [if_pos ⟨trivial, by simp only [List.length_cons, List.length_nil]; decide, rfl⟩, ← uk_updL]
  exact congrArg some ((ly_ds (f := C t) (g := vp_updL (L t) 5 v) (r := R t) h).trans (by rw [uk_self, uk_self]))
end
