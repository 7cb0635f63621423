theorem ly_nn {j : Nat} (h : j < 2147483648) : (0 : Int32) ≤ Int32.ofNat j := by
  rw [Int32.le_iff_toInt_le, Int32.toInt_ofNat_of_lt h]
  exact Int.natCast_nonneg j
/-! reads and writes of the static cells (printed by wip/whole/gen_lay.py) -/
section
variable {x : Nat} {b : Bool} {Z : ly_Z} {C : Nat → Nat → Int32} {L : Nat → Nat → Int64} {R : Nat → Nat → Option Nat} {D : am_M}
theorem ly_c0 : (am_mk x b Z C L R D).2 x = some (.inr (9, [.ref (x + 1), .ref (x + 2), .ref (x + 3), .ref (x + 4), .ref (x + 5), .int (C 0 5), .int (C 0 6), .int (C 0 7), .int (C 0 8), .ref (x + 6), .int (C 0 10), .ref (x + 7), .ref (x + 10), .ref (x + 17), .ref (x + 18), .int (C 0 15), .int (C 0 16), .int (C 0 17)])) := ly_get (o := 0) rfl
theorem ly_k0 : am_cls (am_mk x b Z C L R D) x = some 9 := by rw [am_cls, ly_c0]
theorem ly_g0_0 : am_fld (am_mk x b Z C L R D) x 9 0 = some (.ref (x + 1)) := by rw [am_fld, ly_c0]; rfl
theorem ly_g0_1 : am_fld (am_mk x b Z C L R D) x 9 1 = some (.ref (x + 2)) := by rw [am_fld, ly_c0]; rfl
theorem ly_g0_2 : am_fld (am_mk x b Z C L R D) x 9 2 = some (.ref (x + 3)) := by rw [am_fld, ly_c0]; rfl
theorem ly_g0_3 : am_fld (am_mk x b Z C L R D) x 9 3 = some (.ref (x + 4)) := by rw [am_fld, ly_c0]; rfl
theorem ly_g0_4 : am_fld (am_mk x b Z C L R D) x 9 4 = some (.ref (x + 5)) := by rw [am_fld, ly_c0]; rfl
theorem ly_g0_5 : am_fld (am_mk x b Z C L R D) x 9 5 = some (.int (C 0 5)) := by rw [am_fld, ly_c0]; rfl
theorem ly_p0_5 {v : Int32} : am_pf (am_mk x b Z C L R D) x 9 5 .int (.int v) = some (am_mk x b Z (ux C 0 5 v) L R D) := by
  rw [am_pf, ly_c0]
  simp only
  rw [if_pos ⟨trivial, by simp only [List.length_cons, List.length_nil]; decide, rfl⟩, ← uk_upd]
  exact congrArg some ((ly_put (o := 0) (f := upd (C 0) 5 v) (g := L 0) (r := R 0) rfl).trans (by rw [uk_self, uk_self]))
theorem ly_g0_6 : am_fld (am_mk x b Z C L R D) x 9 6 = some (.int (C 0 6)) := by rw [am_fld, ly_c0]; rfl
theorem ly_p0_6 {v : Int32} : am_pf (am_mk x b Z C L R D) x 9 6 .int (.int v) = some (am_mk x b Z (ux C 0 6 v) L R D) := by
  rw [am_pf, ly_c0]
  simp only
  rw [if_pos ⟨trivial, by simp only [List.length_cons, List.length_nil]; decide, rfl⟩, ← uk_upd]
  exact congrArg some ((ly_put (o := 0) (f := upd (C 0) 6 v) (g := L 0) (r := R 0) rfl).trans (by rw [uk_self, uk_self]))
theorem ly_g0_7 : am_fld (am_mk x b Z C L R D) x 9 7 = some (.int (C 0 7)) := by rw [am_fld, ly_c0]; rfl
theorem ly_p0_7 {v : Int32} : am_pf (am_mk x b Z C L R D) x 9 7 .int (.int v) = some (am_mk x b Z (ux C 0 7 v) L R D) := by
  rw [am_pf, ly_c0]
  simp only
  rw [if_pos ⟨trivial, by simp only [List.length_cons, List.length_nil]; decide, rfl⟩, ← uk_upd]
  exact congrArg some ((ly_put (o := 0) (f := upd (C 0) 7 v) (g := L 0) (r := R 0) rfl).trans (by rw [uk_self, uk_self]))
theorem ly_g0_8 : am_fld (am_mk x b Z C L R D) x 9 8 = some (.int (C 0 8)) := by rw [am_fld, ly_c0]; rfl
theorem ly_p0_8 {v : Int32} : am_pf (am_mk x b Z C L R D) x 9 8 .int (.int v) = some (am_mk x b Z (ux C 0 8 v) L R D) := by
  rw [am_pf, ly_c0]
  simp only
  rw [if_pos ⟨trivial, by simp only [List.length_cons, List.length_nil]; decide, rfl⟩, ← uk_upd]
  exact congrArg some ((ly_put (o := 0) (f := upd (C 0) 8 v) (g := L 0) (r := R 0) rfl).trans (by rw [uk_self, uk_self]))
theorem ly_g0_9 : am_fld (am_mk x b Z C L R D) x 9 9 = some (.ref (x + 6)) := by rw [am_fld, ly_c0]; rfl
theorem ly_g0_10 : am_fld (am_mk x b Z C L R D) x 9 10 = some (.int (C 0 10)) := by rw [am_fld, ly_c0]; rfl
theorem ly_p0_10 {v : Int32} : am_pf (am_mk x b Z C L R D) x 9 10 .int (.int v) = some (am_mk x b Z (ux C 0 10 v) L R D) := by
  rw [am_pf, ly_c0]
  simp only
  rw [if_pos ⟨trivial, by simp only [List.length_cons, List.length_nil]; decide, rfl⟩, ← uk_upd]
  exact congrArg some ((ly_put (o := 0) (f := upd (C 0) 10 v) (g := L 0) (r := R 0) rfl).trans (by rw [uk_self, uk_self]))
theorem ly_g0_11 : am_fld (am_mk x b Z C L R D) x 9 11 = some (.ref (x + 7)) := by rw [am_fld, ly_c0]; rfl
theorem ly_g0_12 : am_fld (am_mk x b Z C L R D) x 9 12 = some (.ref (x + 10)) := by rw [am_fld, ly_c0]; rfl
theorem ly_g0_13 : am_fld (am_mk x b Z C L R D) x 9 13 = some (.ref (x + 17)) := by rw [am_fld, ly_c0]; rfl
theorem ly_g0_14 : am_fld (am_mk x b Z C L R D) x 9 14 = some (.ref (x + 18)) := by rw [am_fld, ly_c0]; rfl
theorem ly_g0_15 : am_fld (am_mk x b Z C L R D) x 9 15 = some (.int (C 0 15)) := by rw [am_fld, ly_c0]; rfl
theorem ly_p0_15 {v : Int32} : am_pf (am_mk x b Z C L R D) x 9 15 .int (.int v) = some (am_mk x b Z (ux C 0 15 v) L R D) := by
  rw [am_pf, ly_c0]
  simp only
  rw [if_pos ⟨trivial, by simp only [List.length_cons, List.length_nil]; decide, rfl⟩, ← uk_upd]
  exact congrArg some ((ly_put (o := 0) (f := upd (C 0) 15 v) (g := L 0) (r := R 0) rfl).trans (by rw [uk_self, uk_self]))
theorem ly_g0_16 : am_fld (am_mk x b Z C L R D) x 9 16 = some (.int (C 0 16)) := by rw [am_fld, ly_c0]; rfl
theorem ly_p0_16 {v : Int32} : am_pf (am_mk x b Z C L R D) x 9 16 .int (.int v) = some (am_mk x b Z (ux C 0 16 v) L R D) := by
  rw [am_pf, ly_c0]
  simp only
  rw [if_pos ⟨trivial, by simp only [List.length_cons, List.length_nil]; decide, rfl⟩, ← uk_upd]
  exact congrArg some ((ly_put (o := 0) (f := upd (C 0) 16 v) (g := L 0) (r := R 0) rfl).trans (by rw [uk_self, uk_self]))
theorem ly_g0_17 : am_fld (am_mk x b Z C L R D) x 9 17 = some (.int (C 0 17)) := by rw [am_fld, ly_c0]; rfl
theorem ly_p0_17 {v : Int32} : am_pf (am_mk x b Z C L R D) x 9 17 .int (.int v) = some (am_mk x b Z (ux C 0 17 v) L R D) := by
  rw [am_pf, ly_c0]
  simp only
  rw [if_pos ⟨trivial, by simp only [List.length_cons, List.length_nil]; decide, rfl⟩, ← uk_upd]
  exact congrArg some ((ly_put (o := 0) (f := upd (C 0) 17 v) (g := L 0) (r := R 0) rfl).trans (by rw [uk_self, uk_self]))
theorem ly_c1 : (am_mk x b Z C L R D).2 (x + 1) = some (.inl (16, 8, .inr (.inr (.inr (.inr (R 1)))))) := ly_get (o := 1) rfl
theorem ly_n1 : am_len (am_mk x b Z C L R D) (x + 1) = some 8 := by rw [am_len, ly_c1]
theorem ly_r1 {j : Nat} (h : j < 8) : am_ag 3 (am_mk x b Z C L R D) (x + 1) (Int32.ofNat j) = some (va_rf (R 1 j)) := by
  have e : (Int32.ofNat j).toNatClampNeg = j := Int32.toNatClampNeg_ofNat_of_lt (by omega)
  rw [am_ag, ly_c1]
  simp only [e]
  rw [if_pos ⟨rfl, ly_nn (by omega), h⟩]
  rfl
theorem ly_w1 {j : Nat} {v : Nat} (h : j < 8) (hc : am_cls (am_mk x b Z C L R D) v = some 6) : am_pr (am_mk x b Z C L R D) (x + 1) (Int32.ofNat j) v = some (am_mk x b Z C L (ux R 1 j (some v)) D) := by
  have e : (Int32.ofNat j).toNatClampNeg = j := Int32.toNatClampNeg_ofNat_of_lt (by omega)
  rw [am_pr, ly_c1]
  simp only [e]
  rw [if_pos ⟨by decide, ly_nn (by omega), h, hc⟩, ← uk_up]
  exact congrArg some ((ly_put (o := 1) (f := C 1) (g := L 1) (r := va_up (R 1) j (some v)) rfl).trans (by rw [uk_self, uk_self]))
theorem ly_c2 : (am_mk x b Z C L R D).2 (x + 2) = some (.inl (12, 6, .inr (.inr (.inr (.inr (R 2)))))) := ly_get (o := 2) rfl
theorem ly_n2 : am_len (am_mk x b Z C L R D) (x + 2) = some 6 := by rw [am_len, ly_c2]
theorem ly_r2 {j : Nat} (h : j < 6) : am_ag 3 (am_mk x b Z C L R D) (x + 2) (Int32.ofNat j) = some (va_rf (R 2 j)) := by
  have e : (Int32.ofNat j).toNatClampNeg = j := Int32.toNatClampNeg_ofNat_of_lt (by omega)
  rw [am_ag, ly_c2]
  simp only [e]
  rw [if_pos ⟨rfl, ly_nn (by omega), h⟩]
  rfl
theorem ly_w2 {j : Nat} {v : Nat} (h : j < 6) (hc : am_cls (am_mk x b Z C L R D) v = some 2) : am_pr (am_mk x b Z C L R D) (x + 2) (Int32.ofNat j) v = some (am_mk x b Z C L (ux R 2 j (some v)) D) := by
  have e : (Int32.ofNat j).toNatClampNeg = j := Int32.toNatClampNeg_ofNat_of_lt (by omega)
  rw [am_pr, ly_c2]
  simp only [e]
  rw [if_pos ⟨by decide, ly_nn (by omega), h, hc⟩, ← uk_up]
  exact congrArg some ((ly_put (o := 2) (f := C 2) (g := L 2) (r := va_up (R 2) j (some v)) rfl).trans (by rw [uk_self, uk_self]))
theorem ly_c3 : (am_mk x b Z C L R D).2 (x + 3) = some (.inl (13, 40, .inr (.inr (.inr (.inr (R 3)))))) := ly_get (o := 3) rfl
theorem ly_n3 : am_len (am_mk x b Z C L R D) (x + 3) = some 40 := by rw [am_len, ly_c3]
theorem ly_r3 {j : Nat} (h : j < 40) : am_ag 3 (am_mk x b Z C L R D) (x + 3) (Int32.ofNat j) = some (va_rf (R 3 j)) := by
  have e : (Int32.ofNat j).toNatClampNeg = j := Int32.toNatClampNeg_ofNat_of_lt (by omega)
  rw [am_ag, ly_c3]
  simp only [e]
  rw [if_pos ⟨rfl, ly_nn (by omega), h⟩]
  rfl
theorem ly_w3 {j : Nat} {v : Nat} (h : j < 40) (hc : am_cls (am_mk x b Z C L R D) v = some 3) : am_pr (am_mk x b Z C L R D) (x + 3) (Int32.ofNat j) v = some (am_mk x b Z C L (ux R 3 j (some v)) D) := by
  have e : (Int32.ofNat j).toNatClampNeg = j := Int32.toNatClampNeg_ofNat_of_lt (by omega)
  rw [am_pr, ly_c3]
  simp only [e]
  rw [if_pos ⟨by decide, ly_nn (by omega), h, hc⟩, ← uk_up]
  exact congrArg some ((ly_put (o := 3) (f := C 3) (g := L 3) (r := va_up (R 3) j (some v)) rfl).trans (by rw [uk_self, uk_self]))
theorem ly_c4 : (am_mk x b Z C L R D).2 (x + 4) = some (.inl (18, 6, .inr (.inr (.inr (.inr (R 4)))))) := ly_get (o := 4) rfl
theorem ly_n4 : am_len (am_mk x b Z C L R D) (x + 4) = some 6 := by rw [am_len, ly_c4]
theorem ly_r4 {j : Nat} (h : j < 6) : am_ag 3 (am_mk x b Z C L R D) (x + 4) (Int32.ofNat j) = some (va_rf (R 4 j)) := by
  have e : (Int32.ofNat j).toNatClampNeg = j := Int32.toNatClampNeg_ofNat_of_lt (by omega)
  rw [am_ag, ly_c4]
  simp only [e]
  rw [if_pos ⟨rfl, ly_nn (by omega), h⟩]
  rfl
theorem ly_w4 {j : Nat} {v : Nat} (h : j < 6) (hc : am_cls (am_mk x b Z C L R D) v = some 8) : am_pr (am_mk x b Z C L R D) (x + 4) (Int32.ofNat j) v = some (am_mk x b Z C L (ux R 4 j (some v)) D) := by
  have e : (Int32.ofNat j).toNatClampNeg = j := Int32.toNatClampNeg_ofNat_of_lt (by omega)
  rw [am_pr, ly_c4]
  simp only [e]
  rw [if_pos ⟨by decide, ly_nn (by omega), h, hc⟩, ← uk_up]
  exact congrArg some ((ly_put (o := 4) (f := C 4) (g := L 4) (r := va_up (R 4) j (some v)) rfl).trans (by rw [uk_self, uk_self]))
theorem ly_c5 : (am_mk x b Z C L R D).2 (x + 5) = some (.inl (14, 4, .inr (.inr (.inr (.inr (R 5)))))) := ly_get (o := 5) rfl
theorem ly_n5 : am_len (am_mk x b Z C L R D) (x + 5) = some 4 := by rw [am_len, ly_c5]
theorem ly_r5 {j : Nat} (h : j < 4) : am_ag 3 (am_mk x b Z C L R D) (x + 5) (Int32.ofNat j) = some (va_rf (R 5 j)) := by
  have e : (Int32.ofNat j).toNatClampNeg = j := Int32.toNatClampNeg_ofNat_of_lt (by omega)
  rw [am_ag, ly_c5]
  simp only [e]
  rw [if_pos ⟨rfl, ly_nn (by omega), h⟩]
  rfl
theorem ly_w5 {j : Nat} {v : Nat} (h : j < 4) (hc : am_cls (am_mk x b Z C L R D) v = some 4) : am_pr (am_mk x b Z C L R D) (x + 5) (Int32.ofNat j) v = some (am_mk x b Z C L (ux R 5 j (some v)) D) := by
  have e : (Int32.ofNat j).toNatClampNeg = j := Int32.toNatClampNeg_ofNat_of_lt (by omega)
  rw [am_pr, ly_c5]
  simp only [e]
  rw [if_pos ⟨by decide, ly_nn (by omega), h, hc⟩, ← uk_up]
  exact congrArg some ((ly_put (o := 5) (f := C 5) (g := L 5) (r := va_up (R 5) j (some v)) rfl).trans (by rw [uk_self, uk_self]))
theorem ly_c6 : (am_mk x b Z C L R D).2 (x + 6) = some (.inl (0, 4, .inl (C 6))) := ly_get (o := 6) rfl
theorem ly_n6 : am_len (am_mk x b Z C L R D) (x + 6) = some 4 := by rw [am_len, ly_c6]
theorem ly_r6 {j : Nat} (h : j < 4) : am_ag 0 (am_mk x b Z C L R D) (x + 6) (Int32.ofNat j) = some (.int (C 6 j)) := by
  have e : (Int32.ofNat j).toNatClampNeg = j := Int32.toNatClampNeg_ofNat_of_lt (by omega)
  rw [am_ag, ly_c6]
  simp only [e]
  rw [if_pos ⟨rfl, ly_nn (by omega), h⟩]
  rfl
theorem ly_w6 {j : Nat} {v : Int32} (h : j < 4) : am_pi (am_mk x b Z C L R D) (x + 6) (Int32.ofNat j) v = some (am_mk x b Z (ux C 6 j v) L R D) := by
  have e : (Int32.ofNat j).toNatClampNeg = j := Int32.toNatClampNeg_ofNat_of_lt (by omega)
  rw [am_pi, ly_c6]
  simp only [e]
  rw [if_pos ⟨trivial, ly_nn (by omega), h⟩, ← uk_upd]
  exact congrArg some ((ly_put (o := 6) (f := upd (C 6) j v) (g := L 6) (r := R 6) rfl).trans (by rw [uk_self, uk_self]))
theorem ly_c7 : (am_mk x b Z C L R D).2 (x + 7) = some (.inr (7, [.ref (x + 8), .int (C 7 1), .int (C 7 2), .int (C 7 3), .int (C 7 4), .int (C 7 5), .int (C 7 6), .ref (x + 9), .int (C 7 8)])) := ly_get (o := 7) rfl
theorem ly_k7 : am_cls (am_mk x b Z C L R D) (x + 7) = some 7 := by rw [am_cls, ly_c7]
theorem ly_g7_0 : am_fld (am_mk x b Z C L R D) (x + 7) 7 0 = some (.ref (x + 8)) := by rw [am_fld, ly_c7]; rfl
theorem ly_g7_1 : am_fld (am_mk x b Z C L R D) (x + 7) 7 1 = some (.int (C 7 1)) := by rw [am_fld, ly_c7]; rfl
theorem ly_p7_1 {v : Int32} : am_pf (am_mk x b Z C L R D) (x + 7) 7 1 .int (.int v) = some (am_mk x b Z (ux C 7 1 v) L R D) := by
  rw [am_pf, ly_c7]
  simp only
  rw [if_pos ⟨trivial, by simp only [List.length_cons, List.length_nil]; decide, rfl⟩, ← uk_upd]
  exact congrArg some ((ly_put (o := 7) (f := upd (C 7) 1 v) (g := L 7) (r := R 7) rfl).trans (by rw [uk_self, uk_self]))
theorem ly_g7_2 : am_fld (am_mk x b Z C L R D) (x + 7) 7 2 = some (.int (C 7 2)) := by rw [am_fld, ly_c7]; rfl
theorem ly_p7_2 {v : Int32} : am_pf (am_mk x b Z C L R D) (x + 7) 7 2 .int (.int v) = some (am_mk x b Z (ux C 7 2 v) L R D) := by
  rw [am_pf, ly_c7]
  simp only
  rw [if_pos ⟨trivial, by simp only [List.length_cons, List.length_nil]; decide, rfl⟩, ← uk_upd]
  exact congrArg some ((ly_put (o := 7) (f := upd (C 7) 2 v) (g := L 7) (r := R 7) rfl).trans (by rw [uk_self, uk_self]))
theorem ly_g7_3 : am_fld (am_mk x b Z C L R D) (x + 7) 7 3 = some (.int (C 7 3)) := by rw [am_fld, ly_c7]; rfl
theorem ly_p7_3 {v : Int32} : am_pf (am_mk x b Z C L R D) (x + 7) 7 3 .int (.int v) = some (am_mk x b Z (ux C 7 3 v) L R D) := by
  rw [am_pf, ly_c7]
  simp only
  rw [if_pos ⟨trivial, by simp only [List.length_cons, List.length_nil]; decide, rfl⟩, ← uk_upd]
  exact congrArg some ((ly_put (o := 7) (f := upd (C 7) 3 v) (g := L 7) (r := R 7) rfl).trans (by rw [uk_self, uk_self]))
theorem ly_g7_4 : am_fld (am_mk x b Z C L R D) (x + 7) 7 4 = some (.int (C 7 4)) := by rw [am_fld, ly_c7]; rfl
theorem ly_p7_4 {v : Int32} : am_pf (am_mk x b Z C L R D) (x + 7) 7 4 .int (.int v) = some (am_mk x b Z (ux C 7 4 v) L R D) := by
  rw [am_pf, ly_c7]
  simp only
  rw [if_pos ⟨trivial, by simp only [List.length_cons, List.length_nil]; decide, rfl⟩, ← uk_upd]
  exact congrArg some ((ly_put (o := 7) (f := upd (C 7) 4 v) (g := L 7) (r := R 7) rfl).trans (by rw [uk_self, uk_self]))
theorem ly_g7_5 : am_fld (am_mk x b Z C L R D) (x + 7) 7 5 = some (.int (C 7 5)) := by rw [am_fld, ly_c7]; rfl
theorem ly_p7_5 {v : Int32} : am_pf (am_mk x b Z C L R D) (x + 7) 7 5 .int (.int v) = some (am_mk x b Z (ux C 7 5 v) L R D) := by
  rw [am_pf, ly_c7]
  simp only
  rw [if_pos ⟨trivial, by simp only [List.length_cons, List.length_nil]; decide, rfl⟩, ← uk_upd]
  exact congrArg some ((ly_put (o := 7) (f := upd (C 7) 5 v) (g := L 7) (r := R 7) rfl).trans (by rw [uk_self, uk_self]))
theorem ly_g7_6 : am_fld (am_mk x b Z C L R D) (x + 7) 7 6 = some (.int (C 7 6)) := by rw [am_fld, ly_c7]; rfl
theorem ly_p7_6 {v : Int32} : am_pf (am_mk x b Z C L R D) (x + 7) 7 6 .int (.int v) = some (am_mk x b Z (ux C 7 6 v) L R D) := by
  rw [am_pf, ly_c7]
  simp only
  rw [if_pos ⟨trivial, by simp only [List.length_cons, List.length_nil]; decide, rfl⟩, ← uk_upd]
  exact congrArg some ((ly_put (o := 7) (f := upd (C 7) 6 v) (g := L 7) (r := R 7) rfl).trans (by rw [uk_self, uk_self]))
theorem ly_g7_7 : am_fld (am_mk x b Z C L R D) (x + 7) 7 7 = some (.ref (x + 9)) := by rw [am_fld, ly_c7]; rfl
theorem ly_g7_8 : am_fld (am_mk x b Z C L R D) (x + 7) 7 8 = some (.int (C 7 8)) := by rw [am_fld, ly_c7]; rfl
theorem ly_p7_8 {v : Int32} : am_pf (am_mk x b Z C L R D) (x + 7) 7 8 .int (.int v) = some (am_mk x b Z (ux C 7 8 v) L R D) := by
  rw [am_pf, ly_c7]
  simp only
  rw [if_pos ⟨trivial, by simp only [List.length_cons, List.length_nil]; decide, rfl⟩, ← uk_upd]
  exact congrArg some ((ly_put (o := 7) (f := upd (C 7) 8 v) (g := L 7) (r := R 7) rfl).trans (by rw [uk_self, uk_self]))
theorem ly_c8 : (am_mk x b Z C L R D).2 (x + 8) = some (.inl (0, 160, .inl (C 8))) := ly_get (o := 8) rfl
theorem ly_n8 : am_len (am_mk x b Z C L R D) (x + 8) = some 160 := by rw [am_len, ly_c8]
theorem ly_r8 {j : Nat} (h : j < 160) : am_ag 0 (am_mk x b Z C L R D) (x + 8) (Int32.ofNat j) = some (.int (C 8 j)) := by
  have e : (Int32.ofNat j).toNatClampNeg = j := Int32.toNatClampNeg_ofNat_of_lt (by omega)
  rw [am_ag, ly_c8]
  simp only [e]
  rw [if_pos ⟨rfl, ly_nn (by omega), h⟩]
  rfl
theorem ly_w8 {j : Nat} {v : Int32} (h : j < 160) : am_pi (am_mk x b Z C L R D) (x + 8) (Int32.ofNat j) v = some (am_mk x b Z (ux C 8 j v) L R D) := by
  have e : (Int32.ofNat j).toNatClampNeg = j := Int32.toNatClampNeg_ofNat_of_lt (by omega)
  rw [am_pi, ly_c8]
  simp only [e]
  rw [if_pos ⟨trivial, ly_nn (by omega), h⟩, ← uk_upd]
  exact congrArg some ((ly_put (o := 8) (f := upd (C 8) j v) (g := L 8) (r := R 8) rfl).trans (by rw [uk_self, uk_self]))
theorem ly_c9 : (am_mk x b Z C L R D).2 (x + 9) = some (.inl (0, 160, .inl (C 9))) := ly_get (o := 9) rfl
theorem ly_n9 : am_len (am_mk x b Z C L R D) (x + 9) = some 160 := by rw [am_len, ly_c9]
theorem ly_r9 {j : Nat} (h : j < 160) : am_ag 0 (am_mk x b Z C L R D) (x + 9) (Int32.ofNat j) = some (.int (C 9 j)) := by
  have e : (Int32.ofNat j).toNatClampNeg = j := Int32.toNatClampNeg_ofNat_of_lt (by omega)
  rw [am_ag, ly_c9]
  simp only [e]
  rw [if_pos ⟨rfl, ly_nn (by omega), h⟩]
  rfl
theorem ly_w9 {j : Nat} {v : Int32} (h : j < 160) : am_pi (am_mk x b Z C L R D) (x + 9) (Int32.ofNat j) v = some (am_mk x b Z (ux C 9 j v) L R D) := by
  have e : (Int32.ofNat j).toNatClampNeg = j := Int32.toNatClampNeg_ofNat_of_lt (by omega)
  rw [am_pi, ly_c9]
  simp only [e]
  rw [if_pos ⟨trivial, ly_nn (by omega), h⟩, ← uk_upd]
  exact congrArg some ((ly_put (o := 9) (f := upd (C 9) j v) (g := L 9) (r := R 9) rfl).trans (by rw [uk_self, uk_self]))
theorem ly_c10 : (am_mk x b Z C L R D).2 (x + 10) = some (.inr (5, [.int (C 10 0), .ref (x + 11), .ref (x + 12), .ref (x + 13), .ref (x + 14), .ref (x + 15), .ref (x + 16), .int (C 10 7), .int (C 10 8), .int (C 10 9), .int (C 10 10)])) := ly_get (o := 10) rfl
theorem ly_k10 : am_cls (am_mk x b Z C L R D) (x + 10) = some 5 := by rw [am_cls, ly_c10]
theorem ly_g10_0 : am_fld (am_mk x b Z C L R D) (x + 10) 5 0 = some (.int (C 10 0)) := by rw [am_fld, ly_c10]; rfl
theorem ly_p10_0 {v : Int32} : am_pf (am_mk x b Z C L R D) (x + 10) 5 0 .int (.int v) = some (am_mk x b Z (ux C 10 0 v) L R D) := by
  rw [am_pf, ly_c10]
  simp only
  rw [if_pos ⟨trivial, by simp only [List.length_cons, List.length_nil]; decide, rfl⟩, ← uk_upd]
  exact congrArg some ((ly_put (o := 10) (f := upd (C 10) 0 v) (g := L 10) (r := R 10) rfl).trans (by rw [uk_self, uk_self]))
theorem ly_g10_1 : am_fld (am_mk x b Z C L R D) (x + 10) 5 1 = some (.ref (x + 11)) := by rw [am_fld, ly_c10]; rfl
theorem ly_g10_2 : am_fld (am_mk x b Z C L R D) (x + 10) 5 2 = some (.ref (x + 12)) := by rw [am_fld, ly_c10]; rfl
theorem ly_g10_3 : am_fld (am_mk x b Z C L R D) (x + 10) 5 3 = some (.ref (x + 13)) := by rw [am_fld, ly_c10]; rfl
theorem ly_g10_4 : am_fld (am_mk x b Z C L R D) (x + 10) 5 4 = some (.ref (x + 14)) := by rw [am_fld, ly_c10]; rfl
theorem ly_g10_5 : am_fld (am_mk x b Z C L R D) (x + 10) 5 5 = some (.ref (x + 15)) := by rw [am_fld, ly_c10]; rfl
theorem ly_g10_6 : am_fld (am_mk x b Z C L R D) (x + 10) 5 6 = some (.ref (x + 16)) := by rw [am_fld, ly_c10]; rfl
theorem ly_g10_7 : am_fld (am_mk x b Z C L R D) (x + 10) 5 7 = some (.int (C 10 7)) := by rw [am_fld, ly_c10]; rfl
theorem ly_p10_7 {v : Int32} : am_pf (am_mk x b Z C L R D) (x + 10) 5 7 .int (.int v) = some (am_mk x b Z (ux C 10 7 v) L R D) := by
  rw [am_pf, ly_c10]
  simp only
  rw [if_pos ⟨trivial, by simp only [List.length_cons, List.length_nil]; decide, rfl⟩, ← uk_upd]
  exact congrArg some ((ly_put (o := 10) (f := upd (C 10) 7 v) (g := L 10) (r := R 10) rfl).trans (by rw [uk_self, uk_self]))
theorem ly_g10_8 : am_fld (am_mk x b Z C L R D) (x + 10) 5 8 = some (.int (C 10 8)) := by rw [am_fld, ly_c10]; rfl
theorem ly_p10_8 {v : Int32} : am_pf (am_mk x b Z C L R D) (x + 10) 5 8 .int (.int v) = some (am_mk x b Z (ux C 10 8 v) L R D) := by
  rw [am_pf, ly_c10]
  simp only
  rw [if_pos ⟨trivial, by simp only [List.length_cons, List.length_nil]; decide, rfl⟩, ← uk_upd]
  exact congrArg some ((ly_put (o := 10) (f := upd (C 10) 8 v) (g := L 10) (r := R 10) rfl).trans (by rw [uk_self, uk_self]))
theorem ly_g10_9 : am_fld (am_mk x b Z C L R D) (x + 10) 5 9 = some (.int (C 10 9)) := by rw [am_fld, ly_c10]; rfl
theorem ly_p10_9 {v : Int32} : am_pf (am_mk x b Z C L R D) (x + 10) 5 9 .int (.int v) = some (am_mk x b Z (ux C 10 9 v) L R D) := by
  rw [am_pf, ly_c10]
  simp only
  rw [if_pos ⟨trivial, by simp only [List.length_cons, List.length_nil]; decide, rfl⟩, ← uk_upd]
  exact congrArg some ((ly_put (o := 10) (f := upd (C 10) 9 v) (g := L 10) (r := R 10) rfl).trans (by rw [uk_self, uk_self]))
theorem ly_g10_10 : am_fld (am_mk x b Z C L R D) (x + 10) 5 10 = some (.int (C 10 10)) := by rw [am_fld, ly_c10]; rfl
theorem ly_p10_10 {v : Int32} : am_pf (am_mk x b Z C L R D) (x + 10) 5 10 .int (.int v) = some (am_mk x b Z (ux C 10 10 v) L R D) := by
  rw [am_pf, ly_c10]
  simp only
  rw [if_pos ⟨trivial, by simp only [List.length_cons, List.length_nil]; decide, rfl⟩, ← uk_upd]
  exact congrArg some ((ly_put (o := 10) (f := upd (C 10) 10 v) (g := L 10) (r := R 10) rfl).trans (by rw [uk_self, uk_self]))
theorem ly_c11 : (am_mk x b Z C L R D).2 (x + 11) = some (.inl (13, 40, .inr (.inr (.inr (.inr (R 11)))))) := ly_get (o := 11) rfl
theorem ly_n11 : am_len (am_mk x b Z C L R D) (x + 11) = some 40 := by rw [am_len, ly_c11]
theorem ly_r11 {j : Nat} (h : j < 40) : am_ag 3 (am_mk x b Z C L R D) (x + 11) (Int32.ofNat j) = some (va_rf (R 11 j)) := by
  have e : (Int32.ofNat j).toNatClampNeg = j := Int32.toNatClampNeg_ofNat_of_lt (by omega)
  rw [am_ag, ly_c11]
  simp only [e]
  rw [if_pos ⟨rfl, ly_nn (by omega), h⟩]
  rfl
theorem ly_w11 {j : Nat} {v : Nat} (h : j < 40) (hc : am_cls (am_mk x b Z C L R D) v = some 3) : am_pr (am_mk x b Z C L R D) (x + 11) (Int32.ofNat j) v = some (am_mk x b Z C L (ux R 11 j (some v)) D) := by
  have e : (Int32.ofNat j).toNatClampNeg = j := Int32.toNatClampNeg_ofNat_of_lt (by omega)
  rw [am_pr, ly_c11]
  simp only [e]
  rw [if_pos ⟨by decide, ly_nn (by omega), h, hc⟩, ← uk_up]
  exact congrArg some ((ly_put (o := 11) (f := C 11) (g := L 11) (r := va_up (R 11) j (some v)) rfl).trans (by rw [uk_self, uk_self]))
theorem ly_c12 : (am_mk x b Z C L R D).2 (x + 12) = some (.inl (0, 40, .inl (C 12))) := ly_get (o := 12) rfl
theorem ly_n12 : am_len (am_mk x b Z C L R D) (x + 12) = some 40 := by rw [am_len, ly_c12]
theorem ly_r12 {j : Nat} (h : j < 40) : am_ag 0 (am_mk x b Z C L R D) (x + 12) (Int32.ofNat j) = some (.int (C 12 j)) := by
  have e : (Int32.ofNat j).toNatClampNeg = j := Int32.toNatClampNeg_ofNat_of_lt (by omega)
  rw [am_ag, ly_c12]
  simp only [e]
  rw [if_pos ⟨rfl, ly_nn (by omega), h⟩]
  rfl
theorem ly_w12 {j : Nat} {v : Int32} (h : j < 40) : am_pi (am_mk x b Z C L R D) (x + 12) (Int32.ofNat j) v = some (am_mk x b Z (ux C 12 j v) L R D) := by
  have e : (Int32.ofNat j).toNatClampNeg = j := Int32.toNatClampNeg_ofNat_of_lt (by omega)
  rw [am_pi, ly_c12]
  simp only [e]
  rw [if_pos ⟨trivial, ly_nn (by omega), h⟩, ← uk_upd]
  exact congrArg some ((ly_put (o := 12) (f := upd (C 12) j v) (g := L 12) (r := R 12) rfl).trans (by rw [uk_self, uk_self]))
theorem ly_c13 : (am_mk x b Z C L R D).2 (x + 13) = some (.inl (1, 40, .inr (.inl (L 13)))) := ly_get (o := 13) rfl
theorem ly_n13 : am_len (am_mk x b Z C L R D) (x + 13) = some 40 := by rw [am_len, ly_c13]
theorem ly_r13 {j : Nat} (h : j < 40) : am_ag 1 (am_mk x b Z C L R D) (x + 13) (Int32.ofNat j) = some (.long (L 13 j)) := by
  have e : (Int32.ofNat j).toNatClampNeg = j := Int32.toNatClampNeg_ofNat_of_lt (by omega)
  rw [am_ag, ly_c13]
  simp only [e]
  rw [if_pos ⟨rfl, ly_nn (by omega), h⟩]
  rfl
theorem ly_w13 {j : Nat} {v : Int64} (h : j < 40) : am_pl (am_mk x b Z C L R D) (x + 13) (Int32.ofNat j) v = some (am_mk x b Z C (ux L 13 j v) R D) := by
  have e : (Int32.ofNat j).toNatClampNeg = j := Int32.toNatClampNeg_ofNat_of_lt (by omega)
  rw [am_pl, ly_c13]
  simp only [e]
  rw [if_pos ⟨trivial, ly_nn (by omega), h⟩, ← uk_updL]
  exact congrArg some ((ly_put (o := 13) (f := C 13) (g := vp_updL (L 13) j v) (r := R 13) rfl).trans (by rw [uk_self, uk_self]))
theorem ly_c14 : (am_mk x b Z C L R D).2 (x + 14) = some (.inl (1, 40, .inr (.inl (L 14)))) := ly_get (o := 14) rfl
theorem ly_n14 : am_len (am_mk x b Z C L R D) (x + 14) = some 40 := by rw [am_len, ly_c14]
theorem ly_r14 {j : Nat} (h : j < 40) : am_ag 1 (am_mk x b Z C L R D) (x + 14) (Int32.ofNat j) = some (.long (L 14 j)) := by
  have e : (Int32.ofNat j).toNatClampNeg = j := Int32.toNatClampNeg_ofNat_of_lt (by omega)
  rw [am_ag, ly_c14]
  simp only [e]
  rw [if_pos ⟨rfl, ly_nn (by omega), h⟩]
  rfl
theorem ly_w14 {j : Nat} {v : Int64} (h : j < 40) : am_pl (am_mk x b Z C L R D) (x + 14) (Int32.ofNat j) v = some (am_mk x b Z C (ux L 14 j v) R D) := by
  have e : (Int32.ofNat j).toNatClampNeg = j := Int32.toNatClampNeg_ofNat_of_lt (by omega)
  rw [am_pl, ly_c14]
  simp only [e]
  rw [if_pos ⟨trivial, ly_nn (by omega), h⟩, ← uk_updL]
  exact congrArg some ((ly_put (o := 14) (f := C 14) (g := vp_updL (L 14) j v) (r := R 14) rfl).trans (by rw [uk_self, uk_self]))
theorem ly_c15 : (am_mk x b Z C L R D).2 (x + 15) = some (.inl (1, 40, .inr (.inl (L 15)))) := ly_get (o := 15) rfl
theorem ly_n15 : am_len (am_mk x b Z C L R D) (x + 15) = some 40 := by rw [am_len, ly_c15]
theorem ly_r15 {j : Nat} (h : j < 40) : am_ag 1 (am_mk x b Z C L R D) (x + 15) (Int32.ofNat j) = some (.long (L 15 j)) := by
  have e : (Int32.ofNat j).toNatClampNeg = j := Int32.toNatClampNeg_ofNat_of_lt (by omega)
  rw [am_ag, ly_c15]
  simp only [e]
  rw [if_pos ⟨rfl, ly_nn (by omega), h⟩]
  rfl
theorem ly_w15 {j : Nat} {v : Int64} (h : j < 40) : am_pl (am_mk x b Z C L R D) (x + 15) (Int32.ofNat j) v = some (am_mk x b Z C (ux L 15 j v) R D) := by
  have e : (Int32.ofNat j).toNatClampNeg = j := Int32.toNatClampNeg_ofNat_of_lt (by omega)
  rw [am_pl, ly_c15]
  simp only [e]
  rw [if_pos ⟨trivial, ly_nn (by omega), h⟩, ← uk_updL]
  exact congrArg some ((ly_put (o := 15) (f := C 15) (g := vp_updL (L 15) j v) (r := R 15) rfl).trans (by rw [uk_self, uk_self]))
theorem ly_c16 : (am_mk x b Z C L R D).2 (x + 16) = some (.inl (1, 40, .inr (.inl (L 16)))) := ly_get (o := 16) rfl
theorem ly_n16 : am_len (am_mk x b Z C L R D) (x + 16) = some 40 := by rw [am_len, ly_c16]
theorem ly_r16 {j : Nat} (h : j < 40) : am_ag 1 (am_mk x b Z C L R D) (x + 16) (Int32.ofNat j) = some (.long (L 16 j)) := by
  have e : (Int32.ofNat j).toNatClampNeg = j := Int32.toNatClampNeg_ofNat_of_lt (by omega)
  rw [am_ag, ly_c16]
  simp only [e]
  rw [if_pos ⟨rfl, ly_nn (by omega), h⟩]
  rfl
theorem ly_w16 {j : Nat} {v : Int64} (h : j < 40) : am_pl (am_mk x b Z C L R D) (x + 16) (Int32.ofNat j) v = some (am_mk x b Z C (ux L 16 j v) R D) := by
  have e : (Int32.ofNat j).toNatClampNeg = j := Int32.toNatClampNeg_ofNat_of_lt (by omega)
  rw [am_pl, ly_c16]
  simp only [e]
  rw [if_pos ⟨trivial, ly_nn (by omega), h⟩, ← uk_updL]
  exact congrArg some ((ly_put (o := 16) (f := C 16) (g := vp_updL (L 16) j v) (r := R 16) rfl).trans (by rw [uk_self, uk_self]))
theorem ly_c17 : (am_mk x b Z C L R D).2 (x + 17) = some (.inl (0, 400, .inl (C 17))) := ly_get (o := 17) rfl
theorem ly_n17 : am_len (am_mk x b Z C L R D) (x + 17) = some 400 := by rw [am_len, ly_c17]
theorem ly_r17 {j : Nat} (h : j < 400) : am_ag 0 (am_mk x b Z C L R D) (x + 17) (Int32.ofNat j) = some (.int (C 17 j)) := by
  have e : (Int32.ofNat j).toNatClampNeg = j := Int32.toNatClampNeg_ofNat_of_lt (by omega)
  rw [am_ag, ly_c17]
  simp only [e]
  rw [if_pos ⟨rfl, ly_nn (by omega), h⟩]
  rfl
theorem ly_w17 {j : Nat} {v : Int32} (h : j < 400) : am_pi (am_mk x b Z C L R D) (x + 17) (Int32.ofNat j) v = some (am_mk x b Z (ux C 17 j v) L R D) := by
  have e : (Int32.ofNat j).toNatClampNeg = j := Int32.toNatClampNeg_ofNat_of_lt (by omega)
  rw [am_pi, ly_c17]
  simp only [e]
  rw [if_pos ⟨trivial, ly_nn (by omega), h⟩, ← uk_upd]
  exact congrArg some ((ly_put (o := 17) (f := upd (C 17) j v) (g := L 17) (r := R 17) rfl).trans (by rw [uk_self, uk_self]))
theorem ly_c18 : (am_mk x b Z C L R D).2 (x + 18) = some (.inl (0, 4, .inl (C 18))) := ly_get (o := 18) rfl
theorem ly_n18 : am_len (am_mk x b Z C L R D) (x + 18) = some 4 := by rw [am_len, ly_c18]
theorem ly_r18 {j : Nat} (h : j < 4) : am_ag 0 (am_mk x b Z C L R D) (x + 18) (Int32.ofNat j) = some (.int (C 18 j)) := by
  have e : (Int32.ofNat j).toNatClampNeg = j := Int32.toNatClampNeg_ofNat_of_lt (by omega)
  rw [am_ag, ly_c18]
  simp only [e]
  rw [if_pos ⟨rfl, ly_nn (by omega), h⟩]
  rfl
theorem ly_w18 {j : Nat} {v : Int32} (h : j < 4) : am_pi (am_mk x b Z C L R D) (x + 18) (Int32.ofNat j) v = some (am_mk x b Z (ux C 18 j v) L R D) := by
  have e : (Int32.ofNat j).toNatClampNeg = j := Int32.toNatClampNeg_ofNat_of_lt (by omega)
  rw [am_pi, ly_c18]
  simp only [e]
  rw [if_pos ⟨trivial, ly_nn (by omega), h⟩, ← uk_upd]
  exact congrArg some ((ly_put (o := 18) (f := upd (C 18) j v) (g := L 18) (r := R 18) rfl).trans (by rw [uk_self, uk_self]))
theorem ly_c23 : (am_mk x true Z C L R D).2 (x + 23) = some (.inr (4, [.int (C 23 0), .int (C 23 1), .ref (x + 24)])) := ly_get (o := 23) rfl
theorem ly_k23 : am_cls (am_mk x true Z C L R D) (x + 23) = some 4 := by rw [am_cls, ly_c23]
theorem ly_g23_0 : am_fld (am_mk x true Z C L R D) (x + 23) 4 0 = some (.int (C 23 0)) := by rw [am_fld, ly_c23]; rfl
theorem ly_p23_0 {v : Int32} : am_pf (am_mk x true Z C L R D) (x + 23) 4 0 .int (.int v) = some (am_mk x true Z (ux C 23 0 v) L R D) := by
  rw [am_pf, ly_c23]
  simp only
  rw [if_pos ⟨trivial, by simp only [List.length_cons, List.length_nil]; decide, rfl⟩, ← uk_upd]
  exact congrArg some ((ly_put (o := 23) (f := upd (C 23) 0 v) (g := L 23) (r := R 23) rfl).trans (by rw [uk_self, uk_self]))
theorem ly_g23_1 : am_fld (am_mk x true Z C L R D) (x + 23) 4 1 = some (.int (C 23 1)) := by rw [am_fld, ly_c23]; rfl
theorem ly_p23_1 {v : Int32} : am_pf (am_mk x true Z C L R D) (x + 23) 4 1 .int (.int v) = some (am_mk x true Z (ux C 23 1 v) L R D) := by
  rw [am_pf, ly_c23]
  simp only
  rw [if_pos ⟨trivial, by simp only [List.length_cons, List.length_nil]; decide, rfl⟩, ← uk_upd]
  exact congrArg some ((ly_put (o := 23) (f := upd (C 23) 1 v) (g := L 23) (r := R 23) rfl).trans (by rw [uk_self, uk_self]))
theorem ly_g23_2 : am_fld (am_mk x true Z C L R D) (x + 23) 4 2 = some (.ref (x + 24)) := by rw [am_fld, ly_c23]; rfl
theorem ly_c24 : (am_mk x true Z C L R D).2 (x + 24) = some (.inl (0, 40, .inl (C 24))) := ly_get (o := 24) rfl
theorem ly_n24 : am_len (am_mk x true Z C L R D) (x + 24) = some 40 := by rw [am_len, ly_c24]
theorem ly_r24 {j : Nat} (h : j < 40) : am_ag 0 (am_mk x true Z C L R D) (x + 24) (Int32.ofNat j) = some (.int (C 24 j)) := by
  have e : (Int32.ofNat j).toNatClampNeg = j := Int32.toNatClampNeg_ofNat_of_lt (by omega)
  rw [am_ag, ly_c24]
  simp only [e]
  rw [if_pos ⟨rfl, ly_nn (by omega), h⟩]
  rfl
theorem ly_w24 {j : Nat} {v : Int32} (h : j < 40) : am_pi (am_mk x true Z C L R D) (x + 24) (Int32.ofNat j) v = some (am_mk x true Z (ux C 24 j v) L R D) := by
  have e : (Int32.ofNat j).toNatClampNeg = j := Int32.toNatClampNeg_ofNat_of_lt (by omega)
  rw [am_pi, ly_c24]
  simp only [e]
  rw [if_pos ⟨trivial, ly_nn (by omega), h⟩, ← uk_upd]
  exact congrArg some ((ly_put (o := 24) (f := upd (C 24) j v) (g := L 24) (r := R 24) rfl).trans (by rw [uk_self, uk_self]))
theorem ly_c25 : (am_mk x true Z C L R D).2 (x + 25) = some (.inr (4, [.int (C 25 0), .int (C 25 1), .ref (x + 26)])) := ly_get (o := 25) rfl
theorem ly_k25 : am_cls (am_mk x true Z C L R D) (x + 25) = some 4 := by rw [am_cls, ly_c25]
theorem ly_g25_0 : am_fld (am_mk x true Z C L R D) (x + 25) 4 0 = some (.int (C 25 0)) := by rw [am_fld, ly_c25]; rfl
theorem ly_p25_0 {v : Int32} : am_pf (am_mk x true Z C L R D) (x + 25) 4 0 .int (.int v) = some (am_mk x true Z (ux C 25 0 v) L R D) := by
  rw [am_pf, ly_c25]
  simp only
  rw [if_pos ⟨trivial, by simp only [List.length_cons, List.length_nil]; decide, rfl⟩, ← uk_upd]
  exact congrArg some ((ly_put (o := 25) (f := upd (C 25) 0 v) (g := L 25) (r := R 25) rfl).trans (by rw [uk_self, uk_self]))
theorem ly_g25_1 : am_fld (am_mk x true Z C L R D) (x + 25) 4 1 = some (.int (C 25 1)) := by rw [am_fld, ly_c25]; rfl
theorem ly_p25_1 {v : Int32} : am_pf (am_mk x true Z C L R D) (x + 25) 4 1 .int (.int v) = some (am_mk x true Z (ux C 25 1 v) L R D) := by
  rw [am_pf, ly_c25]
  simp only
  rw [if_pos ⟨trivial, by simp only [List.length_cons, List.length_nil]; decide, rfl⟩, ← uk_upd]
  exact congrArg some ((ly_put (o := 25) (f := upd (C 25) 1 v) (g := L 25) (r := R 25) rfl).trans (by rw [uk_self, uk_self]))
theorem ly_g25_2 : am_fld (am_mk x true Z C L R D) (x + 25) 4 2 = some (.ref (x + 26)) := by rw [am_fld, ly_c25]; rfl
theorem ly_c26 : (am_mk x true Z C L R D).2 (x + 26) = some (.inl (0, 40, .inl (C 26))) := ly_get (o := 26) rfl
theorem ly_n26 : am_len (am_mk x true Z C L R D) (x + 26) = some 40 := by rw [am_len, ly_c26]
theorem ly_r26 {j : Nat} (h : j < 40) : am_ag 0 (am_mk x true Z C L R D) (x + 26) (Int32.ofNat j) = some (.int (C 26 j)) := by
  have e : (Int32.ofNat j).toNatClampNeg = j := Int32.toNatClampNeg_ofNat_of_lt (by omega)
  rw [am_ag, ly_c26]
  simp only [e]
  rw [if_pos ⟨rfl, ly_nn (by omega), h⟩]
  rfl
theorem ly_w26 {j : Nat} {v : Int32} (h : j < 40) : am_pi (am_mk x true Z C L R D) (x + 26) (Int32.ofNat j) v = some (am_mk x true Z (ux C 26 j v) L R D) := by
  have e : (Int32.ofNat j).toNatClampNeg = j := Int32.toNatClampNeg_ofNat_of_lt (by omega)
  rw [am_pi, ly_c26]
  simp only [e]
  rw [if_pos ⟨trivial, ly_nn (by omega), h⟩, ← uk_upd]
  exact congrArg some ((ly_put (o := 26) (f := upd (C 26) j v) (g := L 26) (r := R 26) rfl).trans (by rw [uk_self, uk_self]))
theorem ly_c27 : (am_mk x true Z C L R D).2 (x + 27) = some (.inr (4, [.int (C 27 0), .int (C 27 1), .ref (x + 28)])) := ly_get (o := 27) rfl
theorem ly_k27 : am_cls (am_mk x true Z C L R D) (x + 27) = some 4 := by rw [am_cls, ly_c27]
theorem ly_g27_0 : am_fld (am_mk x true Z C L R D) (x + 27) 4 0 = some (.int (C 27 0)) := by rw [am_fld, ly_c27]; rfl
theorem ly_p27_0 {v : Int32} : am_pf (am_mk x true Z C L R D) (x + 27) 4 0 .int (.int v) = some (am_mk x true Z (ux C 27 0 v) L R D) := by
  rw [am_pf, ly_c27]
  simp only
  rw [if_pos ⟨trivial, by simp only [List.length_cons, List.length_nil]; decide, rfl⟩, ← uk_upd]
  exact congrArg some ((ly_put (o := 27) (f := upd (C 27) 0 v) (g := L 27) (r := R 27) rfl).trans (by rw [uk_self, uk_self]))
theorem ly_g27_1 : am_fld (am_mk x true Z C L R D) (x + 27) 4 1 = some (.int (C 27 1)) := by rw [am_fld, ly_c27]; rfl
theorem ly_p27_1 {v : Int32} : am_pf (am_mk x true Z C L R D) (x + 27) 4 1 .int (.int v) = some (am_mk x true Z (ux C 27 1 v) L R D) := by
  rw [am_pf, ly_c27]
  simp only
  rw [if_pos ⟨trivial, by simp only [List.length_cons, List.length_nil]; decide, rfl⟩, ← uk_upd]
  exact congrArg some ((ly_put (o := 27) (f := upd (C 27) 1 v) (g := L 27) (r := R 27) rfl).trans (by rw [uk_self, uk_self]))
theorem ly_g27_2 : am_fld (am_mk x true Z C L R D) (x + 27) 4 2 = some (.ref (x + 28)) := by rw [am_fld, ly_c27]; rfl
theorem ly_c28 : (am_mk x true Z C L R D).2 (x + 28) = some (.inl (0, 40, .inl (C 28))) := ly_get (o := 28) rfl
theorem ly_n28 : am_len (am_mk x true Z C L R D) (x + 28) = some 40 := by rw [am_len, ly_c28]
theorem ly_r28 {j : Nat} (h : j < 40) : am_ag 0 (am_mk x true Z C L R D) (x + 28) (Int32.ofNat j) = some (.int (C 28 j)) := by
  have e : (Int32.ofNat j).toNatClampNeg = j := Int32.toNatClampNeg_ofNat_of_lt (by omega)
  rw [am_ag, ly_c28]
  simp only [e]
  rw [if_pos ⟨rfl, ly_nn (by omega), h⟩]
  rfl
theorem ly_w28 {j : Nat} {v : Int32} (h : j < 40) : am_pi (am_mk x true Z C L R D) (x + 28) (Int32.ofNat j) v = some (am_mk x true Z (ux C 28 j v) L R D) := by
  have e : (Int32.ofNat j).toNatClampNeg = j := Int32.toNatClampNeg_ofNat_of_lt (by omega)
  rw [am_pi, ly_c28]
  simp only [e]
  rw [if_pos ⟨trivial, ly_nn (by omega), h⟩, ← uk_upd]
  exact congrArg some ((ly_put (o := 28) (f := upd (C 28) j v) (g := L 28) (r := R 28) rfl).trans (by rw [uk_self, uk_self]))
theorem ly_c29 : (am_mk x true Z C L R D).2 (x + 29) = some (.inr (4, [.int (C 29 0), .int (C 29 1), .ref (x + 30)])) := ly_get (o := 29) rfl
theorem ly_k29 : am_cls (am_mk x true Z C L R D) (x + 29) = some 4 := by rw [am_cls, ly_c29]
theorem ly_g29_0 : am_fld (am_mk x true Z C L R D) (x + 29) 4 0 = some (.int (C 29 0)) := by rw [am_fld, ly_c29]; rfl
theorem ly_p29_0 {v : Int32} : am_pf (am_mk x true Z C L R D) (x + 29) 4 0 .int (.int v) = some (am_mk x true Z (ux C 29 0 v) L R D) := by
  rw [am_pf, ly_c29]
  simp only
  rw [if_pos ⟨trivial, by simp only [List.length_cons, List.length_nil]; decide, rfl⟩, ← uk_upd]
  exact congrArg some ((ly_put (o := 29) (f := upd (C 29) 0 v) (g := L 29) (r := R 29) rfl).trans (by rw [uk_self, uk_self]))
theorem ly_g29_1 : am_fld (am_mk x true Z C L R D) (x + 29) 4 1 = some (.int (C 29 1)) := by rw [am_fld, ly_c29]; rfl
theorem ly_p29_1 {v : Int32} : am_pf (am_mk x true Z C L R D) (x + 29) 4 1 .int (.int v) = some (am_mk x true Z (ux C 29 1 v) L R D) := by
  rw [am_pf, ly_c29]
  simp only
  rw [if_pos ⟨trivial, by simp only [List.length_cons, List.length_nil]; decide, rfl⟩, ← uk_upd]
  exact congrArg some ((ly_put (o := 29) (f := upd (C 29) 1 v) (g := L 29) (r := R 29) rfl).trans (by rw [uk_self, uk_self]))
theorem ly_g29_2 : am_fld (am_mk x true Z C L R D) (x + 29) 4 2 = some (.ref (x + 30)) := by rw [am_fld, ly_c29]; rfl
theorem ly_c30 : (am_mk x true Z C L R D).2 (x + 30) = some (.inl (0, 40, .inl (C 30))) := ly_get (o := 30) rfl
theorem ly_n30 : am_len (am_mk x true Z C L R D) (x + 30) = some 40 := by rw [am_len, ly_c30]
theorem ly_r30 {j : Nat} (h : j < 40) : am_ag 0 (am_mk x true Z C L R D) (x + 30) (Int32.ofNat j) = some (.int (C 30 j)) := by
  have e : (Int32.ofNat j).toNatClampNeg = j := Int32.toNatClampNeg_ofNat_of_lt (by omega)
  rw [am_ag, ly_c30]
  simp only [e]
  rw [if_pos ⟨rfl, ly_nn (by omega), h⟩]
  rfl
theorem ly_w30 {j : Nat} {v : Int32} (h : j < 40) : am_pi (am_mk x true Z C L R D) (x + 30) (Int32.ofNat j) v = some (am_mk x true Z (ux C 30 j v) L R D) := by
  have e : (Int32.ofNat j).toNatClampNeg = j := Int32.toNatClampNeg_ofNat_of_lt (by omega)
  rw [am_pi, ly_c30]
  simp only [e]
  rw [if_pos ⟨trivial, ly_nn (by omega), h⟩, ← uk_upd]
  exact congrArg some ((ly_put (o := 30) (f := upd (C 30) j v) (g := L 30) (r := R 30) rfl).trans (by rw [uk_self, uk_self]))
theorem ly_c31 : (am_mk x true Z C L R D).2 (x + 31) = some (.inr (10, [.int (C 31 0), .ref (x + 32), .ref (x + 33), .int (C 31 3), .int (C 31 4), .ref (x + 34), .int (C 31 6), .int (C 31 7), .int (C 31 8), .int (C 31 9), .int (C 31 10), .ref (x + 35), .ref (x + 36), .int (C 31 13), .ref (x + 37), .ref (x + 38), .ref (x + 39), .int (C 31 17), .ref (x + 40), .ref (x + 41), .ref (x + 42), .ref (x + 43), .ref (x + 44), .ref (x + 45), .ref (x + 46), .ref (x + 47), .ref (x + 48), .int (C 31 27), .int (C 31 28), .int (C 31 29), .int (C 31 30), .int (C 31 31), .long (L 31 32), .int (C 31 33), .int (C 31 34), .int (C 31 35), .int (C 31 36), .int (C 31 37), .ref (x + 49), .ref (x + 50), .ref (x + 51), .int (C 31 41), .int (C 31 42), .int (C 31 43), .ref (x + 52), .ref (x + 53), .int (C 31 46), .int (C 31 47), .int (C 31 48), .int (C 31 49), .int (C 31 50), .int (C 31 51), .int (C 31 52), .int (C 31 53), .ref (x + 54), .ref (x + 55), .ref (x + 56), .ref (x + 57)])) := ly_get (o := 31) rfl
theorem ly_k31 : am_cls (am_mk x true Z C L R D) (x + 31) = some 10 := by rw [am_cls, ly_c31]
theorem ly_g31_0 : am_fld (am_mk x true Z C L R D) (x + 31) 10 0 = some (.int (C 31 0)) := by rw [am_fld, ly_c31]; rfl
theorem ly_p31_0 {v : Int32} : am_pf (am_mk x true Z C L R D) (x + 31) 10 0 .int (.int v) = some (am_mk x true Z (ux C 31 0 v) L R D) := by
  rw [am_pf, ly_c31]
  simp only
  rw [if_pos ⟨trivial, by simp only [List.length_cons, List.length_nil]; decide, rfl⟩, ← uk_upd]
  exact congrArg some ((ly_put (o := 31) (f := upd (C 31) 0 v) (g := L 31) (r := R 31) rfl).trans (by rw [uk_self, uk_self]))
theorem ly_g31_1 : am_fld (am_mk x true Z C L R D) (x + 31) 10 1 = some (.ref (x + 32)) := by rw [am_fld, ly_c31]; rfl
theorem ly_g31_2 : am_fld (am_mk x true Z C L R D) (x + 31) 10 2 = some (.ref (x + 33)) := by rw [am_fld, ly_c31]; rfl
theorem ly_g31_3 : am_fld (am_mk x true Z C L R D) (x + 31) 10 3 = some (.int (C 31 3)) := by rw [am_fld, ly_c31]; rfl
theorem ly_p31_3 {v : Int32} : am_pf (am_mk x true Z C L R D) (x + 31) 10 3 .int (.int v) = some (am_mk x true Z (ux C 31 3 v) L R D) := by
  rw [am_pf, ly_c31]
  simp only
  rw [if_pos ⟨trivial, by simp only [List.length_cons, List.length_nil]; decide, rfl⟩, ← uk_upd]
  exact congrArg some ((ly_put (o := 31) (f := upd (C 31) 3 v) (g := L 31) (r := R 31) rfl).trans (by rw [uk_self, uk_self]))
theorem ly_g31_4 : am_fld (am_mk x true Z C L R D) (x + 31) 10 4 = some (.int (C 31 4)) := by rw [am_fld, ly_c31]; rfl
theorem ly_p31_4 {v : Int32} : am_pf (am_mk x true Z C L R D) (x + 31) 10 4 .int (.int v) = some (am_mk x true Z (ux C 31 4 v) L R D) := by
  rw [am_pf, ly_c31]
  simp only
  rw [if_pos ⟨trivial, by simp only [List.length_cons, List.length_nil]; decide, rfl⟩, ← uk_upd]
  exact congrArg some ((ly_put (o := 31) (f := upd (C 31) 4 v) (g := L 31) (r := R 31) rfl).trans (by rw [uk_self, uk_self]))
theorem ly_g31_5 : am_fld (am_mk x true Z C L R D) (x + 31) 10 5 = some (.ref (x + 34)) := by rw [am_fld, ly_c31]; rfl
theorem ly_g31_6 : am_fld (am_mk x true Z C L R D) (x + 31) 10 6 = some (.int (C 31 6)) := by rw [am_fld, ly_c31]; rfl
theorem ly_p31_6 {v : Int32} : am_pf (am_mk x true Z C L R D) (x + 31) 10 6 .int (.int v) = some (am_mk x true Z (ux C 31 6 v) L R D) := by
  rw [am_pf, ly_c31]
  simp only
  rw [if_pos ⟨trivial, by simp only [List.length_cons, List.length_nil]; decide, rfl⟩, ← uk_upd]
  exact congrArg some ((ly_put (o := 31) (f := upd (C 31) 6 v) (g := L 31) (r := R 31) rfl).trans (by rw [uk_self, uk_self]))
theorem ly_g31_7 : am_fld (am_mk x true Z C L R D) (x + 31) 10 7 = some (.int (C 31 7)) := by rw [am_fld, ly_c31]; rfl
theorem ly_p31_7 {v : Int32} : am_pf (am_mk x true Z C L R D) (x + 31) 10 7 .int (.int v) = some (am_mk x true Z (ux C 31 7 v) L R D) := by
  rw [am_pf, ly_c31]
  simp only
  rw [if_pos ⟨trivial, by simp only [List.length_cons, List.length_nil]; decide, rfl⟩, ← uk_upd]
  exact congrArg some ((ly_put (o := 31) (f := upd (C 31) 7 v) (g := L 31) (r := R 31) rfl).trans (by rw [uk_self, uk_self]))
theorem ly_g31_8 : am_fld (am_mk x true Z C L R D) (x + 31) 10 8 = some (.int (C 31 8)) := by rw [am_fld, ly_c31]; rfl
theorem ly_p31_8 {v : Int32} : am_pf (am_mk x true Z C L R D) (x + 31) 10 8 .int (.int v) = some (am_mk x true Z (ux C 31 8 v) L R D) := by
  rw [am_pf, ly_c31]
  simp only
  rw [if_pos ⟨trivial, by simp only [List.length_cons, List.length_nil]; decide, rfl⟩, ← uk_upd]
  exact congrArg some ((ly_put (o := 31) (f := upd (C 31) 8 v) (g := L 31) (r := R 31) rfl).trans (by rw [uk_self, uk_self]))
theorem ly_g31_9 : am_fld (am_mk x true Z C L R D) (x + 31) 10 9 = some (.int (C 31 9)) := by rw [am_fld, ly_c31]; rfl
theorem ly_p31_9 {v : Int32} : am_pf (am_mk x true Z C L R D) (x + 31) 10 9 .int (.int v) = some (am_mk x true Z (ux C 31 9 v) L R D) := by
  rw [am_pf, ly_c31]
  simp only
  rw [if_pos ⟨trivial, by simp only [List.length_cons, List.length_nil]; decide, rfl⟩, ← uk_upd]
  exact congrArg some ((ly_put (o := 31) (f := upd (C 31) 9 v) (g := L 31) (r := R 31) rfl).trans (by rw [uk_self, uk_self]))
theorem ly_g31_10 : am_fld (am_mk x true Z C L R D) (x + 31) 10 10 = some (.int (C 31 10)) := by rw [am_fld, ly_c31]; rfl
theorem ly_p31_10 {v : Int32} : am_pf (am_mk x true Z C L R D) (x + 31) 10 10 .int (.int v) = some (am_mk x true Z (ux C 31 10 v) L R D) := by
  rw [am_pf, ly_c31]
  simp only
  rw [if_pos ⟨trivial, by simp only [List.length_cons, List.length_nil]; decide, rfl⟩, ← uk_upd]
  exact congrArg some ((ly_put (o := 31) (f := upd (C 31) 10 v) (g := L 31) (r := R 31) rfl).trans (by rw [uk_self, uk_self]))
theorem ly_g31_11 : am_fld (am_mk x true Z C L R D) (x + 31) 10 11 = some (.ref (x + 35)) := by rw [am_fld, ly_c31]; rfl
theorem ly_g31_12 : am_fld (am_mk x true Z C L R D) (x + 31) 10 12 = some (.ref (x + 36)) := by rw [am_fld, ly_c31]; rfl
theorem ly_g31_13 : am_fld (am_mk x true Z C L R D) (x + 31) 10 13 = some (.int (C 31 13)) := by rw [am_fld, ly_c31]; rfl
theorem ly_p31_13 {v : Int32} : am_pf (am_mk x true Z C L R D) (x + 31) 10 13 .int (.int v) = some (am_mk x true Z (ux C 31 13 v) L R D) := by
  rw [am_pf, ly_c31]
  simp only
  rw [if_pos ⟨trivial, by simp only [List.length_cons, List.length_nil]; decide, rfl⟩, ← uk_upd]
  exact congrArg some ((ly_put (o := 31) (f := upd (C 31) 13 v) (g := L 31) (r := R 31) rfl).trans (by rw [uk_self, uk_self]))
theorem ly_g31_14 : am_fld (am_mk x true Z C L R D) (x + 31) 10 14 = some (.ref (x + 37)) := by rw [am_fld, ly_c31]; rfl
theorem ly_g31_15 : am_fld (am_mk x true Z C L R D) (x + 31) 10 15 = some (.ref (x + 38)) := by rw [am_fld, ly_c31]; rfl
theorem ly_g31_16 : am_fld (am_mk x true Z C L R D) (x + 31) 10 16 = some (.ref (x + 39)) := by rw [am_fld, ly_c31]; rfl
theorem ly_g31_17 : am_fld (am_mk x true Z C L R D) (x + 31) 10 17 = some (.int (C 31 17)) := by rw [am_fld, ly_c31]; rfl
theorem ly_p31_17 {v : Int32} : am_pf (am_mk x true Z C L R D) (x + 31) 10 17 .int (.int v) = some (am_mk x true Z (ux C 31 17 v) L R D) := by
  rw [am_pf, ly_c31]
  simp only
  rw [if_pos ⟨trivial, by simp only [List.length_cons, List.length_nil]; decide, rfl⟩, ← uk_upd]
  exact congrArg some ((ly_put (o := 31) (f := upd (C 31) 17 v) (g := L 31) (r := R 31) rfl).trans (by rw [uk_self, uk_self]))
theorem ly_g31_18 : am_fld (am_mk x true Z C L R D) (x + 31) 10 18 = some (.ref (x + 40)) := by rw [am_fld, ly_c31]; rfl
theorem ly_g31_19 : am_fld (am_mk x true Z C L R D) (x + 31) 10 19 = some (.ref (x + 41)) := by rw [am_fld, ly_c31]; rfl
theorem ly_g31_20 : am_fld (am_mk x true Z C L R D) (x + 31) 10 20 = some (.ref (x + 42)) := by rw [am_fld, ly_c31]; rfl
theorem ly_g31_21 : am_fld (am_mk x true Z C L R D) (x + 31) 10 21 = some (.ref (x + 43)) := by rw [am_fld, ly_c31]; rfl
theorem ly_g31_22 : am_fld (am_mk x true Z C L R D) (x + 31) 10 22 = some (.ref (x + 44)) := by rw [am_fld, ly_c31]; rfl
theorem ly_g31_23 : am_fld (am_mk x true Z C L R D) (x + 31) 10 23 = some (.ref (x + 45)) := by rw [am_fld, ly_c31]; rfl
theorem ly_g31_24 : am_fld (am_mk x true Z C L R D) (x + 31) 10 24 = some (.ref (x + 46)) := by rw [am_fld, ly_c31]; rfl
theorem ly_g31_25 : am_fld (am_mk x true Z C L R D) (x + 31) 10 25 = some (.ref (x + 47)) := by rw [am_fld, ly_c31]; rfl
theorem ly_g31_26 : am_fld (am_mk x true Z C L R D) (x + 31) 10 26 = some (.ref (x + 48)) := by rw [am_fld, ly_c31]; rfl
theorem ly_g31_27 : am_fld (am_mk x true Z C L R D) (x + 31) 10 27 = some (.int (C 31 27)) := by rw [am_fld, ly_c31]; rfl
theorem ly_p31_27 {v : Int32} : am_pf (am_mk x true Z C L R D) (x + 31) 10 27 .int (.int v) = some (am_mk x true Z (ux C 31 27 v) L R D) := by
  rw [am_pf, ly_c31]
  simp only
  rw [if_pos ⟨trivial, by simp only [List.length_cons, List.length_nil]; decide, rfl⟩, ← uk_upd]
  exact congrArg some ((ly_put (o := 31) (f := upd (C 31) 27 v) (g := L 31) (r := R 31) rfl).trans (by rw [uk_self, uk_self]))
theorem ly_g31_28 : am_fld (am_mk x true Z C L R D) (x + 31) 10 28 = some (.int (C 31 28)) := by rw [am_fld, ly_c31]; rfl
theorem ly_p31_28 {v : Int32} : am_pf (am_mk x true Z C L R D) (x + 31) 10 28 .int (.int v) = some (am_mk x true Z (ux C 31 28 v) L R D) := by
  rw [am_pf, ly_c31]
  simp only
  rw [if_pos ⟨trivial, by simp only [List.length_cons, List.length_nil]; decide, rfl⟩, ← uk_upd]
  exact congrArg some ((ly_put (o := 31) (f := upd (C 31) 28 v) (g := L 31) (r := R 31) rfl).trans (by rw [uk_self, uk_self]))
theorem ly_g31_29 : am_fld (am_mk x true Z C L R D) (x + 31) 10 29 = some (.int (C 31 29)) := by rw [am_fld, ly_c31]; rfl
theorem ly_p31_29 {v : Int32} : am_pf (am_mk x true Z C L R D) (x + 31) 10 29 .int (.int v) = some (am_mk x true Z (ux C 31 29 v) L R D) := by
  rw [am_pf, ly_c31]
  simp only
  rw [if_pos ⟨trivial, by simp only [List.length_cons, List.length_nil]; decide, rfl⟩, ← uk_upd]
  exact congrArg some ((ly_put (o := 31) (f := upd (C 31) 29 v) (g := L 31) (r := R 31) rfl).trans (by rw [uk_self, uk_self]))
theorem ly_g31_30 : am_fld (am_mk x true Z C L R D) (x + 31) 10 30 = some (.int (C 31 30)) := by rw [am_fld, ly_c31]; rfl
theorem ly_p31_30 {v : Int32} : am_pf (am_mk x true Z C L R D) (x + 31) 10 30 .int (.int v) = some (am_mk x true Z (ux C 31 30 v) L R D) := by
  rw [am_pf, ly_c31]
  simp only
  rw [if_pos ⟨trivial, by simp only [List.length_cons, List.length_nil]; decide, rfl⟩, ← uk_upd]
  exact congrArg some ((ly_put (o := 31) (f := upd (C 31) 30 v) (g := L 31) (r := R 31) rfl).trans (by rw [uk_self, uk_self]))
theorem ly_g31_31 : am_fld (am_mk x true Z C L R D) (x + 31) 10 31 = some (.int (C 31 31)) := by rw [am_fld, ly_c31]; rfl
theorem ly_p31_31 {v : Int32} : am_pf (am_mk x true Z C L R D) (x + 31) 10 31 .int (.int v) = some (am_mk x true Z (ux C 31 31 v) L R D) := by
  rw [am_pf, ly_c31]
  simp only
  rw [if_pos ⟨trivial, by simp only [List.length_cons, List.length_nil]; decide, rfl⟩, ← uk_upd]
  exact congrArg some ((ly_put (o := 31) (f := upd (C 31) 31 v) (g := L 31) (r := R 31) rfl).trans (by rw [uk_self, uk_self]))
theorem ly_g31_32 : am_fld (am_mk x true Z C L R D) (x + 31) 10 32 = some (.long (L 31 32)) := by rw [am_fld, ly_c31]; rfl
theorem ly_p31_32 {v : Int64} : am_pf (am_mk x true Z C L R D) (x + 31) 10 32 .long (.long v) = some (am_mk x true Z C (ux L 31 32 v) R D) := by
  rw [am_pf, ly_c31]
  simp only
  rw [if_pos ⟨trivial, by simp only [List.length_cons, List.length_nil]; decide, rfl⟩, ← uk_updL]
  exact congrArg some ((ly_put (o := 31) (f := C 31) (g := vp_updL (L 31) 32 v) (r := R 31) rfl).trans (by rw [uk_self, uk_self]))
theorem ly_g31_33 : am_fld (am_mk x true Z C L R D) (x + 31) 10 33 = some (.int (C 31 33)) := by rw [am_fld, ly_c31]; rfl
theorem ly_p31_33 {v : Int32} : am_pf (am_mk x true Z C L R D) (x + 31) 10 33 .int (.int v) = some (am_mk x true Z (ux C 31 33 v) L R D) := by
  rw [am_pf, ly_c31]
  simp only
  rw [if_pos ⟨trivial, by simp only [List.length_cons, List.length_nil]; decide, rfl⟩, ← uk_upd]
  exact congrArg some ((ly_put (o := 31) (f := upd (C 31) 33 v) (g := L 31) (r := R 31) rfl).trans (by rw [uk_self, uk_self]))
theorem ly_g31_34 : am_fld (am_mk x true Z C L R D) (x + 31) 10 34 = some (.int (C 31 34)) := by rw [am_fld, ly_c31]; rfl
theorem ly_p31_34 {v : Int32} : am_pf (am_mk x true Z C L R D) (x + 31) 10 34 .int (.int v) = some (am_mk x true Z (ux C 31 34 v) L R D) := by
  rw [am_pf, ly_c31]
  simp only
  rw [if_pos ⟨trivial, by simp only [List.length_cons, List.length_nil]; decide, rfl⟩, ← uk_upd]
  exact congrArg some ((ly_put (o := 31) (f := upd (C 31) 34 v) (g := L 31) (r := R 31) rfl).trans (by rw [uk_self, uk_self]))
theorem ly_g31_35 : am_fld (am_mk x true Z C L R D) (x + 31) 10 35 = some (.int (C 31 35)) := by rw [am_fld, ly_c31]; rfl
theorem ly_p31_35 {v : Int32} (hv : v = 0 ∨ v = 1) : am_pf (am_mk x true Z C L R D) (x + 31) 10 35 .boolean (.int v) = some (am_mk x true Z (ux C 31 35 v) L R D) := by
  rw [am_pf, ly_c31]
  simp only
  rw [if_pos ⟨trivial, by simp only [List.length_cons, List.length_nil]; decide, decide_eq_true hv⟩, ← uk_upd]
  exact congrArg some ((ly_put (o := 31) (f := upd (C 31) 35 v) (g := L 31) (r := R 31) rfl).trans (by rw [uk_self, uk_self]))
theorem ly_g31_36 : am_fld (am_mk x true Z C L R D) (x + 31) 10 36 = some (.int (C 31 36)) := by rw [am_fld, ly_c31]; rfl
theorem ly_p31_36 {v : Int32} : am_pf (am_mk x true Z C L R D) (x + 31) 10 36 .int (.int v) = some (am_mk x true Z (ux C 31 36 v) L R D) := by
  rw [am_pf, ly_c31]
  simp only
  rw [if_pos ⟨trivial, by simp only [List.length_cons, List.length_nil]; decide, rfl⟩, ← uk_upd]
  exact congrArg some ((ly_put (o := 31) (f := upd (C 31) 36 v) (g := L 31) (r := R 31) rfl).trans (by rw [uk_self, uk_self]))
theorem ly_g31_37 : am_fld (am_mk x true Z C L R D) (x + 31) 10 37 = some (.int (C 31 37)) := by rw [am_fld, ly_c31]; rfl
theorem ly_p31_37 {v : Int32} : am_pf (am_mk x true Z C L R D) (x + 31) 10 37 .int (.int v) = some (am_mk x true Z (ux C 31 37 v) L R D) := by
  rw [am_pf, ly_c31]
  simp only
  rw [if_pos ⟨trivial, by simp only [List.length_cons, List.length_nil]; decide, rfl⟩, ← uk_upd]
  exact congrArg some ((ly_put (o := 31) (f := upd (C 31) 37 v) (g := L 31) (r := R 31) rfl).trans (by rw [uk_self, uk_self]))
theorem ly_g31_38 : am_fld (am_mk x true Z C L R D) (x + 31) 10 38 = some (.ref (x + 49)) := by rw [am_fld, ly_c31]; rfl
theorem ly_g31_39 : am_fld (am_mk x true Z C L R D) (x + 31) 10 39 = some (.ref (x + 50)) := by rw [am_fld, ly_c31]; rfl
theorem ly_g31_40 : am_fld (am_mk x true Z C L R D) (x + 31) 10 40 = some (.ref (x + 51)) := by rw [am_fld, ly_c31]; rfl
theorem ly_g31_41 : am_fld (am_mk x true Z C L R D) (x + 31) 10 41 = some (.int (C 31 41)) := by rw [am_fld, ly_c31]; rfl
theorem ly_p31_41 {v : Int32} : am_pf (am_mk x true Z C L R D) (x + 31) 10 41 .int (.int v) = some (am_mk x true Z (ux C 31 41 v) L R D) := by
  rw [am_pf, ly_c31]
  simp only
  rw [if_pos ⟨trivial, by simp only [List.length_cons, List.length_nil]; decide, rfl⟩, ← uk_upd]
  exact congrArg some ((ly_put (o := 31) (f := upd (C 31) 41 v) (g := L 31) (r := R 31) rfl).trans (by rw [uk_self, uk_self]))
theorem ly_g31_42 : am_fld (am_mk x true Z C L R D) (x + 31) 10 42 = some (.int (C 31 42)) := by rw [am_fld, ly_c31]; rfl
theorem ly_p31_42 {v : Int32} : am_pf (am_mk x true Z C L R D) (x + 31) 10 42 .int (.int v) = some (am_mk x true Z (ux C 31 42 v) L R D) := by
  rw [am_pf, ly_c31]
  simp only
  rw [if_pos ⟨trivial, by simp only [List.length_cons, List.length_nil]; decide, rfl⟩, ← uk_upd]
  exact congrArg some ((ly_put (o := 31) (f := upd (C 31) 42 v) (g := L 31) (r := R 31) rfl).trans (by rw [uk_self, uk_self]))
theorem ly_g31_43 : am_fld (am_mk x true Z C L R D) (x + 31) 10 43 = some (.int (C 31 43)) := by rw [am_fld, ly_c31]; rfl
theorem ly_p31_43 {v : Int32} : am_pf (am_mk x true Z C L R D) (x + 31) 10 43 .int (.int v) = some (am_mk x true Z (ux C 31 43 v) L R D) := by
  rw [am_pf, ly_c31]
  simp only
  rw [if_pos ⟨trivial, by simp only [List.length_cons, List.length_nil]; decide, rfl⟩, ← uk_upd]
  exact congrArg some ((ly_put (o := 31) (f := upd (C 31) 43 v) (g := L 31) (r := R 31) rfl).trans (by rw [uk_self, uk_self]))
theorem ly_g31_44 : am_fld (am_mk x true Z C L R D) (x + 31) 10 44 = some (.ref (x + 52)) := by rw [am_fld, ly_c31]; rfl
theorem ly_g31_45 : am_fld (am_mk x true Z C L R D) (x + 31) 10 45 = some (.ref (x + 53)) := by rw [am_fld, ly_c31]; rfl
theorem ly_g31_46 : am_fld (am_mk x true Z C L R D) (x + 31) 10 46 = some (.int (C 31 46)) := by rw [am_fld, ly_c31]; rfl
theorem ly_p31_46 {v : Int32} (hv : v = 0 ∨ v = 1) : am_pf (am_mk x true Z C L R D) (x + 31) 10 46 .boolean (.int v) = some (am_mk x true Z (ux C 31 46 v) L R D) := by
  rw [am_pf, ly_c31]
  simp only
  rw [if_pos ⟨trivial, by simp only [List.length_cons, List.length_nil]; decide, decide_eq_true hv⟩, ← uk_upd]
  exact congrArg some ((ly_put (o := 31) (f := upd (C 31) 46 v) (g := L 31) (r := R 31) rfl).trans (by rw [uk_self, uk_self]))
theorem ly_g31_47 : am_fld (am_mk x true Z C L R D) (x + 31) 10 47 = some (.int (C 31 47)) := by rw [am_fld, ly_c31]; rfl
theorem ly_p31_47 {v : Int32} : am_pf (am_mk x true Z C L R D) (x + 31) 10 47 .int (.int v) = some (am_mk x true Z (ux C 31 47 v) L R D) := by
  rw [am_pf, ly_c31]
  simp only
  rw [if_pos ⟨trivial, by simp only [List.length_cons, List.length_nil]; decide, rfl⟩, ← uk_upd]
  exact congrArg some ((ly_put (o := 31) (f := upd (C 31) 47 v) (g := L 31) (r := R 31) rfl).trans (by rw [uk_self, uk_self]))
theorem ly_g31_48 : am_fld (am_mk x true Z C L R D) (x + 31) 10 48 = some (.int (C 31 48)) := by rw [am_fld, ly_c31]; rfl
theorem ly_p31_48 {v : Int32} : am_pf (am_mk x true Z C L R D) (x + 31) 10 48 .int (.int v) = some (am_mk x true Z (ux C 31 48 v) L R D) := by
  rw [am_pf, ly_c31]
  simp only
  rw [if_pos ⟨trivial, by simp only [List.length_cons, List.length_nil]; decide, rfl⟩, ← uk_upd]
  exact congrArg some ((ly_put (o := 31) (f := upd (C 31) 48 v) (g := L 31) (r := R 31) rfl).trans (by rw [uk_self, uk_self]))
theorem ly_g31_49 : am_fld (am_mk x true Z C L R D) (x + 31) 10 49 = some (.int (C 31 49)) := by rw [am_fld, ly_c31]; rfl
theorem ly_p31_49 {v : Int32} : am_pf (am_mk x true Z C L R D) (x + 31) 10 49 .int (.int v) = some (am_mk x true Z (ux C 31 49 v) L R D) := by
  rw [am_pf, ly_c31]
  simp only
  rw [if_pos ⟨trivial, by simp only [List.length_cons, List.length_nil]; decide, rfl⟩, ← uk_upd]
  exact congrArg some ((ly_put (o := 31) (f := upd (C 31) 49 v) (g := L 31) (r := R 31) rfl).trans (by rw [uk_self, uk_self]))
theorem ly_g31_50 : am_fld (am_mk x true Z C L R D) (x + 31) 10 50 = some (.int (C 31 50)) := by rw [am_fld, ly_c31]; rfl
theorem ly_p31_50 {v : Int32} : am_pf (am_mk x true Z C L R D) (x + 31) 10 50 .int (.int v) = some (am_mk x true Z (ux C 31 50 v) L R D) := by
  rw [am_pf, ly_c31]
  simp only
  rw [if_pos ⟨trivial, by simp only [List.length_cons, List.length_nil]; decide, rfl⟩, ← uk_upd]
  exact congrArg some ((ly_put (o := 31) (f := upd (C 31) 50 v) (g := L 31) (r := R 31) rfl).trans (by rw [uk_self, uk_self]))
theorem ly_g31_51 : am_fld (am_mk x true Z C L R D) (x + 31) 10 51 = some (.int (C 31 51)) := by rw [am_fld, ly_c31]; rfl
theorem ly_p31_51 {v : Int32} : am_pf (am_mk x true Z C L R D) (x + 31) 10 51 .int (.int v) = some (am_mk x true Z (ux C 31 51 v) L R D) := by
  rw [am_pf, ly_c31]
  simp only
  rw [if_pos ⟨trivial, by simp only [List.length_cons, List.length_nil]; decide, rfl⟩, ← uk_upd]
  exact congrArg some ((ly_put (o := 31) (f := upd (C 31) 51 v) (g := L 31) (r := R 31) rfl).trans (by rw [uk_self, uk_self]))
theorem ly_g31_52 : am_fld (am_mk x true Z C L R D) (x + 31) 10 52 = some (.int (C 31 52)) := by rw [am_fld, ly_c31]; rfl
theorem ly_p31_52 {v : Int32} : am_pf (am_mk x true Z C L R D) (x + 31) 10 52 .int (.int v) = some (am_mk x true Z (ux C 31 52 v) L R D) := by
  rw [am_pf, ly_c31]
  simp only
  rw [if_pos ⟨trivial, by simp only [List.length_cons, List.length_nil]; decide, rfl⟩, ← uk_upd]
  exact congrArg some ((ly_put (o := 31) (f := upd (C 31) 52 v) (g := L 31) (r := R 31) rfl).trans (by rw [uk_self, uk_self]))
theorem ly_g31_53 : am_fld (am_mk x true Z C L R D) (x + 31) 10 53 = some (.int (C 31 53)) := by rw [am_fld, ly_c31]; rfl
theorem ly_p31_53 {v : Int32} : am_pf (am_mk x true Z C L R D) (x + 31) 10 53 .int (.int v) = some (am_mk x true Z (ux C 31 53 v) L R D) := by
  rw [am_pf, ly_c31]
  simp only
  rw [if_pos ⟨trivial, by simp only [List.length_cons, List.length_nil]; decide, rfl⟩, ← uk_upd]
  exact congrArg some ((ly_put (o := 31) (f := upd (C 31) 53 v) (g := L 31) (r := R 31) rfl).trans (by rw [uk_self, uk_self]))
theorem ly_g31_54 : am_fld (am_mk x true Z C L R D) (x + 31) 10 54 = some (.ref (x + 54)) := by rw [am_fld, ly_c31]; rfl
theorem ly_g31_55 : am_fld (am_mk x true Z C L R D) (x + 31) 10 55 = some (.ref (x + 55)) := by rw [am_fld, ly_c31]; rfl
theorem ly_g31_56 : am_fld (am_mk x true Z C L R D) (x + 31) 10 56 = some (.ref (x + 56)) := by rw [am_fld, ly_c31]; rfl
theorem ly_g31_57 : am_fld (am_mk x true Z C L R D) (x + 31) 10 57 = some (.ref (x + 57)) := by rw [am_fld, ly_c31]; rfl
theorem ly_c32 : (am_mk x true Z C L R D).2 (x + 32) = some (.inl (0, 960, .inl (C 32))) := ly_get (o := 32) rfl
theorem ly_n32 : am_len (am_mk x true Z C L R D) (x + 32) = some 960 := by rw [am_len, ly_c32]
theorem ly_r32 {j : Nat} (h : j < 960) : am_ag 0 (am_mk x true Z C L R D) (x + 32) (Int32.ofNat j) = some (.int (C 32 j)) := by
  have e : (Int32.ofNat j).toNatClampNeg = j := Int32.toNatClampNeg_ofNat_of_lt (by omega)
  rw [am_ag, ly_c32]
  simp only [e]
  rw [if_pos ⟨rfl, ly_nn (by omega), h⟩]
  rfl
theorem ly_w32 {j : Nat} {v : Int32} (h : j < 960) : am_pi (am_mk x true Z C L R D) (x + 32) (Int32.ofNat j) v = some (am_mk x true Z (ux C 32 j v) L R D) := by
  have e : (Int32.ofNat j).toNatClampNeg = j := Int32.toNatClampNeg_ofNat_of_lt (by omega)
  rw [am_pi, ly_c32]
  simp only [e]
  rw [if_pos ⟨trivial, ly_nn (by omega), h⟩, ← uk_upd]
  exact congrArg some ((ly_put (o := 32) (f := upd (C 32) j v) (g := L 32) (r := R 32) rfl).trans (by rw [uk_self, uk_self]))
theorem ly_c33 : (am_mk x true Z C L R D).2 (x + 33) = some (.inl (0, 6, .inl (C 33))) := ly_get (o := 33) rfl
theorem ly_n33 : am_len (am_mk x true Z C L R D) (x + 33) = some 6 := by rw [am_len, ly_c33]
theorem ly_r33 {j : Nat} (h : j < 6) : am_ag 0 (am_mk x true Z C L R D) (x + 33) (Int32.ofNat j) = some (.int (C 33 j)) := by
  have e : (Int32.ofNat j).toNatClampNeg = j := Int32.toNatClampNeg_ofNat_of_lt (by omega)
  rw [am_ag, ly_c33]
  simp only [e]
  rw [if_pos ⟨rfl, ly_nn (by omega), h⟩]
  rfl
theorem ly_w33 {j : Nat} {v : Int32} (h : j < 6) : am_pi (am_mk x true Z C L R D) (x + 33) (Int32.ofNat j) v = some (am_mk x true Z (ux C 33 j v) L R D) := by
  have e : (Int32.ofNat j).toNatClampNeg = j := Int32.toNatClampNeg_ofNat_of_lt (by omega)
  rw [am_pi, ly_c33]
  simp only [e]
  rw [if_pos ⟨trivial, ly_nn (by omega), h⟩, ← uk_upd]
  exact congrArg some ((ly_put (o := 33) (f := upd (C 33) j v) (g := L 33) (r := R 33) rfl).trans (by rw [uk_self, uk_self]))
theorem ly_c34 : (am_mk x true Z C L R D).2 (x + 34) = some (.inl (0, 160, .inl (C 34))) := ly_get (o := 34) rfl
theorem ly_n34 : am_len (am_mk x true Z C L R D) (x + 34) = some 160 := by rw [am_len, ly_c34]
theorem ly_r34 {j : Nat} (h : j < 160) : am_ag 0 (am_mk x true Z C L R D) (x + 34) (Int32.ofNat j) = some (.int (C 34 j)) := by
  have e : (Int32.ofNat j).toNatClampNeg = j := Int32.toNatClampNeg_ofNat_of_lt (by omega)
  rw [am_ag, ly_c34]
  simp only [e]
  rw [if_pos ⟨rfl, ly_nn (by omega), h⟩]
  rfl
theorem ly_w34 {j : Nat} {v : Int32} (h : j < 160) : am_pi (am_mk x true Z C L R D) (x + 34) (Int32.ofNat j) v = some (am_mk x true Z (ux C 34 j v) L R D) := by
  have e : (Int32.ofNat j).toNatClampNeg = j := Int32.toNatClampNeg_ofNat_of_lt (by omega)
  rw [am_pi, ly_c34]
  simp only [e]
  rw [if_pos ⟨trivial, ly_nn (by omega), h⟩, ← uk_upd]
  exact congrArg some ((ly_put (o := 34) (f := upd (C 34) j v) (g := L 34) (r := R 34) rfl).trans (by rw [uk_self, uk_self]))
theorem ly_c35 : (am_mk x true Z C L R D).2 (x + 35) = some (.inl (0, 24, .inl (C 35))) := ly_get (o := 35) rfl
theorem ly_n35 : am_len (am_mk x true Z C L R D) (x + 35) = some 24 := by rw [am_len, ly_c35]
theorem ly_r35 {j : Nat} (h : j < 24) : am_ag 0 (am_mk x true Z C L R D) (x + 35) (Int32.ofNat j) = some (.int (C 35 j)) := by
  have e : (Int32.ofNat j).toNatClampNeg = j := Int32.toNatClampNeg_ofNat_of_lt (by omega)
  rw [am_ag, ly_c35]
  simp only [e]
  rw [if_pos ⟨rfl, ly_nn (by omega), h⟩]
  rfl
theorem ly_w35 {j : Nat} {v : Int32} (h : j < 24) : am_pi (am_mk x true Z C L R D) (x + 35) (Int32.ofNat j) v = some (am_mk x true Z (ux C 35 j v) L R D) := by
  have e : (Int32.ofNat j).toNatClampNeg = j := Int32.toNatClampNeg_ofNat_of_lt (by omega)
  rw [am_pi, ly_c35]
  simp only [e]
  rw [if_pos ⟨trivial, ly_nn (by omega), h⟩, ← uk_upd]
  exact congrArg some ((ly_put (o := 35) (f := upd (C 35) j v) (g := L 35) (r := R 35) rfl).trans (by rw [uk_self, uk_self]))
theorem ly_c36 : (am_mk x true Z C L R D).2 (x + 36) = some (.inl (0, 8, .inl (C 36))) := ly_get (o := 36) rfl
theorem ly_n36 : am_len (am_mk x true Z C L R D) (x + 36) = some 8 := by rw [am_len, ly_c36]
theorem ly_r36 {j : Nat} (h : j < 8) : am_ag 0 (am_mk x true Z C L R D) (x + 36) (Int32.ofNat j) = some (.int (C 36 j)) := by
  have e : (Int32.ofNat j).toNatClampNeg = j := Int32.toNatClampNeg_ofNat_of_lt (by omega)
  rw [am_ag, ly_c36]
  simp only [e]
  rw [if_pos ⟨rfl, ly_nn (by omega), h⟩]
  rfl
theorem ly_w36 {j : Nat} {v : Int32} (h : j < 8) : am_pi (am_mk x true Z C L R D) (x + 36) (Int32.ofNat j) v = some (am_mk x true Z (ux C 36 j v) L R D) := by
  have e : (Int32.ofNat j).toNatClampNeg = j := Int32.toNatClampNeg_ofNat_of_lt (by omega)
  rw [am_pi, ly_c36]
  simp only [e]
  rw [if_pos ⟨trivial, ly_nn (by omega), h⟩, ← uk_upd]
  exact congrArg some ((ly_put (o := 36) (f := upd (C 36) j v) (g := L 36) (r := R 36) rfl).trans (by rw [uk_self, uk_self]))
theorem ly_c37 : (am_mk x true Z C L R D).2 (x + 37) = some (.inl (0, 6, .inl (C 37))) := ly_get (o := 37) rfl
theorem ly_n37 : am_len (am_mk x true Z C L R D) (x + 37) = some 6 := by rw [am_len, ly_c37]
theorem ly_r37 {j : Nat} (h : j < 6) : am_ag 0 (am_mk x true Z C L R D) (x + 37) (Int32.ofNat j) = some (.int (C 37 j)) := by
  have e : (Int32.ofNat j).toNatClampNeg = j := Int32.toNatClampNeg_ofNat_of_lt (by omega)
  rw [am_ag, ly_c37]
  simp only [e]
  rw [if_pos ⟨rfl, ly_nn (by omega), h⟩]
  rfl
theorem ly_w37 {j : Nat} {v : Int32} (h : j < 6) : am_pi (am_mk x true Z C L R D) (x + 37) (Int32.ofNat j) v = some (am_mk x true Z (ux C 37 j v) L R D) := by
  have e : (Int32.ofNat j).toNatClampNeg = j := Int32.toNatClampNeg_ofNat_of_lt (by omega)
  rw [am_pi, ly_c37]
  simp only [e]
  rw [if_pos ⟨trivial, ly_nn (by omega), h⟩, ← uk_upd]
  exact congrArg some ((ly_put (o := 37) (f := upd (C 37) j v) (g := L 37) (r := R 37) rfl).trans (by rw [uk_self, uk_self]))
theorem ly_c38 : (am_mk x true Z C L R D).2 (x + 38) = some (.inl (0, 6, .inl (C 38))) := ly_get (o := 38) rfl
theorem ly_n38 : am_len (am_mk x true Z C L R D) (x + 38) = some 6 := by rw [am_len, ly_c38]
theorem ly_r38 {j : Nat} (h : j < 6) : am_ag 0 (am_mk x true Z C L R D) (x + 38) (Int32.ofNat j) = some (.int (C 38 j)) := by
  have e : (Int32.ofNat j).toNatClampNeg = j := Int32.toNatClampNeg_ofNat_of_lt (by omega)
  rw [am_ag, ly_c38]
  simp only [e]
  rw [if_pos ⟨rfl, ly_nn (by omega), h⟩]
  rfl
theorem ly_w38 {j : Nat} {v : Int32} (h : j < 6) : am_pi (am_mk x true Z C L R D) (x + 38) (Int32.ofNat j) v = some (am_mk x true Z (ux C 38 j v) L R D) := by
  have e : (Int32.ofNat j).toNatClampNeg = j := Int32.toNatClampNeg_ofNat_of_lt (by omega)
  rw [am_pi, ly_c38]
  simp only [e]
  rw [if_pos ⟨trivial, ly_nn (by omega), h⟩, ← uk_upd]
  exact congrArg some ((ly_put (o := 38) (f := upd (C 38) j v) (g := L 38) (r := R 38) rfl).trans (by rw [uk_self, uk_self]))
theorem ly_c39 : (am_mk x true Z C L R D).2 (x + 39) = some (.inl (0, 6, .inl (C 39))) := ly_get (o := 39) rfl
theorem ly_n39 : am_len (am_mk x true Z C L R D) (x + 39) = some 6 := by rw [am_len, ly_c39]
theorem ly_r39 {j : Nat} (h : j < 6) : am_ag 0 (am_mk x true Z C L R D) (x + 39) (Int32.ofNat j) = some (.int (C 39 j)) := by
  have e : (Int32.ofNat j).toNatClampNeg = j := Int32.toNatClampNeg_ofNat_of_lt (by omega)
  rw [am_ag, ly_c39]
  simp only [e]
  rw [if_pos ⟨rfl, ly_nn (by omega), h⟩]
  rfl
theorem ly_w39 {j : Nat} {v : Int32} (h : j < 6) : am_pi (am_mk x true Z C L R D) (x + 39) (Int32.ofNat j) v = some (am_mk x true Z (ux C 39 j v) L R D) := by
  have e : (Int32.ofNat j).toNatClampNeg = j := Int32.toNatClampNeg_ofNat_of_lt (by omega)
  rw [am_pi, ly_c39]
  simp only [e]
  rw [if_pos ⟨trivial, ly_nn (by omega), h⟩, ← uk_upd]
  exact congrArg some ((ly_put (o := 39) (f := upd (C 39) j v) (g := L 39) (r := R 39) rfl).trans (by rw [uk_self, uk_self]))
theorem ly_c40 : (am_mk x true Z C L R D).2 (x + 40) = some (.inl (0, 6, .inl (C 40))) := ly_get (o := 40) rfl
theorem ly_n40 : am_len (am_mk x true Z C L R D) (x + 40) = some 6 := by rw [am_len, ly_c40]
theorem ly_r40 {j : Nat} (h : j < 6) : am_ag 0 (am_mk x true Z C L R D) (x + 40) (Int32.ofNat j) = some (.int (C 40 j)) := by
  have e : (Int32.ofNat j).toNatClampNeg = j := Int32.toNatClampNeg_ofNat_of_lt (by omega)
  rw [am_ag, ly_c40]
  simp only [e]
  rw [if_pos ⟨rfl, ly_nn (by omega), h⟩]
  rfl
theorem ly_w40 {j : Nat} {v : Int32} (h : j < 6) : am_pi (am_mk x true Z C L R D) (x + 40) (Int32.ofNat j) v = some (am_mk x true Z (ux C 40 j v) L R D) := by
  have e : (Int32.ofNat j).toNatClampNeg = j := Int32.toNatClampNeg_ofNat_of_lt (by omega)
  rw [am_pi, ly_c40]
  simp only [e]
  rw [if_pos ⟨trivial, ly_nn (by omega), h⟩, ← uk_upd]
  exact congrArg some ((ly_put (o := 40) (f := upd (C 40) j v) (g := L 40) (r := R 40) rfl).trans (by rw [uk_self, uk_self]))
theorem ly_c41 : (am_mk x true Z C L R D).2 (x + 41) = some (.inl (0, 36, .inl (C 41))) := ly_get (o := 41) rfl
theorem ly_n41 : am_len (am_mk x true Z C L R D) (x + 41) = some 36 := by rw [am_len, ly_c41]
theorem ly_r41 {j : Nat} (h : j < 36) : am_ag 0 (am_mk x true Z C L R D) (x + 41) (Int32.ofNat j) = some (.int (C 41 j)) := by
  have e : (Int32.ofNat j).toNatClampNeg = j := Int32.toNatClampNeg_ofNat_of_lt (by omega)
  rw [am_ag, ly_c41]
  simp only [e]
  rw [if_pos ⟨rfl, ly_nn (by omega), h⟩]
  rfl
theorem ly_w41 {j : Nat} {v : Int32} (h : j < 36) : am_pi (am_mk x true Z C L R D) (x + 41) (Int32.ofNat j) v = some (am_mk x true Z (ux C 41 j v) L R D) := by
  have e : (Int32.ofNat j).toNatClampNeg = j := Int32.toNatClampNeg_ofNat_of_lt (by omega)
  rw [am_pi, ly_c41]
  simp only [e]
  rw [if_pos ⟨trivial, ly_nn (by omega), h⟩, ← uk_upd]
  exact congrArg some ((ly_put (o := 41) (f := upd (C 41) j v) (g := L 41) (r := R 41) rfl).trans (by rw [uk_self, uk_self]))
theorem ly_c42 : (am_mk x true Z C L R D).2 (x + 42) = some (.inl (0, 36, .inl (C 42))) := ly_get (o := 42) rfl
theorem ly_n42 : am_len (am_mk x true Z C L R D) (x + 42) = some 36 := by rw [am_len, ly_c42]
theorem ly_r42 {j : Nat} (h : j < 36) : am_ag 0 (am_mk x true Z C L R D) (x + 42) (Int32.ofNat j) = some (.int (C 42 j)) := by
  have e : (Int32.ofNat j).toNatClampNeg = j := Int32.toNatClampNeg_ofNat_of_lt (by omega)
  rw [am_ag, ly_c42]
  simp only [e]
  rw [if_pos ⟨rfl, ly_nn (by omega), h⟩]
  rfl
theorem ly_w42 {j : Nat} {v : Int32} (h : j < 36) : am_pi (am_mk x true Z C L R D) (x + 42) (Int32.ofNat j) v = some (am_mk x true Z (ux C 42 j v) L R D) := by
  have e : (Int32.ofNat j).toNatClampNeg = j := Int32.toNatClampNeg_ofNat_of_lt (by omega)
  rw [am_pi, ly_c42]
  simp only [e]
  rw [if_pos ⟨trivial, ly_nn (by omega), h⟩, ← uk_upd]
  exact congrArg some ((ly_put (o := 42) (f := upd (C 42) j v) (g := L 42) (r := R 42) rfl).trans (by rw [uk_self, uk_self]))
theorem ly_c43 : (am_mk x true Z C L R D).2 (x + 43) = some (.inl (0, 40, .inl (C 43))) := ly_get (o := 43) rfl
theorem ly_n43 : am_len (am_mk x true Z C L R D) (x + 43) = some 40 := by rw [am_len, ly_c43]
theorem ly_r43 {j : Nat} (h : j < 40) : am_ag 0 (am_mk x true Z C L R D) (x + 43) (Int32.ofNat j) = some (.int (C 43 j)) := by
  have e : (Int32.ofNat j).toNatClampNeg = j := Int32.toNatClampNeg_ofNat_of_lt (by omega)
  rw [am_ag, ly_c43]
  simp only [e]
  rw [if_pos ⟨rfl, ly_nn (by omega), h⟩]
  rfl
theorem ly_w43 {j : Nat} {v : Int32} (h : j < 40) : am_pi (am_mk x true Z C L R D) (x + 43) (Int32.ofNat j) v = some (am_mk x true Z (ux C 43 j v) L R D) := by
  have e : (Int32.ofNat j).toNatClampNeg = j := Int32.toNatClampNeg_ofNat_of_lt (by omega)
  rw [am_pi, ly_c43]
  simp only [e]
  rw [if_pos ⟨trivial, ly_nn (by omega), h⟩, ← uk_upd]
  exact congrArg some ((ly_put (o := 43) (f := upd (C 43) j v) (g := L 43) (r := R 43) rfl).trans (by rw [uk_self, uk_self]))
theorem ly_c44 : (am_mk x true Z C L R D).2 (x + 44) = some (.inl (0, 40, .inl (C 44))) := ly_get (o := 44) rfl
theorem ly_n44 : am_len (am_mk x true Z C L R D) (x + 44) = some 40 := by rw [am_len, ly_c44]
theorem ly_r44 {j : Nat} (h : j < 40) : am_ag 0 (am_mk x true Z C L R D) (x + 44) (Int32.ofNat j) = some (.int (C 44 j)) := by
  have e : (Int32.ofNat j).toNatClampNeg = j := Int32.toNatClampNeg_ofNat_of_lt (by omega)
  rw [am_ag, ly_c44]
  simp only [e]
  rw [if_pos ⟨rfl, ly_nn (by omega), h⟩]
  rfl
theorem ly_w44 {j : Nat} {v : Int32} (h : j < 40) : am_pi (am_mk x true Z C L R D) (x + 44) (Int32.ofNat j) v = some (am_mk x true Z (ux C 44 j v) L R D) := by
  have e : (Int32.ofNat j).toNatClampNeg = j := Int32.toNatClampNeg_ofNat_of_lt (by omega)
  rw [am_pi, ly_c44]
  simp only [e]
  rw [if_pos ⟨trivial, ly_nn (by omega), h⟩, ← uk_upd]
  exact congrArg some ((ly_put (o := 44) (f := upd (C 44) j v) (g := L 44) (r := R 44) rfl).trans (by rw [uk_self, uk_self]))
theorem ly_c45 : (am_mk x true Z C L R D).2 (x + 45) = some (.inl (0, 40, .inl (C 45))) := ly_get (o := 45) rfl
theorem ly_n45 : am_len (am_mk x true Z C L R D) (x + 45) = some 40 := by rw [am_len, ly_c45]
theorem ly_r45 {j : Nat} (h : j < 40) : am_ag 0 (am_mk x true Z C L R D) (x + 45) (Int32.ofNat j) = some (.int (C 45 j)) := by
  have e : (Int32.ofNat j).toNatClampNeg = j := Int32.toNatClampNeg_ofNat_of_lt (by omega)
  rw [am_ag, ly_c45]
  simp only [e]
  rw [if_pos ⟨rfl, ly_nn (by omega), h⟩]
  rfl
theorem ly_w45 {j : Nat} {v : Int32} (h : j < 40) : am_pi (am_mk x true Z C L R D) (x + 45) (Int32.ofNat j) v = some (am_mk x true Z (ux C 45 j v) L R D) := by
  have e : (Int32.ofNat j).toNatClampNeg = j := Int32.toNatClampNeg_ofNat_of_lt (by omega)
  rw [am_pi, ly_c45]
  simp only [e]
  rw [if_pos ⟨trivial, ly_nn (by omega), h⟩, ← uk_upd]
  exact congrArg some ((ly_put (o := 45) (f := upd (C 45) j v) (g := L 45) (r := R 45) rfl).trans (by rw [uk_self, uk_self]))
theorem ly_c46 : (am_mk x true Z C L R D).2 (x + 46) = some (.inl (0, 40, .inl (C 46))) := ly_get (o := 46) rfl
theorem ly_n46 : am_len (am_mk x true Z C L R D) (x + 46) = some 40 := by rw [am_len, ly_c46]
theorem ly_r46 {j : Nat} (h : j < 40) : am_ag 0 (am_mk x true Z C L R D) (x + 46) (Int32.ofNat j) = some (.int (C 46 j)) := by
  have e : (Int32.ofNat j).toNatClampNeg = j := Int32.toNatClampNeg_ofNat_of_lt (by omega)
  rw [am_ag, ly_c46]
  simp only [e]
  rw [if_pos ⟨rfl, ly_nn (by omega), h⟩]
  rfl
theorem ly_w46 {j : Nat} {v : Int32} (h : j < 40) : am_pi (am_mk x true Z C L R D) (x + 46) (Int32.ofNat j) v = some (am_mk x true Z (ux C 46 j v) L R D) := by
  have e : (Int32.ofNat j).toNatClampNeg = j := Int32.toNatClampNeg_ofNat_of_lt (by omega)
  rw [am_pi, ly_c46]
  simp only [e]
  rw [if_pos ⟨trivial, ly_nn (by omega), h⟩, ← uk_upd]
  exact congrArg some ((ly_put (o := 46) (f := upd (C 46) j v) (g := L 46) (r := R 46) rfl).trans (by rw [uk_self, uk_self]))
theorem ly_c47 : (am_mk x true Z C L R D).2 (x + 47) = some (.inl (0, 40, .inl (C 47))) := ly_get (o := 47) rfl
theorem ly_n47 : am_len (am_mk x true Z C L R D) (x + 47) = some 40 := by rw [am_len, ly_c47]
theorem ly_r47 {j : Nat} (h : j < 40) : am_ag 0 (am_mk x true Z C L R D) (x + 47) (Int32.ofNat j) = some (.int (C 47 j)) := by
  have e : (Int32.ofNat j).toNatClampNeg = j := Int32.toNatClampNeg_ofNat_of_lt (by omega)
  rw [am_ag, ly_c47]
  simp only [e]
  rw [if_pos ⟨rfl, ly_nn (by omega), h⟩]
  rfl
theorem ly_w47 {j : Nat} {v : Int32} (h : j < 40) : am_pi (am_mk x true Z C L R D) (x + 47) (Int32.ofNat j) v = some (am_mk x true Z (ux C 47 j v) L R D) := by
  have e : (Int32.ofNat j).toNatClampNeg = j := Int32.toNatClampNeg_ofNat_of_lt (by omega)
  rw [am_pi, ly_c47]
  simp only [e]
  rw [if_pos ⟨trivial, ly_nn (by omega), h⟩, ← uk_upd]
  exact congrArg some ((ly_put (o := 47) (f := upd (C 47) j v) (g := L 47) (r := R 47) rfl).trans (by rw [uk_self, uk_self]))
theorem ly_c48 : (am_mk x true Z C L R D).2 (x + 48) = some (.inl (0, 40, .inl (C 48))) := ly_get (o := 48) rfl
theorem ly_n48 : am_len (am_mk x true Z C L R D) (x + 48) = some 40 := by rw [am_len, ly_c48]
theorem ly_r48 {j : Nat} (h : j < 40) : am_ag 0 (am_mk x true Z C L R D) (x + 48) (Int32.ofNat j) = some (.int (C 48 j)) := by
  have e : (Int32.ofNat j).toNatClampNeg = j := Int32.toNatClampNeg_ofNat_of_lt (by omega)
  rw [am_ag, ly_c48]
  simp only [e]
  rw [if_pos ⟨rfl, ly_nn (by omega), h⟩]
  rfl
theorem ly_w48 {j : Nat} {v : Int32} (h : j < 40) : am_pi (am_mk x true Z C L R D) (x + 48) (Int32.ofNat j) v = some (am_mk x true Z (ux C 48 j v) L R D) := by
  have e : (Int32.ofNat j).toNatClampNeg = j := Int32.toNatClampNeg_ofNat_of_lt (by omega)
  rw [am_pi, ly_c48]
  simp only [e]
  rw [if_pos ⟨trivial, ly_nn (by omega), h⟩, ← uk_upd]
  exact congrArg some ((ly_put (o := 48) (f := upd (C 48) j v) (g := L 48) (r := R 48) rfl).trans (by rw [uk_self, uk_self]))
theorem ly_c49 : (am_mk x true Z C L R D).2 (x + 49) = some (.inl (2, 40, .inl (C 49))) := ly_get (o := 49) rfl
theorem ly_n49 : am_len (am_mk x true Z C L R D) (x + 49) = some 40 := by rw [am_len, ly_c49]
theorem ly_r49 {j : Nat} (h : j < 40) : am_ag 2 (am_mk x true Z C L R D) (x + 49) (Int32.ofNat j) = some (.int (C 49 j)) := by
  have e : (Int32.ofNat j).toNatClampNeg = j := Int32.toNatClampNeg_ofNat_of_lt (by omega)
  rw [am_ag, ly_c49]
  simp only [e]
  rw [if_pos ⟨rfl, ly_nn (by omega), h⟩]
  rfl
theorem ly_w49 {j : Nat} {v : Int32} (h : j < 40) (hv : v = 0 ∨ v = 1) : am_pz (am_mk x true Z C L R D) (x + 49) (Int32.ofNat j) v = some (am_mk x true Z (ux C 49 j v) L R D) := by
  have e : (Int32.ofNat j).toNatClampNeg = j := Int32.toNatClampNeg_ofNat_of_lt (by omega)
  rw [am_pz, ly_c49]
  simp only [e]
  rw [if_pos ⟨trivial, ly_nn (by omega), h, hv⟩, ← uk_upd]
  exact congrArg some ((ly_put (o := 49) (f := upd (C 49) j v) (g := L 49) (r := R 49) rfl).trans (by rw [uk_self, uk_self]))
theorem ly_c50 : (am_mk x true Z C L R D).2 (x + 50) = some (.inl (1, 40, .inr (.inl (L 50)))) := ly_get (o := 50) rfl
theorem ly_n50 : am_len (am_mk x true Z C L R D) (x + 50) = some 40 := by rw [am_len, ly_c50]
theorem ly_r50 {j : Nat} (h : j < 40) : am_ag 1 (am_mk x true Z C L R D) (x + 50) (Int32.ofNat j) = some (.long (L 50 j)) := by
  have e : (Int32.ofNat j).toNatClampNeg = j := Int32.toNatClampNeg_ofNat_of_lt (by omega)
  rw [am_ag, ly_c50]
  simp only [e]
  rw [if_pos ⟨rfl, ly_nn (by omega), h⟩]
  rfl
theorem ly_w50 {j : Nat} {v : Int64} (h : j < 40) : am_pl (am_mk x true Z C L R D) (x + 50) (Int32.ofNat j) v = some (am_mk x true Z C (ux L 50 j v) R D) := by
  have e : (Int32.ofNat j).toNatClampNeg = j := Int32.toNatClampNeg_ofNat_of_lt (by omega)
  rw [am_pl, ly_c50]
  simp only [e]
  rw [if_pos ⟨trivial, ly_nn (by omega), h⟩, ← uk_updL]
  exact congrArg some ((ly_put (o := 50) (f := C 50) (g := vp_updL (L 50) j v) (r := R 50) rfl).trans (by rw [uk_self, uk_self]))
theorem ly_c51 : (am_mk x true Z C L R D).2 (x + 51) = some (.inl (1, 40, .inr (.inl (L 51)))) := ly_get (o := 51) rfl
theorem ly_n51 : am_len (am_mk x true Z C L R D) (x + 51) = some 40 := by rw [am_len, ly_c51]
theorem ly_r51 {j : Nat} (h : j < 40) : am_ag 1 (am_mk x true Z C L R D) (x + 51) (Int32.ofNat j) = some (.long (L 51 j)) := by
  have e : (Int32.ofNat j).toNatClampNeg = j := Int32.toNatClampNeg_ofNat_of_lt (by omega)
  rw [am_ag, ly_c51]
  simp only [e]
  rw [if_pos ⟨rfl, ly_nn (by omega), h⟩]
  rfl
theorem ly_w51 {j : Nat} {v : Int64} (h : j < 40) : am_pl (am_mk x true Z C L R D) (x + 51) (Int32.ofNat j) v = some (am_mk x true Z C (ux L 51 j v) R D) := by
  have e : (Int32.ofNat j).toNatClampNeg = j := Int32.toNatClampNeg_ofNat_of_lt (by omega)
  rw [am_pl, ly_c51]
  simp only [e]
  rw [if_pos ⟨trivial, ly_nn (by omega), h⟩, ← uk_updL]
  exact congrArg some ((ly_put (o := 51) (f := C 51) (g := vp_updL (L 51) j v) (r := R 51) rfl).trans (by rw [uk_self, uk_self]))
theorem ly_c52 : (am_mk x true Z C L R D).2 (x + 52) = some (.inl (0, 400, .inl (C 52))) := ly_get (o := 52) rfl
theorem ly_n52 : am_len (am_mk x true Z C L R D) (x + 52) = some 400 := by rw [am_len, ly_c52]
theorem ly_r52 {j : Nat} (h : j < 400) : am_ag 0 (am_mk x true Z C L R D) (x + 52) (Int32.ofNat j) = some (.int (C 52 j)) := by
  have e : (Int32.ofNat j).toNatClampNeg = j := Int32.toNatClampNeg_ofNat_of_lt (by omega)
  rw [am_ag, ly_c52]
  simp only [e]
  rw [if_pos ⟨rfl, ly_nn (by omega), h⟩]
  rfl
theorem ly_w52 {j : Nat} {v : Int32} (h : j < 400) : am_pi (am_mk x true Z C L R D) (x + 52) (Int32.ofNat j) v = some (am_mk x true Z (ux C 52 j v) L R D) := by
  have e : (Int32.ofNat j).toNatClampNeg = j := Int32.toNatClampNeg_ofNat_of_lt (by omega)
  rw [am_pi, ly_c52]
  simp only [e]
  rw [if_pos ⟨trivial, ly_nn (by omega), h⟩, ← uk_upd]
  exact congrArg some ((ly_put (o := 52) (f := upd (C 52) j v) (g := L 52) (r := R 52) rfl).trans (by rw [uk_self, uk_self]))
theorem ly_c53 : (am_mk x true Z C L R D).2 (x + 53) = some (.inl (0, 78, .inl (C 53))) := ly_get (o := 53) rfl
theorem ly_n53 : am_len (am_mk x true Z C L R D) (x + 53) = some 78 := by rw [am_len, ly_c53]
theorem ly_r53 {j : Nat} (h : j < 78) : am_ag 0 (am_mk x true Z C L R D) (x + 53) (Int32.ofNat j) = some (.int (C 53 j)) := by
  have e : (Int32.ofNat j).toNatClampNeg = j := Int32.toNatClampNeg_ofNat_of_lt (by omega)
  rw [am_ag, ly_c53]
  simp only [e]
  rw [if_pos ⟨rfl, ly_nn (by omega), h⟩]
  rfl
theorem ly_w53 {j : Nat} {v : Int32} (h : j < 78) : am_pi (am_mk x true Z C L R D) (x + 53) (Int32.ofNat j) v = some (am_mk x true Z (ux C 53 j v) L R D) := by
  have e : (Int32.ofNat j).toNatClampNeg = j := Int32.toNatClampNeg_ofNat_of_lt (by omega)
  rw [am_pi, ly_c53]
  simp only [e]
  rw [if_pos ⟨trivial, ly_nn (by omega), h⟩, ← uk_upd]
  exact congrArg some ((ly_put (o := 53) (f := upd (C 53) j v) (g := L 53) (r := R 53) rfl).trans (by rw [uk_self, uk_self]))
theorem ly_c54 : (am_mk x true Z C L R D).2 (x + 54) = some (.inl (2, 4, .inl (C 54))) := ly_get (o := 54) rfl
theorem ly_n54 : am_len (am_mk x true Z C L R D) (x + 54) = some 4 := by rw [am_len, ly_c54]
theorem ly_r54 {j : Nat} (h : j < 4) : am_ag 2 (am_mk x true Z C L R D) (x + 54) (Int32.ofNat j) = some (.int (C 54 j)) := by
  have e : (Int32.ofNat j).toNatClampNeg = j := Int32.toNatClampNeg_ofNat_of_lt (by omega)
  rw [am_ag, ly_c54]
  simp only [e]
  rw [if_pos ⟨rfl, ly_nn (by omega), h⟩]
  rfl
theorem ly_w54 {j : Nat} {v : Int32} (h : j < 4) (hv : v = 0 ∨ v = 1) : am_pz (am_mk x true Z C L R D) (x + 54) (Int32.ofNat j) v = some (am_mk x true Z (ux C 54 j v) L R D) := by
  have e : (Int32.ofNat j).toNatClampNeg = j := Int32.toNatClampNeg_ofNat_of_lt (by omega)
  rw [am_pz, ly_c54]
  simp only [e]
  rw [if_pos ⟨trivial, ly_nn (by omega), h, hv⟩, ← uk_upd]
  exact congrArg some ((ly_put (o := 54) (f := upd (C 54) j v) (g := L 54) (r := R 54) rfl).trans (by rw [uk_self, uk_self]))
theorem ly_c55 : (am_mk x true Z C L R D).2 (x + 55) = some (.inl (0, 4, .inl (C 55))) := ly_get (o := 55) rfl
theorem ly_n55 : am_len (am_mk x true Z C L R D) (x + 55) = some 4 := by rw [am_len, ly_c55]
theorem ly_r55 {j : Nat} (h : j < 4) : am_ag 0 (am_mk x true Z C L R D) (x + 55) (Int32.ofNat j) = some (.int (C 55 j)) := by
  have e : (Int32.ofNat j).toNatClampNeg = j := Int32.toNatClampNeg_ofNat_of_lt (by omega)
  rw [am_ag, ly_c55]
  simp only [e]
  rw [if_pos ⟨rfl, ly_nn (by omega), h⟩]
  rfl
theorem ly_w55 {j : Nat} {v : Int32} (h : j < 4) : am_pi (am_mk x true Z C L R D) (x + 55) (Int32.ofNat j) v = some (am_mk x true Z (ux C 55 j v) L R D) := by
  have e : (Int32.ofNat j).toNatClampNeg = j := Int32.toNatClampNeg_ofNat_of_lt (by omega)
  rw [am_pi, ly_c55]
  simp only [e]
  rw [if_pos ⟨trivial, ly_nn (by omega), h⟩, ← uk_upd]
  exact congrArg some ((ly_put (o := 55) (f := upd (C 55) j v) (g := L 55) (r := R 55) rfl).trans (by rw [uk_self, uk_self]))
theorem ly_c56 : (am_mk x true Z C L R D).2 (x + 56) = some (.inl (0, 4, .inl (C 56))) := ly_get (o := 56) rfl
theorem ly_n56 : am_len (am_mk x true Z C L R D) (x + 56) = some 4 := by rw [am_len, ly_c56]
theorem ly_r56 {j : Nat} (h : j < 4) : am_ag 0 (am_mk x true Z C L R D) (x + 56) (Int32.ofNat j) = some (.int (C 56 j)) := by
  have e : (Int32.ofNat j).toNatClampNeg = j := Int32.toNatClampNeg_ofNat_of_lt (by omega)
  rw [am_ag, ly_c56]
  simp only [e]
  rw [if_pos ⟨rfl, ly_nn (by omega), h⟩]
  rfl
theorem ly_w56 {j : Nat} {v : Int32} (h : j < 4) : am_pi (am_mk x true Z C L R D) (x + 56) (Int32.ofNat j) v = some (am_mk x true Z (ux C 56 j v) L R D) := by
  have e : (Int32.ofNat j).toNatClampNeg = j := Int32.toNatClampNeg_ofNat_of_lt (by omega)
  rw [am_pi, ly_c56]
  simp only [e]
  rw [if_pos ⟨trivial, ly_nn (by omega), h⟩, ← uk_upd]
  exact congrArg some ((ly_put (o := 56) (f := upd (C 56) j v) (g := L 56) (r := R 56) rfl).trans (by rw [uk_self, uk_self]))
theorem ly_c57 : (am_mk x true Z C L R D).2 (x + 57) = some (.inl (0, 160, .inl (C 57))) := ly_get (o := 57) rfl
theorem ly_n57 : am_len (am_mk x true Z C L R D) (x + 57) = some 160 := by rw [am_len, ly_c57]
theorem ly_r57 {j : Nat} (h : j < 160) : am_ag 0 (am_mk x true Z C L R D) (x + 57) (Int32.ofNat j) = some (.int (C 57 j)) := by
  have e : (Int32.ofNat j).toNatClampNeg = j := Int32.toNatClampNeg_ofNat_of_lt (by omega)
  rw [am_ag, ly_c57]
  simp only [e]
  rw [if_pos ⟨rfl, ly_nn (by omega), h⟩]
  rfl
theorem ly_w57 {j : Nat} {v : Int32} (h : j < 160) : am_pi (am_mk x true Z C L R D) (x + 57) (Int32.ofNat j) v = some (am_mk x true Z (ux C 57 j v) L R D) := by
  have e : (Int32.ofNat j).toNatClampNeg = j := Int32.toNatClampNeg_ofNat_of_lt (by omega)
  rw [am_pi, ly_c57]
  simp only [e]
  rw [if_pos ⟨trivial, ly_nn (by omega), h⟩, ← uk_upd]
  exact congrArg some ((ly_put (o := 57) (f := upd (C 57) j v) (g := L 57) (r := R 57) rfl).trans (by rw [uk_self, uk_self]))
end
