/-! THE LAYOUT (printed by wip/whole/gen_lay.py). The memory as registers: x the address of the class's object, the static cells behind it by their distance, the others by a tag (1000 times a kind and a number) at an address. C ints, L longs, R references, Z (address to tag, tag to address), D what else there is. -/
def ly_st (b : Bool) (o : Nat) : Bool := decide (o < 19) || (b && (decide (23 ≤ o) && decide (o < 58)))
abbrev ly_Z : Type := (Nat → Option Nat) × (Nat → Nat)

def ly_S (x o : Nat) (f : Nat → Int32) (g : Nat → Int64) (r : Nat → Option Nat) : am_C := match o with
  | 0 => .inr (9, [.ref (x + 1), .ref (x + 2), .ref (x + 3), .ref (x + 4), .ref (x + 5), .int (f 5), .int (f 6), .int (f 7), .int (f 8), .ref (x + 6), .int (f 10), .ref (x + 7), .ref (x + 10), .ref (x + 17), .ref (x + 18), .int (f 15), .int (f 16), .int (f 17)])
  | 1 => .inl (16, 8, .inr (.inr (.inr (.inr r))))
  | 2 => .inl (12, 6, .inr (.inr (.inr (.inr r))))
  | 3 => .inl (13, 40, .inr (.inr (.inr (.inr r))))
  | 4 => .inl (18, 6, .inr (.inr (.inr (.inr r))))
  | 5 => .inl (14, 4, .inr (.inr (.inr (.inr r))))
  | 6 => .inl (0, 4, .inl f)
  | 7 => .inr (7, [.ref (x + 8), .int (f 1), .int (f 2), .int (f 3), .int (f 4), .int (f 5), .int (f 6), .ref (x + 9), .int (f 8)])
  | 8 => .inl (0, 160, .inl f)
  | 9 => .inl (0, 160, .inl f)
  | 10 => .inr (5, [.int (f 0), .ref (x + 11), .ref (x + 12), .ref (x + 13), .ref (x + 14), .ref (x + 15), .ref (x + 16), .int (f 7), .int (f 8), .int (f 9), .int (f 10)])
  | 11 => .inl (13, 40, .inr (.inr (.inr (.inr r))))
  | 12 => .inl (0, 40, .inl f)
  | 13 => .inl (1, 40, .inr (.inl g))
  | 14 => .inl (1, 40, .inr (.inl g))
  | 15 => .inl (1, 40, .inr (.inl g))
  | 16 => .inl (1, 40, .inr (.inl g))
  | 17 => .inl (0, 400, .inl f)
  | 18 => .inl (0, 4, .inl f)
  | 23 => .inr (4, [.int (f 0), .int (f 1), .ref (x + 24)])
  | 24 => .inl (0, 40, .inl f)
  | 25 => .inr (4, [.int (f 0), .int (f 1), .ref (x + 26)])
  | 26 => .inl (0, 40, .inl f)
  | 27 => .inr (4, [.int (f 0), .int (f 1), .ref (x + 28)])
  | 28 => .inl (0, 40, .inl f)
  | 29 => .inr (4, [.int (f 0), .int (f 1), .ref (x + 30)])
  | 30 => .inl (0, 40, .inl f)
  | 31 => .inr (10, [.int (f 0), .ref (x + 32), .ref (x + 33), .int (f 3), .int (f 4), .ref (x + 34), .int (f 6), .int (f 7), .int (f 8), .int (f 9), .int (f 10), .ref (x + 35), .ref (x + 36), .int (f 13), .ref (x + 37), .ref (x + 38), .ref (x + 39), .int (f 17), .ref (x + 40), .ref (x + 41), .ref (x + 42), .ref (x + 43), .ref (x + 44), .ref (x + 45), .ref (x + 46), .ref (x + 47), .ref (x + 48), .int (f 27), .int (f 28), .int (f 29), .int (f 30), .int (f 31), .long (g 32), .int (f 33), .int (f 34), .int (f 35), .int (f 36), .int (f 37), .ref (x + 49), .ref (x + 50), .ref (x + 51), .int (f 41), .int (f 42), .int (f 43), .ref (x + 52), .ref (x + 53), .int (f 46), .int (f 47), .int (f 48), .int (f 49), .int (f 50), .int (f 51), .int (f 52), .int (f 53), .ref (x + 54), .ref (x + 55), .ref (x + 56), .ref (x + 57)])
  | 32 => .inl (0, 960, .inl f)
  | 33 => .inl (0, 6, .inl f)
  | 34 => .inl (0, 160, .inl f)
  | 35 => .inl (0, 24, .inl f)
  | 36 => .inl (0, 8, .inl f)
  | 37 => .inl (0, 6, .inl f)
  | 38 => .inl (0, 6, .inl f)
  | 39 => .inl (0, 6, .inl f)
  | 40 => .inl (0, 6, .inl f)
  | 41 => .inl (0, 36, .inl f)
  | 42 => .inl (0, 36, .inl f)
  | 43 => .inl (0, 40, .inl f)
  | 44 => .inl (0, 40, .inl f)
  | 45 => .inl (0, 40, .inl f)
  | 46 => .inl (0, 40, .inl f)
  | 47 => .inl (0, 40, .inl f)
  | 48 => .inl (0, 40, .inl f)
  | 49 => .inl (2, 40, .inl f)
  | 50 => .inl (1, 40, .inr (.inl g))
  | 51 => .inl (1, 40, .inr (.inl g))
  | 52 => .inl (0, 400, .inl f)
  | 53 => .inl (0, 78, .inl f)
  | 54 => .inl (2, 4, .inl f)
  | 55 => .inl (0, 4, .inl f)
  | 56 => .inl (0, 4, .inl f)
  | 57 => .inl (0, 160, .inl f)
  | _ => .inl (0, 0, .inl f)
def ly_D (k : Nat) (f : Nat → Int32) (g : Nat → Int64) (r : Nat → Option Nat) : am_C := match k with
  | 1 => .inr (6, [.int (f 0), .int (f 1)])
  | 2 => .inr (2, [.int (f 0), .int (f 1), .int (f 2), va_rf (r 3), va_rf (r 4), .int (f 5), va_rf (r 6), .int (f 7)])
  | 3 => .inl (0, 6, .inl f)
  | 4 => .inl (0, 6, .inl f)
  | 5 => .inl (0, 6, .inl f)
  | 6 => .inr (3, [.int (f 0), va_rf (r 1), .int (f 2), .int (f 3), .int (f 4), .int (f 5), .int (f 6)])
  | 7 => .inr (8, [va_rf (r 0), va_rf (r 1), va_rf (r 2)])
  | 8 => .inl (0, (r 0).getD 0, .inl f)
  | 9 => .inl (0, (r 0).getD 0, .inl f)
  | 10 => .inl (0, (r 0).getD 0, .inl f)
  | 11 => .inr (0, [va_rf (r 0), .int (f 1), .long (g 2), .int (f 3), .int (f 4), va_rf (r 5), .int (f 6), .long (g 7), .long (g 8)])
  | 12 => .inr (1, [.int (f 0), .int (f 1), .long (g 2), .long (g 3), .long (g 4), .long (g 5)])
  | _ => .inl (0, 0, .inl f)
def ly_T (x t : Nat) (f : Nat → Int32) (g : Nat → Int64) (r : Nat → Option Nat) : am_C := if t < 1000 then ly_S x t f g r else ly_D (t / 1000) f g r
def ly_sta (x : Nat) (b : Bool) (q : Nat) : Prop := x ≤ q ∧ ly_st b (q - x) = true
noncomputable def ly_at (x : Nat) (b : Bool) (Z : ly_Z) (C : Nat → Nat → Int32) (L : Nat → Nat → Int64) (R : Nat → Nat → Option Nat) (D : am_M) (q : Nat) : Option am_C :=
  if x ≤ q ∧ ly_st b (q - x) = true then some (ly_S x (q - x) (C (q - x)) (L (q - x)) (R (q - x))) else match Z.1 q with
  | some t => if Z.2 t = q ∧ 1000 ≤ t then some (ly_T x t (C t) (L t) (R t)) else D.2 q
  | none => D.2 q
noncomputable def am_mk (x : Nat) (b : Bool) (Z : ly_Z) (C : Nat → Nat → Int32) (L : Nat → Nat → Int64) (R : Nat → Nat → Option Nat) (D : am_M) : am_M := (D.1, ly_at x b Z C L R D)
/-- the tag t stands, at Z.2 t -/
def ly_ok (x : Nat) (b : Bool) (Z : ly_Z) (t : Nat) : Prop := ¬ (x ≤ Z.2 t ∧ ly_st b (Z.2 t - x) = true) ∧ Z.1 (Z.2 t) = some t ∧ 1000 ≤ t
def ux {α : Type} (C : Nat → Nat → α) (k j : Nat) (v : α) : Nat → Nat → α := fun a c => if a = k ∧ c = j then v else C a c
def uk {α : Type} (C : Nat → α) (k : Nat) (f : α) : Nat → α := fun a => if a = k then f else C a
theorem ux_eq {α : Type} {C : Nat → Nat → α} {k j : Nat} {v : α} {a c : Nat} : ux C k j v a c = if a = k ∧ c = j then v else C a c := rfl
theorem uk_eq {α : Type} {C : Nat → α} {k : Nat} {f : α} {a : Nat} : uk C k f a = if a = k then f else C a := rfl
theorem uk_self {α : Type} {C : Nat → α} {k : Nat} : uk C k (C k) = C := by
  funext a
  simp only [uk_eq]
  split
  · next h => rw [h]
  · rfl
theorem uk_upd {C : Nat → Nat → Int32} {k j : Nat} {v : Int32} : uk C k (upd (C k) j v) = ux C k j v := by
  funext a c
  simp only [uk_eq, ux_eq]
  by_cases h : a = k
  · subst h; simp only [if_true, upd, true_and]
  · simp only [h, if_false, false_and]
theorem uk_updL {C : Nat → Nat → Int64} {k j : Nat} {v : Int64} : uk C k (vp_updL (C k) j v) = ux C k j v := by
  funext a c
  simp only [uk_eq, ux_eq]
  by_cases h : a = k
  · subst h; simp only [if_true, vp_updL, true_and]
  · simp only [h, if_false, false_and]
theorem uk_up {α : Type} {C : Nat → Nat → α} {k j : Nat} {v : α} : uk C k (va_up (C k) j v) = ux C k j v := by
  funext a c
  simp only [uk_eq, ux_eq]
  by_cases h : a = k
  · subst h; simp only [if_true, va_up, true_and]
  · simp only [h, if_false, false_and]
section
variable {x : Nat} {b : Bool} {Z : ly_Z} {C : Nat → Nat → Int32} {L : Nat → Nat → Int64} {R : Nat → Nat → Option Nat} {D : am_M}
theorem am_mk_1 : (am_mk x b Z C L R D).1 = D.1 := rfl
theorem ly_get {o : Nat} (h : ly_st b o = true) : (am_mk x b Z C L R D).2 (x + o) = some (ly_S x o (C o) (L o) (R o)) := by
  show ly_at x b Z C L R D (x + o) = _
  unfold ly_at
  rw [if_pos ⟨Nat.le_add_right x o, by rw [Nat.add_sub_cancel_left]; exact h⟩, Nat.add_sub_cancel_left]
theorem ly_getd {t : Nat} (h : ly_ok x b Z t) : (am_mk x b Z C L R D).2 (Z.2 t) = some (ly_D (t / 1000) (C t) (L t) (R t)) := by
  show ly_at x b Z C L R D (Z.2 t) = _
  unfold ly_at
  rw [if_neg h.1, h.2.1]
  simp only
  rw [if_pos ⟨trivial, h.2.2⟩, ly_T, if_neg (by have := h.2.2; omega)]
theorem ly_geto {q : Nat} (h : q < x) (hz : Z.1 q = none) : (am_mk x b Z C L R D).2 q = D.2 q := by
  show ly_at x b Z C L R D q = _
  unfold ly_at
  rw [if_neg (by omega), hz]
theorem ly_put {o : Nat} {f : Nat → Int32} {g : Nat → Int64} {r : Nat → Option Nat} (h : ly_st b o = true) : am_set (am_mk x b Z C L R D) (x + o) (ly_S x o f g r) = am_mk x b Z (uk C o f) (uk L o g) (uk R o r) D := by
  refine Prod.ext rfl ?_
  funext q
  show (if q = x + o then some (ly_S x o f g r) else ly_at x b Z C L R D q) = ly_at x b Z (uk C o f) (uk L o g) (uk R o r) D q
  have ho : o < 58 := by
    simp only [ly_st, Bool.or_eq_true, Bool.and_eq_true, decide_eq_true_eq] at h
    omega
  unfold ly_at
  by_cases hq : q = x + o
  · subst hq
    rw [if_pos rfl, if_pos ⟨Nat.le_add_right x o, by rw [Nat.add_sub_cancel_left]; exact h⟩, Nat.add_sub_cancel_left]
    simp only [uk_eq, if_true]
  · rw [if_neg hq]
    by_cases hs : x ≤ q ∧ ly_st b (q - x) = true
    · rw [if_pos hs, if_pos hs]
      have : ¬ q - x = o := by omega
      simp only [uk_eq, this, if_false]
    · rw [if_neg hs, if_neg hs]
      cases hz : Z.1 q with
      | none => rfl
      | some t =>
        simp only
        by_cases ht : Z.2 t = q ∧ 1000 ≤ t
        · have : ¬ t = o := by omega
          rw [if_pos ht, if_pos ht]
          simp only [uk_eq, this, if_false]
        · rw [if_neg ht, if_neg ht]
theorem ly_putd {t : Nat} {f : Nat → Int32} {g : Nat → Int64} {r : Nat → Option Nat} (h : ly_ok x b Z t) : am_set (am_mk x b Z C L R D) (Z.2 t) (ly_D (t / 1000) f g r) = am_mk x b Z (uk C t f) (uk L t g) (uk R t r) D := by
  refine Prod.ext rfl ?_
  funext q
  show (if q = Z.2 t then some (ly_D (t / 1000) f g r) else ly_at x b Z C L R D q) = ly_at x b Z (uk C t f) (uk L t g) (uk R t r) D q
  obtain ⟨h1, h2, h3⟩ := h
  unfold ly_at
  by_cases hq : q = Z.2 t
  · subst hq
    rw [if_pos rfl, if_neg h1, h2]
    simp only
    rw [if_pos ⟨trivial, h3⟩, ly_T, if_neg (by omega)]
    simp only [uk_eq, if_true]
  · rw [if_neg hq]
    by_cases hs : x ≤ q ∧ ly_st b (q - x) = true
    · rw [if_pos hs, if_pos hs]
      have h58 : q - x < 58 := by
        have := hs.2
        simp only [ly_st, Bool.or_eq_true, Bool.and_eq_true, decide_eq_true_eq] at this
        omega
      have : ¬ q - x = t := by omega
      simp only [uk_eq, this, if_false]
    · rw [if_neg hs, if_neg hs]
      cases hz : Z.1 q with
      | none => rfl
      | some u =>
        simp only
        by_cases hu : Z.2 u = q ∧ 1000 ≤ u
        · have : ¬ u = t := by
            intro e
            subst e
            exact hq hu.1.symm
          rw [if_pos hu, if_pos hu]
          simp only [uk_eq, this, if_false]
        · rw [if_neg hu, if_neg hu]
/-- a new cell with a tag; what had it before is no more looked at -/
def ly_new (Z : ly_Z) (q t : Nat) : ly_Z := (fun a => if a = q then some t else Z.1 a, fun a => if a = t then q else Z.2 a)
theorem ly_new_1 {q t a : Nat} : (ly_new Z q t).1 a = if a = q then some t else Z.1 a := rfl
theorem ly_new_2 {q t a : Nat} : (ly_new Z q t).2 a = if a = t then q else Z.2 a := rfl
theorem ly_new_ok {q t : Nat} (h1 : ¬ (x ≤ q ∧ ly_st b (q - x) = true)) (h : 1000 ≤ t) : ly_ok x b (ly_new Z q t) t := by
  refine ⟨?_, ?_, h⟩
  · simp only [ly_new_2, if_true]; exact h1
  · simp only [ly_new_2, ly_new_1, if_true]
theorem ly_new_old {q t u : Nat} (h : ly_ok x b Z u) (hu : ¬ u = t) (hq : ¬ Z.2 u = q) : ly_ok x b (ly_new Z q t) u := by
  obtain ⟨h1, h2, h3⟩ := h
  refine ⟨?_, ?_, h3⟩
  · simp only [ly_new_2, hu, if_false]; exact h1
  · simp only [ly_new_2, ly_new_1, hu, hq, if_false]; exact h2
/-- what lay there with the tag t -/
noncomputable def ly_fz (x : Nat) (Z : ly_Z) (C : Nat → Nat → Int32) (L : Nat → Nat → Int64) (R : Nat → Nat → Option Nat) (D : am_M) (t : Nat) : am_M :=
  (D.1 + 1, fun q => if Z.1 q = some t ∧ Z.2 t = q then some (ly_D (t / 1000) (C t) (L t) (R t)) else D.2 q)
theorem ly_fz_1 {t : Nat} : (ly_fz x Z C L R D t).1 = D.1 + 1 := rfl
theorem ly_fz_2 {t q : Nat} (h : Z.1 q = none) : (ly_fz x Z C L R D t).2 q = D.2 q := by
  show (if Z.1 q = some t ∧ Z.2 t = q then _ else D.2 q) = _
  rw [if_neg (by rw [h]; simp)]
theorem ly_add {t : Nat} {f : Nat → Int32} {g : Nat → Int64} {r : Nat → Option Nat} (ht : 1000 ≤ t) (hs : ¬ (x ≤ D.1 ∧ ly_st b (D.1 - x) = true)) : am_add (am_mk x b Z C L R D) (ly_D (t / 1000) f g r) = am_mk x b (ly_new Z D.1 t) (uk C t f) (uk L t g) (uk R t r) (ly_fz x Z C L R D t) := by
  refine Prod.ext rfl ?_
  funext q
  show (if q = D.1 then some (ly_D (t / 1000) f g r) else ly_at x b Z C L R D q) = ly_at x b (ly_new Z D.1 t) (uk C t f) (uk L t g) (uk R t r) (ly_fz x Z C L R D t) q
  unfold ly_at
  by_cases hq : q = D.1
  · rw [if_pos hq]
    subst hq
    rw [if_neg hs]
    simp only [ly_new_1, if_true, ly_new_2, true_and]
    rw [if_pos ht, ly_T, if_neg (by omega)]
    simp only [uk_eq, if_true]
  · rw [if_neg hq]
    by_cases h : x ≤ q ∧ ly_st b (q - x) = true
    · rw [if_pos h, if_pos h]
      have h58 : q - x < 58 := by
        have := h.2
        simp only [ly_st, Bool.or_eq_true, Bool.and_eq_true, decide_eq_true_eq] at this
        omega
      have : ¬ q - x = t := by omega
      simp only [uk_eq, this, if_false]
    · rw [if_neg h, if_neg h]
      simp only [ly_new_1, hq, if_false]
      cases hz : Z.1 q with
      | none => simp only; rw [ly_fz_2 hz]
      | some u =>
        simp only [ly_new_2]
        by_cases hu : u = t
        · subst hu
          simp only [if_true]
          rw [if_neg (show ¬ (D.1 = q ∧ 1000 ≤ u) from fun e => hq e.1.symm)]
          show _ = if Z.1 q = some u ∧ Z.2 u = q then _ else D.2 q
          by_cases h2 : Z.2 u = q
          · rw [if_pos ⟨h2, ht⟩, if_pos ⟨hz, h2⟩, ly_T, if_neg (by omega)]
          · rw [if_neg (fun e => h2 e.1), if_neg (fun e => h2 e.2)]
        · simp only [hu, if_false]
          by_cases h2 : Z.2 u = q ∧ 1000 ≤ u
          · rw [if_pos h2, if_pos h2]
            simp only [uk_eq, hu, if_false]
          · rw [if_neg h2, if_neg h2]
            show _ = if Z.1 q = some t ∧ Z.2 t = q then _ else D.2 q
            rw [if_neg (fun e => hu (Option.some.inj (hz.symm.trans e.1)))]
end
