/-! behind a read or a write -/
noncomputable def am_kf (G : Nat → Value) (d y pc : Nat) (L : am_L) (st : List Value) (M : am_M) (o : Option Value) : Option am_R := match o with
  | none => none
  | some v => am_run G d y (pc, L, v :: st, M)
noncomputable def am_km (G : Nat → Value) (d y pc : Nat) (L : am_L) (st : List Value) (o : Option am_M) : Option am_R := match o with
  | none => none
  | some M => am_run G d y (pc, L, st, M)
noncomputable def am_kn (G : Nat → Value) (d y pc : Nat) (L : am_L) (st : List Value) (M : am_M) (o : Option Nat) : Option am_R := match o with
  | none => none
  | some n => am_run G d y (pc, L, .int (Int32.ofNat n) :: st, M)
theorem am_kf_s {G : Nat → Value} {d y pc : Nat} {L : am_L} {st : List Value} {M : am_M} {v : Value} : am_kf G d y pc L st M (some v) = am_run G d y (pc, L, v :: st, M) := rfl
theorem am_km_s {G : Nat → Value} {d y pc : Nat} {L : am_L} {st : List Value} {M : am_M} : am_km G d y pc L st (some M) = am_run G d y (pc, L, st, M) := rfl
theorem am_kn_s {G : Nat → Value} {d y pc n : Nat} {L : am_L} {st : List Value} {M : am_M} : am_kn G d y pc L st M (some n) = am_run G d y (pc, L, .int (Int32.ofNat n) :: st, M) := rfl
section
variable {G : Nat → Value} {d y pc pc' : Nat} {L L' : am_L} {st st' : List Value} {M M' : am_M} {x : am_I}
theorem am_run_kf {o : Option Value} (hc : am_code y pc = some x) (ha : am_act G y x pc L st M = am_psh o pc' L' st' M') : am_run G d y (pc, L, st, M) = am_kf G d y pc' L' st' M' o := by
  cases o with
  | none => exact am_run_stuck hc ha
  | some v => exact am_run_next hc ha
theorem am_run_km {o : Option am_M} (hc : am_code y pc = some x) (ha : am_act G y x pc L st M = am_opt o pc' L' st') : am_run G d y (pc, L, st, M) = am_km G d y pc' L' st' o := by
  cases o with
  | none => exact am_run_stuck hc ha
  | some v => exact am_run_next hc ha
theorem am_run_kn {o : Option Nat} (hc : am_code y pc = some x) (ha : am_act G y x pc L st M = match o with | some n => am_go pc' L' (.int (Int32.ofNat n) :: st') M' | none => none) : am_run G d y (pc, L, st, M) = am_kn G d y pc' L' st' M' o := by
  cases o with
  | none => exact am_run_stuck hc ha
  | some v => exact am_run_next hc ha
end
section
variable {G : Nat → Value} {d y z n pc pl i q : Nat} {L : am_L} {st stk Bs : List Value} {M : am_M} {v : Int}
theorem am_run_iv (hc : am_code y pc = some (.invokevirtual i, 3, z, n, pl, 0)) (hq : am_cls M q = some (am_mC z)) (h8 : am_sw st ≤ 8) (hn : Bs.length = n) (he : (am_exp (.ref q :: Bs)).length ≤ am_mL z) (hs : stk = Bs.reverse ++ .ref q :: st) : am_run G d y (pc, L, stk, M) = am_k G d y (pc + 3) L st (am_ex G d z (.ref q :: Bs) M) := by
  subst hs
  subst hn
  refine am_run_call hc ?_
  show am_cv true z Bs.length pc L (Bs.reverse ++ .ref q :: st) M = _
  unfold am_cv
  have e1 : (Bs.reverse ++ .ref q :: st).drop Bs.length = .ref q :: st := by rw [List.drop_append_of_le_length (by simp), List.drop_of_length_le (by simp)]; rfl
  have e2 : ((Bs.reverse ++ .ref q :: st).take Bs.length).reverse = Bs := by rw [List.take_append_of_le_length (by simp), List.take_of_length_le (by simp), List.reverse_reverse]
  rw [e1, e2]
  simp only
  rw [if_pos (Or.inr hq)]
  exact if_pos ⟨h8, he⟩
theorem am_run_ip (hv : ¬ v = 5) (hc : am_code y pc = some (.invokespecial i, 3, z, n, pl, v)) (h8 : am_sw st ≤ 8) (hn : Bs.length = n) (he : (am_exp (.ref q :: Bs)).length ≤ am_mL z) (hs : stk = Bs.reverse ++ .ref q :: st) : am_run G d y (pc, L, stk, M) = am_k G d y (pc + 3) L st (am_ex G d z (.ref q :: Bs) M) := by
  subst hs
  subst hn
  refine am_run_call hc ?_
  simp only [am_act]
  rw [if_neg hv]
  unfold am_cv
  have e1 : (Bs.reverse ++ .ref q :: st).drop Bs.length = .ref q :: st := by rw [List.drop_append_of_le_length (by simp), List.drop_of_length_le (by simp)]; rfl
  have e2 : ((Bs.reverse ++ .ref q :: st).take Bs.length).reverse = Bs := by rw [List.take_append_of_le_length (by simp), List.take_of_length_le (by simp), List.reverse_reverse]
  rw [e1, e2]
  simp only
  rw [if_pos (Or.inl trivial)]
  exact if_pos ⟨h8, he⟩
theorem am_run_is (hv : ¬ v = 6) (hv2 : ¬ 10 ≤ v) (hc : am_code y pc = some (.invokestatic i, 3, z, n, pl, v)) (h8 : am_sw st ≤ 8) (hn : Bs.length = n) (he : (am_exp Bs).length ≤ am_mL z) (hs : stk = Bs.reverse ++ st) : am_run G d y (pc, L, stk, M) = am_k G d y (pc + 3) L st (am_ex G d z Bs M) := by
  subst hs
  subst hn
  refine am_run_call hc ?_
  simp only [am_act]
  rw [if_neg hv, if_neg hv2, if_pos (by simp)]
  have e1 : (Bs.reverse ++ st).drop Bs.length = st := by rw [List.drop_append_of_le_length (by simp), List.drop_of_length_le (by simp)]; rfl
  have e2 : ((Bs.reverse ++ st).take Bs.length).reverse = Bs := by rw [List.take_append_of_le_length (by simp), List.take_of_length_le (by simp), List.reverse_reverse]
  rw [e1, e2]
  exact if_pos ⟨h8, he⟩
end
theorem am_isr_cases {v : Value} (h : am_isr v = true) : (∃ q, v = .ref q) ∨ v = .null := by
  cases v with
  | ref q => exact Or.inl ⟨q, rfl⟩
  | null => exact Or.inr rfl
  | _ => cases h
/-- a local of one word -/
def am_c1 (o : Option Value) : Bool := match o with
  | none => true
  | some (.int _) => true
  | some (.ref _) => true
  | some .null => true
  | _ => false
theorem am_c1_cases {o : Option Value} (h : am_c1 o = true) : o = none ∨ (∃ q, o = some (.int q)) ∨ (∃ q, o = some (.ref q)) ∨ o = some .null := by
  cases o with
  | none => exact Or.inl rfl
  | some v =>
    cases v with
    | int q => exact Or.inr (Or.inl ⟨q, rfl⟩)
    | ref q => exact Or.inr (Or.inr (Or.inl ⟨q, rfl⟩))
    | null => exact Or.inr (Or.inr (Or.inr rfl))
    | _ => cases h
theorem am_br_t {b : Bool} {pc : Nat} {off : Int} {L : am_L} {st : List Value} {M : am_M} (h : b = true) (h0 : 0 ≤ (pc : Int) + off) : am_br b pc off L st M = some (.inl (((pc : Int) + off).toNat, L, st, M)) := by
  unfold am_br
  rw [if_pos h0, if_pos h]
  rfl
theorem am_br_f {b : Bool} {pc : Nat} {off : Int} {L : am_L} {st : List Value} {M : am_M} (h : b = false) (h0 : 0 ≤ (pc : Int) + off) : am_br b pc off L st M = some (.inl (pc + 3, L, st, M)) := by
  unfold am_br
  rw [if_pos h0, if_neg (by rw [h]; decide)]
  rfl
theorem am_ne_i {a b : Int32} {n : Int} (h : ¬ a = b) (hb : b.toInt = n) : a.toInt ≠ n := fun e => h (Int32.toInt_inj.mp (e.trans hb.symm))
