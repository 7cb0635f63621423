theorem r_Js_length_0 {G : Nat → Value} {d : Nat} {st : List Value} {M : am_M} {v : Value} (hv : am_isr v = true) : am_run G d K_Js_length (0, [some v], st, M) = am_run G d K_Js_length (1, [some v], v :: st, M) := by
  rcases am_isr_cases hv with ⟨q, rfl⟩ | rfl
  · exact am_run_next (x := (.aload_n 0, 1, 0, 0, 0, 0)) (by decide +kernel) rfl
  · exact am_run_next (x := (.aload_n 0, 1, 0, 0, 0, 0)) (by decide +kernel) rfl
theorem r_Js_length_1 {G : Nat → Value} {d : Nat} {st : List Value} {M : am_M} {l0 : Option Value} {a : Nat} : am_run G d K_Js_length (1, [l0], .ref a :: st, M) = am_kf G d K_Js_length 4 [l0] st M (am_fld M a 11 0) := am_run_kf (x := (.getfield 9, 3, 11, 0, 7027, 0)) (by decide +kernel) rfl
theorem r_Js_length_4 {G : Nat → Value} {d : Nat} {st : List Value} {M : am_M} {l0 : Option Value} {a : Nat} : am_run G d K_Js_length (4, [l0], .ref a :: st, M) = am_kn G d K_Js_length 5 [l0] st M (am_len M a) := am_run_kn (x := (.arraylength, 1, 0, 0, 0, 0)) (by decide +kernel) rfl
theorem r_Js_length_5 {G : Nat → Value} {d : Nat} {st : List Value} {M : am_M} {v : Value} (hv : am_isr v = true) : am_run G d K_Js_length (5, [some v], st, M) = am_run G d K_Js_length (6, [some v], v :: st, M) := by
  rcases am_isr_cases hv with ⟨q, rfl⟩ | rfl
  · exact am_run_next (x := (.aload_n 0, 1, 0, 0, 0, 0)) (by decide +kernel) rfl
  · exact am_run_next (x := (.aload_n 0, 1, 0, 0, 0, 0)) (by decide +kernel) rfl
theorem r_Js_length_6 {G : Nat → Value} {d : Nat} {st : List Value} {M : am_M} {l0 : Option Value} {q : Nat} (hq : am_cls M q = some 11) (h8 : am_sw st ≤ 8) : am_run G d K_Js_length (6, [l0], .ref q :: st, M) = am_k G d K_Js_length 9 [l0] st (am_ex G d K_Js_coder [.ref q] M) := am_run_iv (i := 335) (n := 0) (pl := 1128) (Bs := []) (z := K_Js_coder) (by decide +kernel) hq h8 rfl (Nat.le_of_ble_eq_true rfl) rfl
theorem r_Js_length_9 {G : Nat → Value} {d : Nat} {st : List Value} {M : am_M} {l0 : Option Value} {a b : Int32} : am_run G d K_Js_length (9, [l0], .int b :: .int a :: st, M) = am_run G d K_Js_length (10, [l0], .int (a >>> (b &&& 31)) :: st, M) := am_run_next (x := (.ishr, 1, 0, 0, 0, 0)) (by decide +kernel) rfl
theorem r_Js_length_10 {G : Nat → Value} {d : Nat} {M : am_M} {l0 : Option Value} {a : Int32} : am_run G d K_Js_length (10, [l0], [.int a], M) = some (some (.int a), M) := am_run_ret (x := (.ireturn, 1, 0, 0, 0, 0)) (by decide +kernel) rfl
theorem r_Js_coder_0 {G : Nat → Value} {d : Nat} {st : List Value} {M : am_M} {l0 : Option Value} : am_run G d K_Js_coder (0, [l0], st, M) = am_run G d K_Js_coder (3, [l0], .int 1 :: st, M) := am_run_next (x := (.getstatic 38, 3, 1, 0, 1132, 0)) (by decide +kernel) rfl
theorem r_Js_coder_3 {G : Nat → Value} {d : Nat} {st : List Value} {M : am_M} {l0 : Option Value} {a : Int32} : am_run G d K_Js_coder (3, [l0], .int a :: st, M) = if a = 0 then am_run G d K_Js_coder (13, [l0], st, M) else am_run G d K_Js_coder (6, [l0], st, M) := by
  split
  · next h => exact am_run_next (x := (.ifCond .eq 10, 3, 0, 0, 0, 0)) (by decide +kernel) (am_br_t (decide_eq_true h) (by decide))
  · next h => exact am_run_next (x := (.ifCond .eq 10, 3, 0, 0, 0, 0)) (by decide +kernel) (am_br_f (decide_eq_false h) (by decide))
theorem r_Js_coder_6 {G : Nat → Value} {d : Nat} {st : List Value} {M : am_M} {v : Value} (hv : am_isr v = true) : am_run G d K_Js_coder (6, [some v], st, M) = am_run G d K_Js_coder (7, [some v], v :: st, M) := by
  rcases am_isr_cases hv with ⟨q, rfl⟩ | rfl
  · exact am_run_next (x := (.aload_n 0, 1, 0, 0, 0, 0)) (by decide +kernel) rfl
  · exact am_run_next (x := (.aload_n 0, 1, 0, 0, 0, 0)) (by decide +kernel) rfl
theorem r_Js_coder_7 {G : Nat → Value} {d : Nat} {st : List Value} {M : am_M} {l0 : Option Value} {a : Nat} : am_run G d K_Js_coder (7, [l0], .ref a :: st, M) = am_kf G d K_Js_coder 10 [l0] st M (am_fld M a 11 1) := am_run_kf (x := (.getfield 15, 3, 11, 1, 7028, 0)) (by decide +kernel) rfl
theorem r_Js_coder_10 {G : Nat → Value} {d : Nat} {st : List Value} {M : am_M} {l0 : Option Value} : am_run G d K_Js_coder (10, [l0], st, M) = am_run G d K_Js_coder (14, [l0], st, M) := am_run_next (x := (.goto 4, 3, 0, 0, 0, 0)) (by decide +kernel) rfl
theorem r_Js_coder_13 {G : Nat → Value} {d : Nat} {st : List Value} {M : am_M} {l0 : Option Value} : am_run G d K_Js_coder (13, [l0], st, M) = am_run G d K_Js_coder (14, [l0], .int 1 :: st, M) := am_run_next (x := (.iconst 1, 1, 0, 0, 0, 0)) (by decide +kernel) rfl
theorem r_Js_coder_14 {G : Nat → Value} {d : Nat} {M : am_M} {l0 : Option Value} {a : Int32} (ha : a.toInt8.toInt32 = a) : am_run G d K_Js_coder (14, [l0], [.int a], M) = some (some (.int a), M) := am_run_ret (x := (.ireturn, 1, 0, 0, 0, 0)) (by decide +kernel) (if_pos (decide_eq_true ha))
theorem r_Js_charAt_0 {G : Nat → Value} {d : Nat} {st : List Value} {M : am_M} {l1 : Option Value} {v : Value} (hv : am_isr v = true) : am_run G d K_Js_charAt (0, [some v, l1], st, M) = am_run G d K_Js_charAt (1, [some v, l1], v :: st, M) := by
  rcases am_isr_cases hv with ⟨q, rfl⟩ | rfl
  · exact am_run_next (x := (.aload_n 0, 1, 0, 0, 0, 0)) (by decide +kernel) rfl
  · exact am_run_next (x := (.aload_n 0, 1, 0, 0, 0, 0)) (by decide +kernel) rfl
theorem r_Js_charAt_1 {G : Nat → Value} {d : Nat} {st : List Value} {M : am_M} {l0 l1 : Option Value} {q : Nat} (hq : am_cls M q = some 11) (h8 : am_sw st ≤ 8) : am_run G d K_Js_charAt (1, [l0, l1], .ref q :: st, M) = am_k G d K_Js_charAt 4 [l0, l1] st (am_ex G d K_Js_isLatin1 [.ref q] M) := am_run_iv (i := 492) (n := 0) (pl := 1138) (Bs := []) (z := K_Js_isLatin1) (by decide +kernel) hq h8 rfl (Nat.le_of_ble_eq_true rfl) rfl
theorem r_Js_charAt_4 {G : Nat → Value} {d : Nat} {st : List Value} {M : am_M} {l0 l1 : Option Value} {a : Int32} : am_run G d K_Js_charAt (4, [l0, l1], .int a :: st, M) = if a = 0 then am_run G d K_Js_charAt (16, [l0, l1], st, M) else am_run G d K_Js_charAt (7, [l0, l1], st, M) := by
  split
  · next h => exact am_run_next (x := (.ifCond .eq 12, 3, 0, 0, 0, 0)) (by decide +kernel) (am_br_t (decide_eq_true h) (by decide))
  · next h => exact am_run_next (x := (.ifCond .eq 12, 3, 0, 0, 0, 0)) (by decide +kernel) (am_br_f (decide_eq_false h) (by decide))
theorem r_Js_charAt_7 {G : Nat → Value} {d : Nat} {st : List Value} {M : am_M} {l1 : Option Value} {v : Value} (hv : am_isr v = true) : am_run G d K_Js_charAt (7, [some v, l1], st, M) = am_run G d K_Js_charAt (8, [some v, l1], v :: st, M) := by
  rcases am_isr_cases hv with ⟨q, rfl⟩ | rfl
  · exact am_run_next (x := (.aload_n 0, 1, 0, 0, 0, 0)) (by decide +kernel) rfl
  · exact am_run_next (x := (.aload_n 0, 1, 0, 0, 0, 0)) (by decide +kernel) rfl
theorem r_Js_charAt_8 {G : Nat → Value} {d : Nat} {st : List Value} {M : am_M} {l0 l1 : Option Value} {a : Nat} : am_run G d K_Js_charAt (8, [l0, l1], .ref a :: st, M) = am_kf G d K_Js_charAt 11 [l0, l1] st M (am_fld M a 11 0) := am_run_kf (x := (.getfield 9, 3, 11, 0, 7027, 0)) (by decide +kernel) rfl
theorem r_Js_charAt_11 {G : Nat → Value} {d : Nat} {st : List Value} {M : am_M} {l0 : Option Value} {v : Int32} : am_run G d K_Js_charAt (11, [l0, some (.int v)], st, M) = am_run G d K_Js_charAt (12, [l0, some (.int v)], .int v :: st, M) := am_run_next (x := (.iload_n 1, 1, 0, 0, 0, 0)) (by decide +kernel) rfl
theorem r_Js_charAt_12 {G : Nat → Value} {d : Nat} {st : List Value} {M : am_M} {l0 l1 : Option Value} {a0 : Value} {a1 : Int32} (h0 : am_isr a0 = true) (h8 : am_sw st ≤ 8) : am_run G d K_Js_charAt (12, [l0, l1], .int a1 :: a0 :: st, M) = am_k G d K_Js_charAt 15 [l0, l1] st (am_ex G d K_Jl_charAt [a0, .int a1] M) := by
  have he : (am_exp [a0, .int a1]).length ≤ am_mL K_Jl_charAt := by
    rcases am_isr_cases h0 with ⟨z0, rfl⟩ | rfl <;> exact Nat.le_of_ble_eq_true rfl
  exact am_run_is (i := 495) (n := 2) (pl := 1142) (Bs := [a0, .int a1]) (z := K_Jl_charAt) (v := 1) (by decide) (by decide) (by decide +kernel) h8 rfl he rfl
theorem r_Js_charAt_15 {G : Nat → Value} {d : Nat} {M : am_M} {l0 l1 : Option Value} {a : Int32} (ha : a.toUInt32.toUInt16.toUInt32.toInt32 = a) : am_run G d K_Js_charAt (15, [l0, l1], [.int a], M) = some (some (.int a), M) := am_run_ret (x := (.ireturn, 1, 0, 0, 0, 0)) (by decide +kernel) (if_pos (decide_eq_true ha))
theorem r_Js_charAt_16 {G : Nat → Value} {d : Nat} {st : List Value} {M : am_M} {l1 : Option Value} {v : Value} (hv : am_isr v = true) : am_run G d K_Js_charAt (16, [some v, l1], st, M) = am_run G d K_Js_charAt (17, [some v, l1], v :: st, M) := by
  rcases am_isr_cases hv with ⟨q, rfl⟩ | rfl
  · exact am_run_next (x := (.aload_n 0, 1, 0, 0, 0, 0)) (by decide +kernel) rfl
  · exact am_run_next (x := (.aload_n 0, 1, 0, 0, 0, 0)) (by decide +kernel) rfl
theorem r_Js_charAt_17 {G : Nat → Value} {d : Nat} {st : List Value} {M : am_M} {l0 l1 : Option Value} {a : Nat} : am_run G d K_Js_charAt (17, [l0, l1], .ref a :: st, M) = am_kf G d K_Js_charAt 20 [l0, l1] st M (am_fld M a 11 0) := am_run_kf (x := (.getfield 9, 3, 11, 0, 7027, 0)) (by decide +kernel) rfl
theorem r_Js_charAt_20 {G : Nat → Value} {d : Nat} {st : List Value} {M : am_M} {l0 : Option Value} {v : Int32} : am_run G d K_Js_charAt (20, [l0, some (.int v)], st, M) = am_run G d K_Js_charAt (21, [l0, some (.int v)], .int v :: st, M) := am_run_next (x := (.iload_n 1, 1, 0, 0, 0, 0)) (by decide +kernel) rfl
theorem r_Js_charAt_24 {G : Nat → Value} {d : Nat} {M : am_M} {l0 l1 : Option Value} {a : Int32} (ha : a.toUInt32.toUInt16.toUInt32.toInt32 = a) : am_run G d K_Js_charAt (24, [l0, l1], [.int a], M) = some (some (.int a), M) := am_run_ret (x := (.ireturn, 1, 0, 0, 0, 0)) (by decide +kernel) (if_pos (decide_eq_true ha))
theorem r_Js_isLatin1_0 {G : Nat → Value} {d : Nat} {st : List Value} {M : am_M} {l0 : Option Value} : am_run G d K_Js_isLatin1 (0, [l0], st, M) = am_run G d K_Js_isLatin1 (3, [l0], .int 1 :: st, M) := am_run_next (x := (.getstatic 38, 3, 1, 0, 1132, 0)) (by decide +kernel) rfl
theorem r_Js_isLatin1_3 {G : Nat → Value} {d : Nat} {st : List Value} {M : am_M} {l0 : Option Value} {a : Int32} : am_run G d K_Js_isLatin1 (3, [l0], .int a :: st, M) = if a = 0 then am_run G d K_Js_isLatin1 (17, [l0], st, M) else am_run G d K_Js_isLatin1 (6, [l0], st, M) := by
  split
  · next h => exact am_run_next (x := (.ifCond .eq 14, 3, 0, 0, 0, 0)) (by decide +kernel) (am_br_t (decide_eq_true h) (by decide))
  · next h => exact am_run_next (x := (.ifCond .eq 14, 3, 0, 0, 0, 0)) (by decide +kernel) (am_br_f (decide_eq_false h) (by decide))
theorem r_Js_isLatin1_6 {G : Nat → Value} {d : Nat} {st : List Value} {M : am_M} {v : Value} (hv : am_isr v = true) : am_run G d K_Js_isLatin1 (6, [some v], st, M) = am_run G d K_Js_isLatin1 (7, [some v], v :: st, M) := by
  rcases am_isr_cases hv with ⟨q, rfl⟩ | rfl
  · exact am_run_next (x := (.aload_n 0, 1, 0, 0, 0, 0)) (by decide +kernel) rfl
  · exact am_run_next (x := (.aload_n 0, 1, 0, 0, 0, 0)) (by decide +kernel) rfl
theorem r_Js_isLatin1_7 {G : Nat → Value} {d : Nat} {st : List Value} {M : am_M} {l0 : Option Value} {a : Nat} : am_run G d K_Js_isLatin1 (7, [l0], .ref a :: st, M) = am_kf G d K_Js_isLatin1 10 [l0] st M (am_fld M a 11 1) := am_run_kf (x := (.getfield 15, 3, 11, 1, 7028, 0)) (by decide +kernel) rfl
theorem r_Js_isLatin1_10 {G : Nat → Value} {d : Nat} {st : List Value} {M : am_M} {l0 : Option Value} {a : Int32} : am_run G d K_Js_isLatin1 (10, [l0], .int a :: st, M) = if ¬ a = 0 then am_run G d K_Js_isLatin1 (17, [l0], st, M) else am_run G d K_Js_isLatin1 (13, [l0], st, M) := by
  split
  · next h => exact am_run_next (x := (.ifCond .ne 7, 3, 0, 0, 0, 0)) (by decide +kernel) (am_br_t (decide_eq_true h) (by decide))
  · next h => exact am_run_next (x := (.ifCond .ne 7, 3, 0, 0, 0, 0)) (by decide +kernel) (am_br_f (decide_eq_false h) (by decide))
theorem r_Js_isLatin1_13 {G : Nat → Value} {d : Nat} {st : List Value} {M : am_M} {l0 : Option Value} : am_run G d K_Js_isLatin1 (13, [l0], st, M) = am_run G d K_Js_isLatin1 (14, [l0], .int 1 :: st, M) := am_run_next (x := (.iconst 1, 1, 0, 0, 0, 0)) (by decide +kernel) rfl
theorem r_Js_isLatin1_14 {G : Nat → Value} {d : Nat} {st : List Value} {M : am_M} {l0 : Option Value} : am_run G d K_Js_isLatin1 (14, [l0], st, M) = am_run G d K_Js_isLatin1 (18, [l0], st, M) := am_run_next (x := (.goto 4, 3, 0, 0, 0, 0)) (by decide +kernel) rfl
theorem r_Js_isLatin1_17 {G : Nat → Value} {d : Nat} {st : List Value} {M : am_M} {l0 : Option Value} : am_run G d K_Js_isLatin1 (17, [l0], st, M) = am_run G d K_Js_isLatin1 (18, [l0], .int 0 :: st, M) := am_run_next (x := (.iconst 0, 1, 0, 0, 0, 0)) (by decide +kernel) rfl
theorem r_Js_isLatin1_18 {G : Nat → Value} {d : Nat} {M : am_M} {l0 : Option Value} {a : Int32} (ha : a = 0 ∨ a = 1) : am_run G d K_Js_isLatin1 (18, [l0], [.int a], M) = some (some (.int a), M) := am_run_ret (x := (.ireturn, 1, 0, 0, 0, 0)) (by decide +kernel) (if_pos (decide_eq_true ha))
theorem r_Jl_charAt_0 {G : Nat → Value} {d : Nat} {st : List Value} {M : am_M} {l0 : Option Value} {v : Int32} : am_run G d K_Jl_charAt (0, [l0, some (.int v)], st, M) = am_run G d K_Jl_charAt (1, [l0, some (.int v)], .int v :: st, M) := am_run_next (x := (.iload_n 1, 1, 0, 0, 0, 0)) (by decide +kernel) rfl
theorem r_Jl_charAt_1 {G : Nat → Value} {d : Nat} {st : List Value} {M : am_M} {l1 : Option Value} {v : Value} (hv : am_isr v = true) : am_run G d K_Jl_charAt (1, [some v, l1], st, M) = am_run G d K_Jl_charAt (2, [some v, l1], v :: st, M) := by
  rcases am_isr_cases hv with ⟨q, rfl⟩ | rfl
  · exact am_run_next (x := (.aload_n 0, 1, 0, 0, 0, 0)) (by decide +kernel) rfl
  · exact am_run_next (x := (.aload_n 0, 1, 0, 0, 0, 0)) (by decide +kernel) rfl
theorem r_Jl_charAt_2 {G : Nat → Value} {d : Nat} {st : List Value} {M : am_M} {l0 l1 : Option Value} {a : Nat} : am_run G d K_Jl_charAt (2, [l0, l1], .ref a :: st, M) = am_kn G d K_Jl_charAt 3 [l0, l1] st M (am_len M a) := am_run_kn (x := (.arraylength, 1, 0, 0, 0, 0)) (by decide +kernel) rfl
theorem r_Jl_charAt_3 {G : Nat → Value} {d : Nat} {st : List Value} {M : am_M} {l0 l1 : Option Value} {a0 : Int32} {a1 : Int32} (h8 : am_sw st ≤ 8) : am_run G d K_Jl_charAt (3, [l0, l1], .int a1 :: .int a0 :: st, M) = am_k G d K_Jl_charAt 6 [l0, l1] st (am_ex G d K_Js_checkIndex [.int a0, .int a1] M) := am_run_is (i := 9) (n := 2) (pl := 1145) (Bs := [.int a0, .int a1]) (z := K_Js_checkIndex) (v := 1) (by decide) (by decide) (by decide +kernel) h8 rfl (Nat.le_of_ble_eq_true rfl) rfl
theorem r_Jl_charAt_6 {G : Nat → Value} {d : Nat} {st : List Value} {M : am_M} {l1 : Option Value} {v : Value} (hv : am_isr v = true) : am_run G d K_Jl_charAt (6, [some v, l1], st, M) = am_run G d K_Jl_charAt (7, [some v, l1], v :: st, M) := by
  rcases am_isr_cases hv with ⟨q, rfl⟩ | rfl
  · exact am_run_next (x := (.aload_n 0, 1, 0, 0, 0, 0)) (by decide +kernel) rfl
  · exact am_run_next (x := (.aload_n 0, 1, 0, 0, 0, 0)) (by decide +kernel) rfl
theorem r_Jl_charAt_7 {G : Nat → Value} {d : Nat} {st : List Value} {M : am_M} {l0 : Option Value} {v : Int32} : am_run G d K_Jl_charAt (7, [l0, some (.int v)], st, M) = am_run G d K_Jl_charAt (8, [l0, some (.int v)], .int v :: st, M) := am_run_next (x := (.iload_n 1, 1, 0, 0, 0, 0)) (by decide +kernel) rfl
theorem r_Jl_charAt_8 {G : Nat → Value} {d : Nat} {st : List Value} {M : am_M} {l0 l1 : Option Value} {a : Nat} {i : Int32} : am_run G d K_Jl_charAt (8, [l0, l1], .int i :: .ref a :: st, M) = am_kf G d K_Jl_charAt 9 [l0, l1] st M (am_ag 2 M a i) := am_run_kf (x := (.baload, 1, 0, 0, 0, 0)) (by decide +kernel) rfl
theorem r_Jl_charAt_9 {G : Nat → Value} {d : Nat} {st : List Value} {M : am_M} {l0 l1 : Option Value} : am_run G d K_Jl_charAt (9, [l0, l1], st, M) = am_run G d K_Jl_charAt (12, [l0, l1], .int 255 :: st, M) := am_run_next (x := (.sipush 255, 3, 0, 0, 0, 0)) (by decide +kernel) rfl
theorem r_Jl_charAt_12 {G : Nat → Value} {d : Nat} {st : List Value} {M : am_M} {l0 l1 : Option Value} {a b : Int32} : am_run G d K_Jl_charAt (12, [l0, l1], .int b :: .int a :: st, M) = am_run G d K_Jl_charAt (13, [l0, l1], .int (a &&& b) :: st, M) := am_run_next (x := (.iand, 1, 0, 0, 0, 0)) (by decide +kernel) rfl
theorem r_Jl_charAt_13 {G : Nat → Value} {d : Nat} {st : List Value} {M : am_M} {l0 l1 : Option Value} {a : Int32} : am_run G d K_Jl_charAt (13, [l0, l1], .int a :: st, M) = am_run G d K_Jl_charAt (14, [l0, l1], .int (a.toUInt32 % 65536).toInt32 :: st, M) := am_run_next (x := (.i2c, 1, 0, 0, 0, 0)) (by decide +kernel) rfl
theorem r_Jl_charAt_14 {G : Nat → Value} {d : Nat} {M : am_M} {l0 l1 : Option Value} {a : Int32} (ha : a.toUInt32.toUInt16.toUInt32.toInt32 = a) : am_run G d K_Jl_charAt (14, [l0, l1], [.int a], M) = some (some (.int a), M) := am_run_ret (x := (.ireturn, 1, 0, 0, 0, 0)) (by decide +kernel) (if_pos (decide_eq_true ha))
theorem r_Js_checkIndex_0 {G : Nat → Value} {d : Nat} {st : List Value} {M : am_M} {l1 : Option Value} {v : Int32} : am_run G d K_Js_checkIndex (0, [some (.int v), l1], st, M) = am_run G d K_Js_checkIndex (1, [some (.int v), l1], .int v :: st, M) := am_run_next (x := (.iload_n 0, 1, 0, 0, 0, 0)) (by decide +kernel) rfl
theorem r_Js_checkIndex_1 {G : Nat → Value} {d : Nat} {st : List Value} {M : am_M} {l0 : Option Value} {v : Int32} : am_run G d K_Js_checkIndex (1, [l0, some (.int v)], st, M) = am_run G d K_Js_checkIndex (2, [l0, some (.int v)], .int v :: st, M) := am_run_next (x := (.iload_n 1, 1, 0, 0, 0, 0)) (by decide +kernel) rfl
theorem r_Js_checkIndex_2 {G : Nat → Value} {d : Nat} {st : List Value} {M : am_M} {l0 l1 : Option Value} : am_run G d K_Js_checkIndex (2, [l0, l1], st, M) = am_run G d K_Js_checkIndex (5, [l0, l1], G 2 :: st, M) := am_run_next (x := (.getstatic 1053, 3, 2, 0, 1148, 0)) (by decide +kernel) rfl
theorem r_Js_checkIndex_5 {G : Nat → Value} {d : Nat} {st : List Value} {M : am_M} {l0 l1 : Option Value} {a0 : Int32} {a1 : Int32} {a2 : Value} (h2 : am_isr a2 = true) (h8 : am_sw st ≤ 8) : am_run G d K_Js_checkIndex (5, [l0, l1], a2 :: .int a1 :: .int a0 :: st, M) = am_k G d K_Js_checkIndex 8 [l0, l1] st (am_ex G d K_Jp_checkIndex [.int a0, .int a1, a2] M) := by
  have he : (am_exp [.int a0, .int a1, a2]).length ≤ am_mL K_Jp_checkIndex := by
    rcases am_isr_cases h2 with ⟨z2, rfl⟩ | rfl <;> exact Nat.le_of_ble_eq_true rfl
  exact am_run_is (i := 1059) (n := 3) (pl := 1150) (Bs := [.int a0, .int a1, a2]) (z := K_Jp_checkIndex) (v := 1) (by decide) (by decide) (by decide +kernel) h8 rfl he rfl
theorem r_Js_checkIndex_8 {G : Nat → Value} {d : Nat} {st : List Value} {M : am_M} {l0 l1 : Option Value} {v : Value} (hv : v.category = 1) : am_run G d K_Js_checkIndex (8, [l0, l1], v :: st, M) = am_run G d K_Js_checkIndex (9, [l0, l1], st, M) := am_run_next (x := (.pop, 1, 0, 0, 0, 0)) (by decide +kernel) (if_pos hv)
theorem r_Js_checkIndex_9 {G : Nat → Value} {d : Nat} {M : am_M} {l0 l1 : Option Value} : am_run G d K_Js_checkIndex (9, [l0, l1], [], M) = some (none, M) := am_run_ret (x := (.return_, 1, 0, 0, 0, 0)) (by decide +kernel) rfl
theorem r_Jp_checkIndex_0 {G : Nat → Value} {d : Nat} {st : List Value} {M : am_M} {l1 l2 : Option Value} {v : Int32} : am_run G d K_Jp_checkIndex (0, [some (.int v), l1, l2], st, M) = am_run G d K_Jp_checkIndex (1, [some (.int v), l1, l2], .int v :: st, M) := am_run_next (x := (.iload_n 0, 1, 0, 0, 0, 0)) (by decide +kernel) rfl
theorem r_Jp_checkIndex_1 {G : Nat → Value} {d : Nat} {st : List Value} {M : am_M} {l0 l1 l2 : Option Value} {a : Int32} : am_run G d K_Jp_checkIndex (1, [l0, l1, l2], .int a :: st, M) = if a < 0 then am_run G d K_Jp_checkIndex (9, [l0, l1, l2], st, M) else am_run G d K_Jp_checkIndex (4, [l0, l1, l2], st, M) := by
  split
  · next h => exact am_run_next (x := (.ifCond .lt 8, 3, 0, 0, 0, 0)) (by decide +kernel) (am_br_t (decide_eq_true h) (by decide))
  · next h => exact am_run_next (x := (.ifCond .lt 8, 3, 0, 0, 0, 0)) (by decide +kernel) (am_br_f (decide_eq_false h) (by decide))
theorem r_Jp_checkIndex_4 {G : Nat → Value} {d : Nat} {st : List Value} {M : am_M} {l1 l2 : Option Value} {v : Int32} : am_run G d K_Jp_checkIndex (4, [some (.int v), l1, l2], st, M) = am_run G d K_Jp_checkIndex (5, [some (.int v), l1, l2], .int v :: st, M) := am_run_next (x := (.iload_n 0, 1, 0, 0, 0, 0)) (by decide +kernel) rfl
theorem r_Jp_checkIndex_5 {G : Nat → Value} {d : Nat} {st : List Value} {M : am_M} {l0 l2 : Option Value} {v : Int32} : am_run G d K_Jp_checkIndex (5, [l0, some (.int v), l2], st, M) = am_run G d K_Jp_checkIndex (6, [l0, some (.int v), l2], .int v :: st, M) := am_run_next (x := (.iload_n 1, 1, 0, 0, 0, 0)) (by decide +kernel) rfl
theorem r_Jp_checkIndex_6 {G : Nat → Value} {d : Nat} {st : List Value} {M : am_M} {l0 l1 l2 : Option Value} {a b : Int32} : am_run G d K_Jp_checkIndex (6, [l0, l1, l2], .int b :: .int a :: st, M) = if a < b then am_run G d K_Jp_checkIndex (16, [l0, l1, l2], st, M) else am_run G d K_Jp_checkIndex (9, [l0, l1, l2], st, M) := by
  split
  · next h => exact am_run_next (x := (.if_icmp .lt 10, 3, 0, 0, 0, 0)) (by decide +kernel) (am_br_t (decide_eq_true h) (by decide))
  · next h => exact am_run_next (x := (.if_icmp .lt 10, 3, 0, 0, 0, 0)) (by decide +kernel) (am_br_f (decide_eq_false h) (by decide))
theorem r_Jp_checkIndex_9 {G : Nat → Value} {d : Nat} {st : List Value} {M : am_M} {l0 l1 : Option Value} {v : Value} (hv : am_isr v = true) : am_run G d K_Jp_checkIndex (9, [l0, l1, some v], st, M) = am_run G d K_Jp_checkIndex (10, [l0, l1, some v], v :: st, M) := by
  rcases am_isr_cases hv with ⟨q, rfl⟩ | rfl
  · exact am_run_next (x := (.aload_n 2, 1, 0, 0, 0, 0)) (by decide +kernel) rfl
  · exact am_run_next (x := (.aload_n 2, 1, 0, 0, 0, 0)) (by decide +kernel) rfl
theorem r_Jp_checkIndex_10 {G : Nat → Value} {d : Nat} {st : List Value} {M : am_M} {l1 l2 : Option Value} {v : Int32} : am_run G d K_Jp_checkIndex (10, [some (.int v), l1, l2], st, M) = am_run G d K_Jp_checkIndex (11, [some (.int v), l1, l2], .int v :: st, M) := am_run_next (x := (.iload_n 0, 1, 0, 0, 0, 0)) (by decide +kernel) rfl
theorem r_Jp_checkIndex_11 {G : Nat → Value} {d : Nat} {st : List Value} {M : am_M} {l0 l2 : Option Value} {v : Int32} : am_run G d K_Jp_checkIndex (11, [l0, some (.int v), l2], st, M) = am_run G d K_Jp_checkIndex (12, [l0, some (.int v), l2], .int v :: st, M) := am_run_next (x := (.iload_n 1, 1, 0, 0, 0, 0)) (by decide +kernel) rfl
theorem r_Jp_checkIndex_16 {G : Nat → Value} {d : Nat} {st : List Value} {M : am_M} {l1 l2 : Option Value} {v : Int32} : am_run G d K_Jp_checkIndex (16, [some (.int v), l1, l2], st, M) = am_run G d K_Jp_checkIndex (17, [some (.int v), l1, l2], .int v :: st, M) := am_run_next (x := (.iload_n 0, 1, 0, 0, 0, 0)) (by decide +kernel) rfl
theorem r_Jp_checkIndex_17 {G : Nat → Value} {d : Nat} {M : am_M} {l0 l1 l2 : Option Value} {a : Int32} : am_run G d K_Jp_checkIndex (17, [l0, l1, l2], [.int a], M) = some (some (.int a), M) := am_run_ret (x := (.ireturn, 1, 0, 0, 0, 0)) (by decide +kernel) rfl
theorem r_Js_indexOf_0 {G : Nat → Value} {d : Nat} {st : List Value} {M : am_M} {l1 : Option Value} {v : Value} (hv : am_isr v = true) : am_run G d K_Js_indexOf (0, [some v, l1], st, M) = am_run G d K_Js_indexOf (1, [some v, l1], v :: st, M) := by
  rcases am_isr_cases hv with ⟨q, rfl⟩ | rfl
  · exact am_run_next (x := (.aload_n 0, 1, 0, 0, 0, 0)) (by decide +kernel) rfl
  · exact am_run_next (x := (.aload_n 0, 1, 0, 0, 0, 0)) (by decide +kernel) rfl
theorem r_Js_indexOf_1 {G : Nat → Value} {d : Nat} {st : List Value} {M : am_M} {l0 : Option Value} {v : Int32} : am_run G d K_Js_indexOf (1, [l0, some (.int v)], st, M) = am_run G d K_Js_indexOf (2, [l0, some (.int v)], .int v :: st, M) := am_run_next (x := (.iload_n 1, 1, 0, 0, 0, 0)) (by decide +kernel) rfl
theorem r_Js_indexOf_2 {G : Nat → Value} {d : Nat} {st : List Value} {M : am_M} {l0 l1 : Option Value} : am_run G d K_Js_indexOf (2, [l0, l1], st, M) = am_run G d K_Js_indexOf (3, [l0, l1], .int 0 :: st, M) := am_run_next (x := (.iconst 0, 1, 0, 0, 0, 0)) (by decide +kernel) rfl
theorem r_Js_indexOf_3 {G : Nat → Value} {d : Nat} {st : List Value} {M : am_M} {l0 l1 : Option Value} {q : Nat} {a0 : Int32} {a1 : Int32} (hq : am_cls M q = some 11) (h8 : am_sw st ≤ 8) : am_run G d K_Js_indexOf (3, [l0, l1], .int a1 :: .int a0 :: .ref q :: st, M) = am_k G d K_Js_indexOf 6 [l0, l1] st (am_ex G d K_Js_indexOf_1 [.ref q, .int a0, .int a1] M) := am_run_iv (i := 633) (n := 2) (pl := 1227) (Bs := [.int a0, .int a1]) (z := K_Js_indexOf_1) (by decide +kernel) hq h8 rfl (Nat.le_of_ble_eq_true rfl) rfl
theorem r_Js_indexOf_6 {G : Nat → Value} {d : Nat} {M : am_M} {l0 l1 : Option Value} {a : Int32} : am_run G d K_Js_indexOf (6, [l0, l1], [.int a], M) = some (some (.int a), M) := am_run_ret (x := (.ireturn, 1, 0, 0, 0, 0)) (by decide +kernel) rfl
theorem r_Js_indexOf_1_0 {G : Nat → Value} {d : Nat} {st : List Value} {M : am_M} {l1 l2 : Option Value} {v : Value} (hv : am_isr v = true) : am_run G d K_Js_indexOf_1 (0, [some v, l1, l2], st, M) = am_run G d K_Js_indexOf_1 (1, [some v, l1, l2], v :: st, M) := by
  rcases am_isr_cases hv with ⟨q, rfl⟩ | rfl
  · exact am_run_next (x := (.aload_n 0, 1, 0, 0, 0, 0)) (by decide +kernel) rfl
  · exact am_run_next (x := (.aload_n 0, 1, 0, 0, 0, 0)) (by decide +kernel) rfl
theorem r_Js_indexOf_1_1 {G : Nat → Value} {d : Nat} {st : List Value} {M : am_M} {l0 l1 l2 : Option Value} {q : Nat} (hq : am_cls M q = some 11) (h8 : am_sw st ≤ 8) : am_run G d K_Js_indexOf_1 (1, [l0, l1, l2], .ref q :: st, M) = am_k G d K_Js_indexOf_1 4 [l0, l1, l2] st (am_ex G d K_Js_isLatin1 [.ref q] M) := am_run_iv (i := 492) (n := 0) (pl := 1138) (Bs := []) (z := K_Js_isLatin1) (by decide +kernel) hq h8 rfl (Nat.le_of_ble_eq_true rfl) rfl
theorem r_Js_indexOf_1_4 {G : Nat → Value} {d : Nat} {st : List Value} {M : am_M} {l0 l1 l2 : Option Value} {a : Int32} : am_run G d K_Js_indexOf_1 (4, [l0, l1, l2], .int a :: st, M) = if a = 0 then am_run G d K_Js_indexOf_1 (23, [l0, l1, l2], st, M) else am_run G d K_Js_indexOf_1 (7, [l0, l1, l2], st, M) := by
  split
  · next h => exact am_run_next (x := (.ifCond .eq 19, 3, 0, 0, 0, 0)) (by decide +kernel) (am_br_t (decide_eq_true h) (by decide))
  · next h => exact am_run_next (x := (.ifCond .eq 19, 3, 0, 0, 0, 0)) (by decide +kernel) (am_br_f (decide_eq_false h) (by decide))
theorem r_Js_indexOf_1_7 {G : Nat → Value} {d : Nat} {st : List Value} {M : am_M} {l1 l2 : Option Value} {v : Value} (hv : am_isr v = true) : am_run G d K_Js_indexOf_1 (7, [some v, l1, l2], st, M) = am_run G d K_Js_indexOf_1 (8, [some v, l1, l2], v :: st, M) := by
  rcases am_isr_cases hv with ⟨q, rfl⟩ | rfl
  · exact am_run_next (x := (.aload_n 0, 1, 0, 0, 0, 0)) (by decide +kernel) rfl
  · exact am_run_next (x := (.aload_n 0, 1, 0, 0, 0, 0)) (by decide +kernel) rfl
theorem r_Js_indexOf_1_8 {G : Nat → Value} {d : Nat} {st : List Value} {M : am_M} {l0 l1 l2 : Option Value} {a : Nat} : am_run G d K_Js_indexOf_1 (8, [l0, l1, l2], .ref a :: st, M) = am_kf G d K_Js_indexOf_1 11 [l0, l1, l2] st M (am_fld M a 11 0) := am_run_kf (x := (.getfield 9, 3, 11, 0, 7027, 0)) (by decide +kernel) rfl
theorem r_Js_indexOf_1_11 {G : Nat → Value} {d : Nat} {st : List Value} {M : am_M} {l0 l2 : Option Value} {v : Int32} : am_run G d K_Js_indexOf_1 (11, [l0, some (.int v), l2], st, M) = am_run G d K_Js_indexOf_1 (12, [l0, some (.int v), l2], .int v :: st, M) := am_run_next (x := (.iload_n 1, 1, 0, 0, 0, 0)) (by decide +kernel) rfl
theorem r_Js_indexOf_1_12 {G : Nat → Value} {d : Nat} {st : List Value} {M : am_M} {l0 l1 : Option Value} {v : Int32} : am_run G d K_Js_indexOf_1 (12, [l0, l1, some (.int v)], st, M) = am_run G d K_Js_indexOf_1 (13, [l0, l1, some (.int v)], .int v :: st, M) := am_run_next (x := (.iload_n 2, 1, 0, 0, 0, 0)) (by decide +kernel) rfl
theorem r_Js_indexOf_1_13 {G : Nat → Value} {d : Nat} {st : List Value} {M : am_M} {l1 l2 : Option Value} {v : Value} (hv : am_isr v = true) : am_run G d K_Js_indexOf_1 (13, [some v, l1, l2], st, M) = am_run G d K_Js_indexOf_1 (14, [some v, l1, l2], v :: st, M) := by
  rcases am_isr_cases hv with ⟨q, rfl⟩ | rfl
  · exact am_run_next (x := (.aload_n 0, 1, 0, 0, 0, 0)) (by decide +kernel) rfl
  · exact am_run_next (x := (.aload_n 0, 1, 0, 0, 0, 0)) (by decide +kernel) rfl
theorem r_Js_indexOf_1_14 {G : Nat → Value} {d : Nat} {st : List Value} {M : am_M} {l0 l1 l2 : Option Value} {q : Nat} (hq : am_cls M q = some 11) (h8 : am_sw st ≤ 8) : am_run G d K_Js_indexOf_1 (14, [l0, l1, l2], .ref q :: st, M) = am_k G d K_Js_indexOf_1 17 [l0, l1, l2] st (am_ex G d K_Js_length [.ref q] M) := am_run_iv (i := 505) (n := 0) (pl := 1231) (Bs := []) (z := K_Js_length) (by decide +kernel) hq h8 rfl (Nat.le_of_ble_eq_true rfl) rfl
theorem r_Js_indexOf_1_17 {G : Nat → Value} {d : Nat} {st : List Value} {M : am_M} {l0 l1 l2 : Option Value} {a0 : Value} {a1 : Int32} {a2 : Int32} {a3 : Int32} (h0 : am_isr a0 = true) (h8 : am_sw st ≤ 8) : am_run G d K_Js_indexOf_1 (17, [l0, l1, l2], .int a3 :: .int a2 :: .int a1 :: a0 :: st, M) = am_k G d K_Js_indexOf_1 20 [l0, l1, l2] st (am_ex G d K_Jl_indexOf [a0, .int a1, .int a2, .int a3] M) := by
  have he : (am_exp [a0, .int a1, .int a2, .int a3]).length ≤ am_mL K_Jl_indexOf := by
    rcases am_isr_cases h0 with ⟨z0, rfl⟩ | rfl <;> exact Nat.le_of_ble_eq_true rfl
  exact am_run_is (i := 637) (n := 4) (pl := 1232) (Bs := [a0, .int a1, .int a2, .int a3]) (z := K_Jl_indexOf) (v := 1) (by decide) (by decide) (by decide +kernel) h8 rfl he rfl
theorem r_Js_indexOf_1_20 {G : Nat → Value} {d : Nat} {st : List Value} {M : am_M} {l0 l1 l2 : Option Value} : am_run G d K_Js_indexOf_1 (20, [l0, l1, l2], st, M) = am_run G d K_Js_indexOf_1 (36, [l0, l1, l2], st, M) := am_run_next (x := (.goto 16, 3, 0, 0, 0, 0)) (by decide +kernel) rfl
theorem r_Js_indexOf_1_23 {G : Nat → Value} {d : Nat} {st : List Value} {M : am_M} {l1 l2 : Option Value} {v : Value} (hv : am_isr v = true) : am_run G d K_Js_indexOf_1 (23, [some v, l1, l2], st, M) = am_run G d K_Js_indexOf_1 (24, [some v, l1, l2], v :: st, M) := by
  rcases am_isr_cases hv with ⟨q, rfl⟩ | rfl
  · exact am_run_next (x := (.aload_n 0, 1, 0, 0, 0, 0)) (by decide +kernel) rfl
  · exact am_run_next (x := (.aload_n 0, 1, 0, 0, 0, 0)) (by decide +kernel) rfl
theorem r_Js_indexOf_1_24 {G : Nat → Value} {d : Nat} {st : List Value} {M : am_M} {l0 l1 l2 : Option Value} {a : Nat} : am_run G d K_Js_indexOf_1 (24, [l0, l1, l2], .ref a :: st, M) = am_kf G d K_Js_indexOf_1 27 [l0, l1, l2] st M (am_fld M a 11 0) := am_run_kf (x := (.getfield 9, 3, 11, 0, 7027, 0)) (by decide +kernel) rfl
theorem r_Js_indexOf_1_27 {G : Nat → Value} {d : Nat} {st : List Value} {M : am_M} {l0 l2 : Option Value} {v : Int32} : am_run G d K_Js_indexOf_1 (27, [l0, some (.int v), l2], st, M) = am_run G d K_Js_indexOf_1 (28, [l0, some (.int v), l2], .int v :: st, M) := am_run_next (x := (.iload_n 1, 1, 0, 0, 0, 0)) (by decide +kernel) rfl
theorem r_Js_indexOf_1_28 {G : Nat → Value} {d : Nat} {st : List Value} {M : am_M} {l0 l1 : Option Value} {v : Int32} : am_run G d K_Js_indexOf_1 (28, [l0, l1, some (.int v)], st, M) = am_run G d K_Js_indexOf_1 (29, [l0, l1, some (.int v)], .int v :: st, M) := am_run_next (x := (.iload_n 2, 1, 0, 0, 0, 0)) (by decide +kernel) rfl
theorem r_Js_indexOf_1_29 {G : Nat → Value} {d : Nat} {st : List Value} {M : am_M} {l1 l2 : Option Value} {v : Value} (hv : am_isr v = true) : am_run G d K_Js_indexOf_1 (29, [some v, l1, l2], st, M) = am_run G d K_Js_indexOf_1 (30, [some v, l1, l2], v :: st, M) := by
  rcases am_isr_cases hv with ⟨q, rfl⟩ | rfl
  · exact am_run_next (x := (.aload_n 0, 1, 0, 0, 0, 0)) (by decide +kernel) rfl
  · exact am_run_next (x := (.aload_n 0, 1, 0, 0, 0, 0)) (by decide +kernel) rfl
theorem r_Js_indexOf_1_30 {G : Nat → Value} {d : Nat} {st : List Value} {M : am_M} {l0 l1 l2 : Option Value} {q : Nat} (hq : am_cls M q = some 11) (h8 : am_sw st ≤ 8) : am_run G d K_Js_indexOf_1 (30, [l0, l1, l2], .ref q :: st, M) = am_k G d K_Js_indexOf_1 33 [l0, l1, l2] st (am_ex G d K_Js_length [.ref q] M) := am_run_iv (i := 505) (n := 0) (pl := 1231) (Bs := []) (z := K_Js_length) (by decide +kernel) hq h8 rfl (Nat.le_of_ble_eq_true rfl) rfl
theorem r_Js_indexOf_1_36 {G : Nat → Value} {d : Nat} {M : am_M} {l0 l1 l2 : Option Value} {a : Int32} : am_run G d K_Js_indexOf_1 (36, [l0, l1, l2], [.int a], M) = some (some (.int a), M) := am_run_ret (x := (.ireturn, 1, 0, 0, 0, 0)) (by decide +kernel) rfl
theorem r_Jl_indexOf_0 {G : Nat → Value} {d : Nat} {st : List Value} {M : am_M} {l0 l2 l3 : Option Value} {v : Int32} : am_run G d K_Jl_indexOf (0, [l0, some (.int v), l2, l3], st, M) = am_run G d K_Jl_indexOf (1, [l0, some (.int v), l2, l3], .int v :: st, M) := am_run_next (x := (.iload_n 1, 1, 0, 0, 0, 0)) (by decide +kernel) rfl
theorem r_Jl_indexOf_1 {G : Nat → Value} {d : Nat} {st : List Value} {M : am_M} {l0 l1 l2 l3 : Option Value} {a0 : Int32} (h8 : am_sw st ≤ 8) : am_run G d K_Jl_indexOf (1, [l0, l1, l2, l3], .int a0 :: st, M) = am_k G d K_Jl_indexOf 4 [l0, l1, l2, l3] st (am_ex G d K_Jl_canEncode [.int a0] M) := am_run_is (i := 88) (n := 1) (pl := 1235) (Bs := [.int a0]) (z := K_Jl_canEncode) (v := 1) (by decide) (by decide) (by decide +kernel) h8 rfl (Nat.le_of_ble_eq_true rfl) rfl
theorem r_Jl_indexOf_4 {G : Nat → Value} {d : Nat} {st : List Value} {M : am_M} {l0 l1 l2 l3 : Option Value} {a : Int32} : am_run G d K_Jl_indexOf (4, [l0, l1, l2, l3], .int a :: st, M) = if ¬ a = 0 then am_run G d K_Jl_indexOf (9, [l0, l1, l2, l3], st, M) else am_run G d K_Jl_indexOf (7, [l0, l1, l2, l3], st, M) := by
  split
  · next h => exact am_run_next (x := (.ifCond .ne 5, 3, 0, 0, 0, 0)) (by decide +kernel) (am_br_t (decide_eq_true h) (by decide))
  · next h => exact am_run_next (x := (.ifCond .ne 5, 3, 0, 0, 0, 0)) (by decide +kernel) (am_br_f (decide_eq_false h) (by decide))
theorem r_Jl_indexOf_7 {G : Nat → Value} {d : Nat} {st : List Value} {M : am_M} {l0 l1 l2 l3 : Option Value} : am_run G d K_Jl_indexOf (7, [l0, l1, l2, l3], st, M) = am_run G d K_Jl_indexOf (8, [l0, l1, l2, l3], .int (-1) :: st, M) := am_run_next (x := (.iconst (-1), 1, 0, 0, 0, 0)) (by decide +kernel) rfl
theorem r_Jl_indexOf_8 {G : Nat → Value} {d : Nat} {M : am_M} {l0 l1 l2 l3 : Option Value} {a : Int32} : am_run G d K_Jl_indexOf (8, [l0, l1, l2, l3], [.int a], M) = some (some (.int a), M) := am_run_ret (x := (.ireturn, 1, 0, 0, 0, 0)) (by decide +kernel) rfl
theorem r_Jl_indexOf_9 {G : Nat → Value} {d : Nat} {st : List Value} {M : am_M} {l0 l1 l3 : Option Value} {v : Int32} : am_run G d K_Jl_indexOf (9, [l0, l1, some (.int v), l3], st, M) = am_run G d K_Jl_indexOf (10, [l0, l1, some (.int v), l3], .int v :: st, M) := am_run_next (x := (.iload_n 2, 1, 0, 0, 0, 0)) (by decide +kernel) rfl
theorem r_Jl_indexOf_10 {G : Nat → Value} {d : Nat} {st : List Value} {M : am_M} {l0 l1 l2 l3 : Option Value} : am_run G d K_Jl_indexOf (10, [l0, l1, l2, l3], st, M) = am_run G d K_Jl_indexOf (11, [l0, l1, l2, l3], .int 0 :: st, M) := am_run_next (x := (.iconst 0, 1, 0, 0, 0, 0)) (by decide +kernel) rfl
theorem r_Jl_indexOf_11 {G : Nat → Value} {d : Nat} {st : List Value} {M : am_M} {l0 l1 l2 l3 : Option Value} {a b : Int32} (h8 : am_sw st ≤ 8) : am_run G d K_Jl_indexOf (11, [l0, l1, l2, l3], .int b :: .int a :: st, M) = am_run G d K_Jl_indexOf (14, [l0, l1, l2, l3], .int (if a < b then b else a) :: st, M) := am_run_next (x := (.invokestatic 92, 3, 0, 2, 1238, 10)) (by decide +kernel) (if_pos h8)
theorem r_Jl_indexOf_14 {G : Nat → Value} {d : Nat} {st : List Value} {M : am_M} {l0 l1 l2 l3 : Option Value} {v : Int32} (hc : am_c1 l1 = true) : am_run G d K_Jl_indexOf (14, [l0, l1, l2, l3], .int v :: st, M) = am_run G d K_Jl_indexOf (15, [l0, l1, some (.int v), l3], st, M) := by
  rcases am_c1_cases hc with rfl | ⟨q, rfl⟩ | ⟨q, rfl⟩ | rfl
  · exact am_run_next (x := (.istore_n 2, 1, 0, 0, 0, 0)) (by decide +kernel) rfl
  · exact am_run_next (x := (.istore_n 2, 1, 0, 0, 0, 0)) (by decide +kernel) rfl
  · exact am_run_next (x := (.istore_n 2, 1, 0, 0, 0, 0)) (by decide +kernel) rfl
  · exact am_run_next (x := (.istore_n 2, 1, 0, 0, 0, 0)) (by decide +kernel) rfl
theorem r_Jl_indexOf_14_k {G : Nat → Value} {d : Nat} {st : List Value} {M : am_M} {l0 l2 l3 : Option Value} {v : Int32} {z : Int64} : am_run G d K_Jl_indexOf (14, [l0, some (.long z), l2, l3], .int v :: st, M) = am_run G d K_Jl_indexOf (15, [l0, none, some (.int v), l3], st, M) := am_run_next (x := (.istore_n 2, 1, 0, 0, 0, 0)) (by decide +kernel) rfl
theorem r_Jl_indexOf_15 {G : Nat → Value} {d : Nat} {st : List Value} {M : am_M} {l0 l1 l2 : Option Value} {v : Int32} : am_run G d K_Jl_indexOf (15, [l0, l1, l2, some (.int v)], st, M) = am_run G d K_Jl_indexOf (16, [l0, l1, l2, some (.int v)], .int v :: st, M) := am_run_next (x := (.iload_n 3, 1, 0, 0, 0, 0)) (by decide +kernel) rfl
theorem r_Jl_indexOf_16 {G : Nat → Value} {d : Nat} {st : List Value} {M : am_M} {l1 l2 l3 : Option Value} {v : Value} (hv : am_isr v = true) : am_run G d K_Jl_indexOf (16, [some v, l1, l2, l3], st, M) = am_run G d K_Jl_indexOf (17, [some v, l1, l2, l3], v :: st, M) := by
  rcases am_isr_cases hv with ⟨q, rfl⟩ | rfl
  · exact am_run_next (x := (.aload_n 0, 1, 0, 0, 0, 0)) (by decide +kernel) rfl
  · exact am_run_next (x := (.aload_n 0, 1, 0, 0, 0, 0)) (by decide +kernel) rfl
theorem r_Jl_indexOf_17 {G : Nat → Value} {d : Nat} {st : List Value} {M : am_M} {l0 l1 l2 l3 : Option Value} {a : Nat} : am_run G d K_Jl_indexOf (17, [l0, l1, l2, l3], .ref a :: st, M) = am_kn G d K_Jl_indexOf 18 [l0, l1, l2, l3] st M (am_len M a) := am_run_kn (x := (.arraylength, 1, 0, 0, 0, 0)) (by decide +kernel) rfl
theorem r_Jl_indexOf_18 {G : Nat → Value} {d : Nat} {st : List Value} {M : am_M} {l0 l1 l2 l3 : Option Value} {a b : Int32} (h8 : am_sw st ≤ 8) : am_run G d K_Jl_indexOf (18, [l0, l1, l2, l3], .int b :: .int a :: st, M) = am_run G d K_Jl_indexOf (21, [l0, l1, l2, l3], .int (if b < a then b else a) :: st, M) := am_run_next (x := (.invokestatic 38, 3, 0, 2, 2001, 11)) (by decide +kernel) (if_pos h8)
theorem r_Jl_indexOf_21 {G : Nat → Value} {d : Nat} {st : List Value} {M : am_M} {l0 l1 l2 l3 : Option Value} {v : Int32} (hc : am_c1 l2 = true) : am_run G d K_Jl_indexOf (21, [l0, l1, l2, l3], .int v :: st, M) = am_run G d K_Jl_indexOf (22, [l0, l1, l2, some (.int v)], st, M) := by
  rcases am_c1_cases hc with rfl | ⟨q, rfl⟩ | ⟨q, rfl⟩ | rfl
  · exact am_run_next (x := (.istore_n 3, 1, 0, 0, 0, 0)) (by decide +kernel) rfl
  · exact am_run_next (x := (.istore_n 3, 1, 0, 0, 0, 0)) (by decide +kernel) rfl
  · exact am_run_next (x := (.istore_n 3, 1, 0, 0, 0, 0)) (by decide +kernel) rfl
  · exact am_run_next (x := (.istore_n 3, 1, 0, 0, 0, 0)) (by decide +kernel) rfl
theorem r_Jl_indexOf_21_k {G : Nat → Value} {d : Nat} {st : List Value} {M : am_M} {l0 l1 l3 : Option Value} {v : Int32} {z : Int64} : am_run G d K_Jl_indexOf (21, [l0, l1, some (.long z), l3], .int v :: st, M) = am_run G d K_Jl_indexOf (22, [l0, l1, none, some (.int v)], st, M) := am_run_next (x := (.istore_n 3, 1, 0, 0, 0, 0)) (by decide +kernel) rfl
theorem r_Jl_indexOf_22 {G : Nat → Value} {d : Nat} {st : List Value} {M : am_M} {l0 l1 l3 : Option Value} {v : Int32} : am_run G d K_Jl_indexOf (22, [l0, l1, some (.int v), l3], st, M) = am_run G d K_Jl_indexOf (23, [l0, l1, some (.int v), l3], .int v :: st, M) := am_run_next (x := (.iload_n 2, 1, 0, 0, 0, 0)) (by decide +kernel) rfl
theorem r_Jl_indexOf_23 {G : Nat → Value} {d : Nat} {st : List Value} {M : am_M} {l0 l1 l2 : Option Value} {v : Int32} : am_run G d K_Jl_indexOf (23, [l0, l1, l2, some (.int v)], st, M) = am_run G d K_Jl_indexOf (24, [l0, l1, l2, some (.int v)], .int v :: st, M) := am_run_next (x := (.iload_n 3, 1, 0, 0, 0, 0)) (by decide +kernel) rfl
theorem r_Jl_indexOf_24 {G : Nat → Value} {d : Nat} {st : List Value} {M : am_M} {l0 l1 l2 l3 : Option Value} {a b : Int32} : am_run G d K_Jl_indexOf (24, [l0, l1, l2, l3], .int b :: .int a :: st, M) = if a < b then am_run G d K_Jl_indexOf (29, [l0, l1, l2, l3], st, M) else am_run G d K_Jl_indexOf (27, [l0, l1, l2, l3], st, M) := by
  split
  · next h => exact am_run_next (x := (.if_icmp .lt 5, 3, 0, 0, 0, 0)) (by decide +kernel) (am_br_t (decide_eq_true h) (by decide))
  · next h => exact am_run_next (x := (.if_icmp .lt 5, 3, 0, 0, 0, 0)) (by decide +kernel) (am_br_f (decide_eq_false h) (by decide))
theorem r_Jl_indexOf_27 {G : Nat → Value} {d : Nat} {st : List Value} {M : am_M} {l0 l1 l2 l3 : Option Value} : am_run G d K_Jl_indexOf (27, [l0, l1, l2, l3], st, M) = am_run G d K_Jl_indexOf (28, [l0, l1, l2, l3], .int (-1) :: st, M) := am_run_next (x := (.iconst (-1), 1, 0, 0, 0, 0)) (by decide +kernel) rfl
theorem r_Jl_indexOf_28 {G : Nat → Value} {d : Nat} {M : am_M} {l0 l1 l2 l3 : Option Value} {a : Int32} : am_run G d K_Jl_indexOf (28, [l0, l1, l2, l3], [.int a], M) = some (some (.int a), M) := am_run_ret (x := (.ireturn, 1, 0, 0, 0, 0)) (by decide +kernel) rfl
theorem r_Jl_indexOf_29 {G : Nat → Value} {d : Nat} {st : List Value} {M : am_M} {l1 l2 l3 : Option Value} {v : Value} (hv : am_isr v = true) : am_run G d K_Jl_indexOf (29, [some v, l1, l2, l3], st, M) = am_run G d K_Jl_indexOf (30, [some v, l1, l2, l3], v :: st, M) := by
  rcases am_isr_cases hv with ⟨q, rfl⟩ | rfl
  · exact am_run_next (x := (.aload_n 0, 1, 0, 0, 0, 0)) (by decide +kernel) rfl
  · exact am_run_next (x := (.aload_n 0, 1, 0, 0, 0, 0)) (by decide +kernel) rfl
theorem r_Jl_indexOf_30 {G : Nat → Value} {d : Nat} {st : List Value} {M : am_M} {l0 l2 l3 : Option Value} {v : Int32} : am_run G d K_Jl_indexOf (30, [l0, some (.int v), l2, l3], st, M) = am_run G d K_Jl_indexOf (31, [l0, some (.int v), l2, l3], .int v :: st, M) := am_run_next (x := (.iload_n 1, 1, 0, 0, 0, 0)) (by decide +kernel) rfl
theorem r_Jl_indexOf_31 {G : Nat → Value} {d : Nat} {st : List Value} {M : am_M} {l0 l1 l3 : Option Value} {v : Int32} : am_run G d K_Jl_indexOf (31, [l0, l1, some (.int v), l3], st, M) = am_run G d K_Jl_indexOf (32, [l0, l1, some (.int v), l3], .int v :: st, M) := am_run_next (x := (.iload_n 2, 1, 0, 0, 0, 0)) (by decide +kernel) rfl
theorem r_Jl_indexOf_32 {G : Nat → Value} {d : Nat} {st : List Value} {M : am_M} {l0 l1 l2 : Option Value} {v : Int32} : am_run G d K_Jl_indexOf (32, [l0, l1, l2, some (.int v)], st, M) = am_run G d K_Jl_indexOf (33, [l0, l1, l2, some (.int v)], .int v :: st, M) := am_run_next (x := (.iload_n 3, 1, 0, 0, 0, 0)) (by decide +kernel) rfl
theorem r_Jl_indexOf_33 {G : Nat → Value} {d : Nat} {st : List Value} {M : am_M} {l0 l1 l2 l3 : Option Value} {a0 : Value} {a1 : Int32} {a2 : Int32} {a3 : Int32} (h0 : am_isr a0 = true) (h8 : am_sw st ≤ 8) : am_run G d K_Jl_indexOf (33, [l0, l1, l2, l3], .int a3 :: .int a2 :: .int a1 :: a0 :: st, M) = am_k G d K_Jl_indexOf 36 [l0, l1, l2, l3] st (am_ex G d K_Jl_indexOfChar [a0, .int a1, .int a2, .int a3] M) := by
  have he : (am_exp [a0, .int a1, .int a2, .int a3]).length ≤ am_mL K_Jl_indexOfChar := by
    rcases am_isr_cases h0 with ⟨z0, rfl⟩ | rfl <;> exact Nat.le_of_ble_eq_true rfl
  exact am_run_is (i := 95) (n := 4) (pl := 2004) (Bs := [a0, .int a1, .int a2, .int a3]) (z := K_Jl_indexOfChar) (v := 1) (by decide) (by decide) (by decide +kernel) h8 rfl he rfl
theorem r_Jl_indexOf_36 {G : Nat → Value} {d : Nat} {M : am_M} {l0 l1 l2 l3 : Option Value} {a : Int32} : am_run G d K_Jl_indexOf (36, [l0, l1, l2, l3], [.int a], M) = some (some (.int a), M) := am_run_ret (x := (.ireturn, 1, 0, 0, 0, 0)) (by decide +kernel) rfl
theorem r_Jl_canEncode_0 {G : Nat → Value} {d : Nat} {st : List Value} {M : am_M} {v : Int32} : am_run G d K_Jl_canEncode (0, [some (.int v)], st, M) = am_run G d K_Jl_canEncode (1, [some (.int v)], .int v :: st, M) := am_run_next (x := (.iload_n 0, 1, 0, 0, 0, 0)) (by decide +kernel) rfl
theorem r_Jl_canEncode_1 {G : Nat → Value} {d : Nat} {st : List Value} {M : am_M} {l0 : Option Value} {a : Int32} : am_run G d K_Jl_canEncode (1, [l0], .int a :: st, M) = if a < 0 then am_run G d K_Jl_canEncode (15, [l0], st, M) else am_run G d K_Jl_canEncode (4, [l0], st, M) := by
  split
  · next h => exact am_run_next (x := (.ifCond .lt 14, 3, 0, 0, 0, 0)) (by decide +kernel) (am_br_t (decide_eq_true h) (by decide))
  · next h => exact am_run_next (x := (.ifCond .lt 14, 3, 0, 0, 0, 0)) (by decide +kernel) (am_br_f (decide_eq_false h) (by decide))
theorem r_Jl_canEncode_4 {G : Nat → Value} {d : Nat} {st : List Value} {M : am_M} {v : Int32} : am_run G d K_Jl_canEncode (4, [some (.int v)], st, M) = am_run G d K_Jl_canEncode (5, [some (.int v)], .int v :: st, M) := am_run_next (x := (.iload_n 0, 1, 0, 0, 0, 0)) (by decide +kernel) rfl
theorem r_Jl_canEncode_5 {G : Nat → Value} {d : Nat} {st : List Value} {M : am_M} {l0 : Option Value} : am_run G d K_Jl_canEncode (5, [l0], st, M) = am_run G d K_Jl_canEncode (8, [l0], .int 255 :: st, M) := am_run_next (x := (.sipush 255, 3, 0, 0, 0, 0)) (by decide +kernel) rfl
theorem r_Jl_canEncode_8 {G : Nat → Value} {d : Nat} {st : List Value} {M : am_M} {l0 : Option Value} {a b : Int32} : am_run G d K_Jl_canEncode (8, [l0], .int b :: .int a :: st, M) = if b < a then am_run G d K_Jl_canEncode (15, [l0], st, M) else am_run G d K_Jl_canEncode (11, [l0], st, M) := by
  split
  · next h => exact am_run_next (x := (.if_icmp .gt 7, 3, 0, 0, 0, 0)) (by decide +kernel) (am_br_t (decide_eq_true h) (by decide))
  · next h => exact am_run_next (x := (.if_icmp .gt 7, 3, 0, 0, 0, 0)) (by decide +kernel) (am_br_f (decide_eq_false h) (by decide))
theorem r_Jl_canEncode_11 {G : Nat → Value} {d : Nat} {st : List Value} {M : am_M} {l0 : Option Value} : am_run G d K_Jl_canEncode (11, [l0], st, M) = am_run G d K_Jl_canEncode (12, [l0], .int 1 :: st, M) := am_run_next (x := (.iconst 1, 1, 0, 0, 0, 0)) (by decide +kernel) rfl
theorem r_Jl_canEncode_12 {G : Nat → Value} {d : Nat} {st : List Value} {M : am_M} {l0 : Option Value} : am_run G d K_Jl_canEncode (12, [l0], st, M) = am_run G d K_Jl_canEncode (16, [l0], st, M) := am_run_next (x := (.goto 4, 3, 0, 0, 0, 0)) (by decide +kernel) rfl
theorem r_Jl_canEncode_15 {G : Nat → Value} {d : Nat} {st : List Value} {M : am_M} {l0 : Option Value} : am_run G d K_Jl_canEncode (15, [l0], st, M) = am_run G d K_Jl_canEncode (16, [l0], .int 0 :: st, M) := am_run_next (x := (.iconst 0, 1, 0, 0, 0, 0)) (by decide +kernel) rfl
theorem r_Jl_canEncode_16 {G : Nat → Value} {d : Nat} {M : am_M} {l0 : Option Value} {a : Int32} (ha : a = 0 ∨ a = 1) : am_run G d K_Jl_canEncode (16, [l0], [.int a], M) = some (some (.int a), M) := am_run_ret (x := (.ireturn, 1, 0, 0, 0, 0)) (by decide +kernel) (if_pos (decide_eq_true ha))
theorem r_Jl_indexOfChar_0 {G : Nat → Value} {d : Nat} {st : List Value} {M : am_M} {l0 l2 l3 l4 l5 : Option Value} {v : Int32} : am_run G d K_Jl_indexOfChar (0, [l0, some (.int v), l2, l3, l4, l5], st, M) = am_run G d K_Jl_indexOfChar (1, [l0, some (.int v), l2, l3, l4, l5], .int v :: st, M) := am_run_next (x := (.iload_n 1, 1, 0, 0, 0, 0)) (by decide +kernel) rfl
theorem r_Jl_indexOfChar_1 {G : Nat → Value} {d : Nat} {st : List Value} {M : am_M} {l0 l1 l2 l3 l4 l5 : Option Value} {a : Int32} : am_run G d K_Jl_indexOfChar (1, [l0, l1, l2, l3, l4, l5], .int a :: st, M) = am_run G d K_Jl_indexOfChar (2, [l0, l1, l2, l3, l4, l5], .int a.toInt8.toInt32 :: st, M) := am_run_next (x := (.i2b, 1, 0, 0, 0, 0)) (by decide +kernel) rfl
theorem r_Jl_indexOfChar_2 {G : Nat → Value} {d : Nat} {st : List Value} {M : am_M} {l0 l1 l2 l3 l4 l5 : Option Value} {v : Int32} (hc : am_c1 l3 = true) : am_run G d K_Jl_indexOfChar (2, [l0, l1, l2, l3, l4, l5], .int v :: st, M) = am_run G d K_Jl_indexOfChar (4, [l0, l1, l2, l3, some (.int v), l5], st, M) := by
  rcases am_c1_cases hc with rfl | ⟨q, rfl⟩ | ⟨q, rfl⟩ | rfl
  · exact am_run_next (x := (.istore 4, 2, 0, 0, 0, 0)) (by decide +kernel) rfl
  · exact am_run_next (x := (.istore 4, 2, 0, 0, 0, 0)) (by decide +kernel) rfl
  · exact am_run_next (x := (.istore 4, 2, 0, 0, 0, 0)) (by decide +kernel) rfl
  · exact am_run_next (x := (.istore 4, 2, 0, 0, 0, 0)) (by decide +kernel) rfl
theorem r_Jl_indexOfChar_2_k {G : Nat → Value} {d : Nat} {st : List Value} {M : am_M} {l0 l1 l2 l4 l5 : Option Value} {v : Int32} {z : Int64} : am_run G d K_Jl_indexOfChar (2, [l0, l1, l2, some (.long z), l4, l5], .int v :: st, M) = am_run G d K_Jl_indexOfChar (4, [l0, l1, l2, none, some (.int v), l5], st, M) := am_run_next (x := (.istore 4, 2, 0, 0, 0, 0)) (by decide +kernel) rfl
theorem r_Jl_indexOfChar_4 {G : Nat → Value} {d : Nat} {st : List Value} {M : am_M} {l0 l1 l3 l4 l5 : Option Value} {v : Int32} : am_run G d K_Jl_indexOfChar (4, [l0, l1, some (.int v), l3, l4, l5], st, M) = am_run G d K_Jl_indexOfChar (5, [l0, l1, some (.int v), l3, l4, l5], .int v :: st, M) := am_run_next (x := (.iload_n 2, 1, 0, 0, 0, 0)) (by decide +kernel) rfl
theorem r_Jl_indexOfChar_5 {G : Nat → Value} {d : Nat} {st : List Value} {M : am_M} {l0 l1 l2 l3 l4 l5 : Option Value} {v : Int32} (hc : am_c1 l4 = true) : am_run G d K_Jl_indexOfChar (5, [l0, l1, l2, l3, l4, l5], .int v :: st, M) = am_run G d K_Jl_indexOfChar (7, [l0, l1, l2, l3, l4, some (.int v)], st, M) := by
  rcases am_c1_cases hc with rfl | ⟨q, rfl⟩ | ⟨q, rfl⟩ | rfl
  · exact am_run_next (x := (.istore 5, 2, 0, 0, 0, 0)) (by decide +kernel) rfl
  · exact am_run_next (x := (.istore 5, 2, 0, 0, 0, 0)) (by decide +kernel) rfl
  · exact am_run_next (x := (.istore 5, 2, 0, 0, 0, 0)) (by decide +kernel) rfl
  · exact am_run_next (x := (.istore 5, 2, 0, 0, 0, 0)) (by decide +kernel) rfl
theorem r_Jl_indexOfChar_5_k {G : Nat → Value} {d : Nat} {st : List Value} {M : am_M} {l0 l1 l2 l3 l5 : Option Value} {v : Int32} {z : Int64} : am_run G d K_Jl_indexOfChar (5, [l0, l1, l2, l3, some (.long z), l5], .int v :: st, M) = am_run G d K_Jl_indexOfChar (7, [l0, l1, l2, l3, none, some (.int v)], st, M) := am_run_next (x := (.istore 5, 2, 0, 0, 0, 0)) (by decide +kernel) rfl
theorem r_Jl_indexOfChar_7 {G : Nat → Value} {d : Nat} {st : List Value} {M : am_M} {l0 l1 l2 l3 l4 : Option Value} {v : Int32} : am_run G d K_Jl_indexOfChar (7, [l0, l1, l2, l3, l4, some (.int v)], st, M) = am_run G d K_Jl_indexOfChar (9, [l0, l1, l2, l3, l4, some (.int v)], .int v :: st, M) := am_run_next (x := (.iload 5, 2, 0, 0, 0, 0)) (by decide +kernel) rfl
theorem r_Jl_indexOfChar_9 {G : Nat → Value} {d : Nat} {st : List Value} {M : am_M} {l0 l1 l2 l4 l5 : Option Value} {v : Int32} : am_run G d K_Jl_indexOfChar (9, [l0, l1, l2, some (.int v), l4, l5], st, M) = am_run G d K_Jl_indexOfChar (10, [l0, l1, l2, some (.int v), l4, l5], .int v :: st, M) := am_run_next (x := (.iload_n 3, 1, 0, 0, 0, 0)) (by decide +kernel) rfl
theorem r_Jl_indexOfChar_10 {G : Nat → Value} {d : Nat} {st : List Value} {M : am_M} {l0 l1 l2 l3 l4 l5 : Option Value} {a b : Int32} : am_run G d K_Jl_indexOfChar (10, [l0, l1, l2, l3, l4, l5], .int b :: .int a :: st, M) = if b ≤ a then am_run G d K_Jl_indexOfChar (31, [l0, l1, l2, l3, l4, l5], st, M) else am_run G d K_Jl_indexOfChar (13, [l0, l1, l2, l3, l4, l5], st, M) := by
  split
  · next h => exact am_run_next (x := (.if_icmp .ge 21, 3, 0, 0, 0, 0)) (by decide +kernel) (am_br_t (decide_eq_true h) (by decide))
  · next h => exact am_run_next (x := (.if_icmp .ge 21, 3, 0, 0, 0, 0)) (by decide +kernel) (am_br_f (decide_eq_false h) (by decide))
theorem r_Jl_indexOfChar_13 {G : Nat → Value} {d : Nat} {st : List Value} {M : am_M} {l1 l2 l3 l4 l5 : Option Value} {v : Value} (hv : am_isr v = true) : am_run G d K_Jl_indexOfChar (13, [some v, l1, l2, l3, l4, l5], st, M) = am_run G d K_Jl_indexOfChar (14, [some v, l1, l2, l3, l4, l5], v :: st, M) := by
  rcases am_isr_cases hv with ⟨q, rfl⟩ | rfl
  · exact am_run_next (x := (.aload_n 0, 1, 0, 0, 0, 0)) (by decide +kernel) rfl
  · exact am_run_next (x := (.aload_n 0, 1, 0, 0, 0, 0)) (by decide +kernel) rfl
theorem r_Jl_indexOfChar_14 {G : Nat → Value} {d : Nat} {st : List Value} {M : am_M} {l0 l1 l2 l3 l4 : Option Value} {v : Int32} : am_run G d K_Jl_indexOfChar (14, [l0, l1, l2, l3, l4, some (.int v)], st, M) = am_run G d K_Jl_indexOfChar (16, [l0, l1, l2, l3, l4, some (.int v)], .int v :: st, M) := am_run_next (x := (.iload 5, 2, 0, 0, 0, 0)) (by decide +kernel) rfl
theorem r_Jl_indexOfChar_16 {G : Nat → Value} {d : Nat} {st : List Value} {M : am_M} {l0 l1 l2 l3 l4 l5 : Option Value} {a : Nat} {i : Int32} : am_run G d K_Jl_indexOfChar (16, [l0, l1, l2, l3, l4, l5], .int i :: .ref a :: st, M) = am_kf G d K_Jl_indexOfChar 17 [l0, l1, l2, l3, l4, l5] st M (am_ag 2 M a i) := am_run_kf (x := (.baload, 1, 0, 0, 0, 0)) (by decide +kernel) rfl
theorem r_Jl_indexOfChar_17 {G : Nat → Value} {d : Nat} {st : List Value} {M : am_M} {l0 l1 l2 l3 l5 : Option Value} {v : Int32} : am_run G d K_Jl_indexOfChar (17, [l0, l1, l2, l3, some (.int v), l5], st, M) = am_run G d K_Jl_indexOfChar (19, [l0, l1, l2, l3, some (.int v), l5], .int v :: st, M) := am_run_next (x := (.iload 4, 2, 0, 0, 0, 0)) (by decide +kernel) rfl
theorem r_Jl_indexOfChar_19 {G : Nat → Value} {d : Nat} {st : List Value} {M : am_M} {l0 l1 l2 l3 l4 l5 : Option Value} {a b : Int32} : am_run G d K_Jl_indexOfChar (19, [l0, l1, l2, l3, l4, l5], .int b :: .int a :: st, M) = if ¬ a = b then am_run G d K_Jl_indexOfChar (25, [l0, l1, l2, l3, l4, l5], st, M) else am_run G d K_Jl_indexOfChar (22, [l0, l1, l2, l3, l4, l5], st, M) := by
  split
  · next h => exact am_run_next (x := (.if_icmp .ne 6, 3, 0, 0, 0, 0)) (by decide +kernel) (am_br_t (decide_eq_true h) (by decide))
  · next h => exact am_run_next (x := (.if_icmp .ne 6, 3, 0, 0, 0, 0)) (by decide +kernel) (am_br_f (decide_eq_false h) (by decide))
theorem r_Jl_indexOfChar_22 {G : Nat → Value} {d : Nat} {st : List Value} {M : am_M} {l0 l1 l2 l3 l4 : Option Value} {v : Int32} : am_run G d K_Jl_indexOfChar (22, [l0, l1, l2, l3, l4, some (.int v)], st, M) = am_run G d K_Jl_indexOfChar (24, [l0, l1, l2, l3, l4, some (.int v)], .int v :: st, M) := am_run_next (x := (.iload 5, 2, 0, 0, 0, 0)) (by decide +kernel) rfl
theorem r_Jl_indexOfChar_24 {G : Nat → Value} {d : Nat} {M : am_M} {l0 l1 l2 l3 l4 l5 : Option Value} {a : Int32} : am_run G d K_Jl_indexOfChar (24, [l0, l1, l2, l3, l4, l5], [.int a], M) = some (some (.int a), M) := am_run_ret (x := (.ireturn, 1, 0, 0, 0, 0)) (by decide +kernel) rfl
theorem r_Jl_indexOfChar_25 {G : Nat → Value} {d : Nat} {st : List Value} {M : am_M} {l0 l1 l2 l3 l4 : Option Value} {v : Int32} (hc : am_c1 l4 = true) : am_run G d K_Jl_indexOfChar (25, [l0, l1, l2, l3, l4, some (.int v)], st, M) = am_run G d K_Jl_indexOfChar (28, [l0, l1, l2, l3, l4, some (.int (v + 1))], st, M) := by
  rcases am_c1_cases hc with rfl | ⟨q, rfl⟩ | ⟨q, rfl⟩ | rfl
  · exact am_run_next (x := (.iinc 5 1, 3, 0, 0, 0, 0)) (by decide +kernel) rfl
  · exact am_run_next (x := (.iinc 5 1, 3, 0, 0, 0, 0)) (by decide +kernel) rfl
  · exact am_run_next (x := (.iinc 5 1, 3, 0, 0, 0, 0)) (by decide +kernel) rfl
  · exact am_run_next (x := (.iinc 5 1, 3, 0, 0, 0, 0)) (by decide +kernel) rfl
theorem r_Jl_indexOfChar_25_k {G : Nat → Value} {d : Nat} {st : List Value} {M : am_M} {l0 l1 l2 l3 : Option Value} {v : Int32} {z : Int64} : am_run G d K_Jl_indexOfChar (25, [l0, l1, l2, l3, some (.long z), some (.int v)], st, M) = am_run G d K_Jl_indexOfChar (28, [l0, l1, l2, l3, none, some (.int (v + 1))], st, M) := am_run_next (x := (.iinc 5 1, 3, 0, 0, 0, 0)) (by decide +kernel) rfl
theorem r_Jl_indexOfChar_28 {G : Nat → Value} {d : Nat} {st : List Value} {M : am_M} {l0 l1 l2 l3 l4 l5 : Option Value} : am_run G d K_Jl_indexOfChar (28, [l0, l1, l2, l3, l4, l5], st, M) = am_run G d K_Jl_indexOfChar (7, [l0, l1, l2, l3, l4, l5], st, M) := am_run_next (x := (.goto (-21), 3, 0, 0, 0, 0)) (by decide +kernel) rfl
theorem r_Jl_indexOfChar_31 {G : Nat → Value} {d : Nat} {st : List Value} {M : am_M} {l0 l1 l2 l3 l4 l5 : Option Value} : am_run G d K_Jl_indexOfChar (31, [l0, l1, l2, l3, l4, l5], st, M) = am_run G d K_Jl_indexOfChar (32, [l0, l1, l2, l3, l4, l5], .int (-1) :: st, M) := am_run_next (x := (.iconst (-1), 1, 0, 0, 0, 0)) (by decide +kernel) rfl
theorem r_Jl_indexOfChar_32 {G : Nat → Value} {d : Nat} {M : am_M} {l0 l1 l2 l3 l4 l5 : Option Value} {a : Int32} : am_run G d K_Jl_indexOfChar (32, [l0, l1, l2, l3, l4, l5], [.int a], M) = some (some (.int a), M) := am_run_ret (x := (.ireturn, 1, 0, 0, 0, 0)) (by decide +kernel) rfl
theorem r_Js_checkBoundsBeginEnd_0 {G : Nat → Value} {d : Nat} {st : List Value} {M : am_M} {l1 l2 : Option Value} {v : Int32} : am_run G d K_Js_checkBoundsBeginEnd (0, [some (.int v), l1, l2], st, M) = am_run G d K_Js_checkBoundsBeginEnd (1, [some (.int v), l1, l2], .int v :: st, M) := am_run_next (x := (.iload_n 0, 1, 0, 0, 0, 0)) (by decide +kernel) rfl
theorem r_Js_checkBoundsBeginEnd_1 {G : Nat → Value} {d : Nat} {st : List Value} {M : am_M} {l0 l2 : Option Value} {v : Int32} : am_run G d K_Js_checkBoundsBeginEnd (1, [l0, some (.int v), l2], st, M) = am_run G d K_Js_checkBoundsBeginEnd (2, [l0, some (.int v), l2], .int v :: st, M) := am_run_next (x := (.iload_n 1, 1, 0, 0, 0, 0)) (by decide +kernel) rfl
theorem r_Js_checkBoundsBeginEnd_2 {G : Nat → Value} {d : Nat} {st : List Value} {M : am_M} {l0 l1 : Option Value} {v : Int32} : am_run G d K_Js_checkBoundsBeginEnd (2, [l0, l1, some (.int v)], st, M) = am_run G d K_Js_checkBoundsBeginEnd (3, [l0, l1, some (.int v)], .int v :: st, M) := am_run_next (x := (.iload_n 2, 1, 0, 0, 0, 0)) (by decide +kernel) rfl
theorem r_Js_checkBoundsBeginEnd_3 {G : Nat → Value} {d : Nat} {st : List Value} {M : am_M} {l0 l1 l2 : Option Value} : am_run G d K_Js_checkBoundsBeginEnd (3, [l0, l1, l2], st, M) = am_run G d K_Js_checkBoundsBeginEnd (6, [l0, l1, l2], G 2 :: st, M) := am_run_next (x := (.getstatic 1053, 3, 2, 0, 1148, 0)) (by decide +kernel) rfl
theorem r_Js_checkBoundsBeginEnd_6 {G : Nat → Value} {d : Nat} {st : List Value} {M : am_M} {l0 l1 l2 : Option Value} {a0 : Int32} {a1 : Int32} {a2 : Int32} {a3 : Value} (h3 : am_isr a3 = true) (h8 : am_sw st ≤ 8) : am_run G d K_Js_checkBoundsBeginEnd (6, [l0, l1, l2], a3 :: .int a2 :: .int a1 :: .int a0 :: st, M) = am_k G d K_Js_checkBoundsBeginEnd 9 [l0, l1, l2] st (am_ex G d K_Jp_checkFromToIndex [.int a0, .int a1, .int a2, a3] M) := by
  have he : (am_exp [.int a0, .int a1, .int a2, a3]).length ≤ am_mL K_Jp_checkFromToIndex := by
    rcases am_isr_cases h3 with ⟨z3, rfl⟩ | rfl <;> exact Nat.le_of_ble_eq_true rfl
  exact am_run_is (i := 1062) (n := 4) (pl := 2022) (Bs := [.int a0, .int a1, .int a2, a3]) (z := K_Jp_checkFromToIndex) (v := 1) (by decide) (by decide) (by decide +kernel) h8 rfl he rfl
theorem r_Js_checkBoundsBeginEnd_9 {G : Nat → Value} {d : Nat} {st : List Value} {M : am_M} {l0 l1 l2 : Option Value} {v : Value} (hv : v.category = 1) : am_run G d K_Js_checkBoundsBeginEnd (9, [l0, l1, l2], v :: st, M) = am_run G d K_Js_checkBoundsBeginEnd (10, [l0, l1, l2], st, M) := am_run_next (x := (.pop, 1, 0, 0, 0, 0)) (by decide +kernel) (if_pos hv)
theorem r_Js_checkBoundsBeginEnd_10 {G : Nat → Value} {d : Nat} {M : am_M} {l0 l1 l2 : Option Value} : am_run G d K_Js_checkBoundsBeginEnd (10, [l0, l1, l2], [], M) = some (none, M) := am_run_ret (x := (.return_, 1, 0, 0, 0, 0)) (by decide +kernel) rfl
theorem r_Jp_checkFromToIndex_0 {G : Nat → Value} {d : Nat} {st : List Value} {M : am_M} {l1 l2 l3 : Option Value} {v : Int32} : am_run G d K_Jp_checkFromToIndex (0, [some (.int v), l1, l2, l3], st, M) = am_run G d K_Jp_checkFromToIndex (1, [some (.int v), l1, l2, l3], .int v :: st, M) := am_run_next (x := (.iload_n 0, 1, 0, 0, 0, 0)) (by decide +kernel) rfl
theorem r_Jp_checkFromToIndex_1 {G : Nat → Value} {d : Nat} {st : List Value} {M : am_M} {l0 l1 l2 l3 : Option Value} {a : Int32} : am_run G d K_Jp_checkFromToIndex (1, [l0, l1, l2, l3], .int a :: st, M) = if a < 0 then am_run G d K_Jp_checkFromToIndex (14, [l0, l1, l2, l3], st, M) else am_run G d K_Jp_checkFromToIndex (4, [l0, l1, l2, l3], st, M) := by
  split
  · next h => exact am_run_next (x := (.ifCond .lt 13, 3, 0, 0, 0, 0)) (by decide +kernel) (am_br_t (decide_eq_true h) (by decide))
  · next h => exact am_run_next (x := (.ifCond .lt 13, 3, 0, 0, 0, 0)) (by decide +kernel) (am_br_f (decide_eq_false h) (by decide))
theorem r_Jp_checkFromToIndex_4 {G : Nat → Value} {d : Nat} {st : List Value} {M : am_M} {l1 l2 l3 : Option Value} {v : Int32} : am_run G d K_Jp_checkFromToIndex (4, [some (.int v), l1, l2, l3], st, M) = am_run G d K_Jp_checkFromToIndex (5, [some (.int v), l1, l2, l3], .int v :: st, M) := am_run_next (x := (.iload_n 0, 1, 0, 0, 0, 0)) (by decide +kernel) rfl
theorem r_Jp_checkFromToIndex_5 {G : Nat → Value} {d : Nat} {st : List Value} {M : am_M} {l0 l2 l3 : Option Value} {v : Int32} : am_run G d K_Jp_checkFromToIndex (5, [l0, some (.int v), l2, l3], st, M) = am_run G d K_Jp_checkFromToIndex (6, [l0, some (.int v), l2, l3], .int v :: st, M) := am_run_next (x := (.iload_n 1, 1, 0, 0, 0, 0)) (by decide +kernel) rfl
theorem r_Jp_checkFromToIndex_6 {G : Nat → Value} {d : Nat} {st : List Value} {M : am_M} {l0 l1 l2 l3 : Option Value} {a b : Int32} : am_run G d K_Jp_checkFromToIndex (6, [l0, l1, l2, l3], .int b :: .int a :: st, M) = if b < a then am_run G d K_Jp_checkFromToIndex (14, [l0, l1, l2, l3], st, M) else am_run G d K_Jp_checkFromToIndex (9, [l0, l1, l2, l3], st, M) := by
  split
  · next h => exact am_run_next (x := (.if_icmp .gt 8, 3, 0, 0, 0, 0)) (by decide +kernel) (am_br_t (decide_eq_true h) (by decide))
  · next h => exact am_run_next (x := (.if_icmp .gt 8, 3, 0, 0, 0, 0)) (by decide +kernel) (am_br_f (decide_eq_false h) (by decide))
theorem r_Jp_checkFromToIndex_9 {G : Nat → Value} {d : Nat} {st : List Value} {M : am_M} {l0 l2 l3 : Option Value} {v : Int32} : am_run G d K_Jp_checkFromToIndex (9, [l0, some (.int v), l2, l3], st, M) = am_run G d K_Jp_checkFromToIndex (10, [l0, some (.int v), l2, l3], .int v :: st, M) := am_run_next (x := (.iload_n 1, 1, 0, 0, 0, 0)) (by decide +kernel) rfl
theorem r_Jp_checkFromToIndex_10 {G : Nat → Value} {d : Nat} {st : List Value} {M : am_M} {l0 l1 l3 : Option Value} {v : Int32} : am_run G d K_Jp_checkFromToIndex (10, [l0, l1, some (.int v), l3], st, M) = am_run G d K_Jp_checkFromToIndex (11, [l0, l1, some (.int v), l3], .int v :: st, M) := am_run_next (x := (.iload_n 2, 1, 0, 0, 0, 0)) (by decide +kernel) rfl
theorem r_Jp_checkFromToIndex_11 {G : Nat → Value} {d : Nat} {st : List Value} {M : am_M} {l0 l1 l2 l3 : Option Value} {a b : Int32} : am_run G d K_Jp_checkFromToIndex (11, [l0, l1, l2, l3], .int b :: .int a :: st, M) = if a ≤ b then am_run G d K_Jp_checkFromToIndex (22, [l0, l1, l2, l3], st, M) else am_run G d K_Jp_checkFromToIndex (14, [l0, l1, l2, l3], st, M) := by
  split
  · next h => exact am_run_next (x := (.if_icmp .le 11, 3, 0, 0, 0, 0)) (by decide +kernel) (am_br_t (decide_eq_true h) (by decide))
  · next h => exact am_run_next (x := (.if_icmp .le 11, 3, 0, 0, 0, 0)) (by decide +kernel) (am_br_f (decide_eq_false h) (by decide))
theorem r_Jp_checkFromToIndex_14 {G : Nat → Value} {d : Nat} {st : List Value} {M : am_M} {l0 l1 l2 : Option Value} {v : Value} (hv : am_isr v = true) : am_run G d K_Jp_checkFromToIndex (14, [l0, l1, l2, some v], st, M) = am_run G d K_Jp_checkFromToIndex (15, [l0, l1, l2, some v], v :: st, M) := by
  rcases am_isr_cases hv with ⟨q, rfl⟩ | rfl
  · exact am_run_next (x := (.aload_n 3, 1, 0, 0, 0, 0)) (by decide +kernel) rfl
  · exact am_run_next (x := (.aload_n 3, 1, 0, 0, 0, 0)) (by decide +kernel) rfl
theorem r_Jp_checkFromToIndex_15 {G : Nat → Value} {d : Nat} {st : List Value} {M : am_M} {l1 l2 l3 : Option Value} {v : Int32} : am_run G d K_Jp_checkFromToIndex (15, [some (.int v), l1, l2, l3], st, M) = am_run G d K_Jp_checkFromToIndex (16, [some (.int v), l1, l2, l3], .int v :: st, M) := am_run_next (x := (.iload_n 0, 1, 0, 0, 0, 0)) (by decide +kernel) rfl
theorem r_Jp_checkFromToIndex_16 {G : Nat → Value} {d : Nat} {st : List Value} {M : am_M} {l0 l2 l3 : Option Value} {v : Int32} : am_run G d K_Jp_checkFromToIndex (16, [l0, some (.int v), l2, l3], st, M) = am_run G d K_Jp_checkFromToIndex (17, [l0, some (.int v), l2, l3], .int v :: st, M) := am_run_next (x := (.iload_n 1, 1, 0, 0, 0, 0)) (by decide +kernel) rfl
theorem r_Jp_checkFromToIndex_17 {G : Nat → Value} {d : Nat} {st : List Value} {M : am_M} {l0 l1 l3 : Option Value} {v : Int32} : am_run G d K_Jp_checkFromToIndex (17, [l0, l1, some (.int v), l3], st, M) = am_run G d K_Jp_checkFromToIndex (18, [l0, l1, some (.int v), l3], .int v :: st, M) := am_run_next (x := (.iload_n 2, 1, 0, 0, 0, 0)) (by decide +kernel) rfl
theorem r_Jp_checkFromToIndex_22 {G : Nat → Value} {d : Nat} {st : List Value} {M : am_M} {l1 l2 l3 : Option Value} {v : Int32} : am_run G d K_Jp_checkFromToIndex (22, [some (.int v), l1, l2, l3], st, M) = am_run G d K_Jp_checkFromToIndex (23, [some (.int v), l1, l2, l3], .int v :: st, M) := am_run_next (x := (.iload_n 0, 1, 0, 0, 0, 0)) (by decide +kernel) rfl
theorem r_Jp_checkFromToIndex_23 {G : Nat → Value} {d : Nat} {M : am_M} {l0 l1 l2 l3 : Option Value} {a : Int32} : am_run G d K_Jp_checkFromToIndex (23, [l0, l1, l2, l3], [.int a], M) = some (some (.int a), M) := am_run_ret (x := (.ireturn, 1, 0, 0, 0, 0)) (by decide +kernel) rfl
theorem r_Ja_copyOf_0 {G : Nat → Value} {d : Nat} {st : List Value} {M : am_M} {l0 l2 : Option Value} {v : Int32} : am_run G d K_Ja_copyOf (0, [l0, some (.int v), l2], st, M) = am_run G d K_Ja_copyOf (1, [l0, some (.int v), l2], .int v :: st, M) := am_run_next (x := (.iload_n 1, 1, 0, 0, 0, 0)) (by decide +kernel) rfl
theorem r_Ja_copyOf_1 {G : Nat → Value} {d : Nat} {st : List Value} {M : am_M} {l1 l2 : Option Value} {v : Value} (hv : am_isr v = true) : am_run G d K_Ja_copyOf (1, [some v, l1, l2], st, M) = am_run G d K_Ja_copyOf (2, [some v, l1, l2], v :: st, M) := by
  rcases am_isr_cases hv with ⟨q, rfl⟩ | rfl
  · exact am_run_next (x := (.aload_n 0, 1, 0, 0, 0, 0)) (by decide +kernel) rfl
  · exact am_run_next (x := (.aload_n 0, 1, 0, 0, 0, 0)) (by decide +kernel) rfl
theorem r_Ja_copyOf_2 {G : Nat → Value} {d : Nat} {st : List Value} {M : am_M} {l0 l1 l2 : Option Value} {a : Nat} : am_run G d K_Ja_copyOf (2, [l0, l1, l2], .ref a :: st, M) = am_kn G d K_Ja_copyOf 3 [l0, l1, l2] st M (am_len M a) := am_run_kn (x := (.arraylength, 1, 0, 0, 0, 0)) (by decide +kernel) rfl
theorem r_Ja_copyOf_3 {G : Nat → Value} {d : Nat} {st : List Value} {M : am_M} {l0 l1 l2 : Option Value} {a b : Int32} : am_run G d K_Ja_copyOf (3, [l0, l1, l2], .int b :: .int a :: st, M) = if ¬ a = b then am_run G d K_Ja_copyOf (14, [l0, l1, l2], st, M) else am_run G d K_Ja_copyOf (6, [l0, l1, l2], st, M) := by
  split
  · next h => exact am_run_next (x := (.if_icmp .ne 11, 3, 0, 0, 0, 0)) (by decide +kernel) (am_br_t (decide_eq_true h) (by decide))
  · next h => exact am_run_next (x := (.if_icmp .ne 11, 3, 0, 0, 0, 0)) (by decide +kernel) (am_br_f (decide_eq_false h) (by decide))
theorem r_Ja_copyOf_6 {G : Nat → Value} {d : Nat} {st : List Value} {M : am_M} {l1 l2 : Option Value} {v : Value} (hv : am_isr v = true) : am_run G d K_Ja_copyOf (6, [some v, l1, l2], st, M) = am_run G d K_Ja_copyOf (7, [some v, l1, l2], v :: st, M) := by
  rcases am_isr_cases hv with ⟨q, rfl⟩ | rfl
  · exact am_run_next (x := (.aload_n 0, 1, 0, 0, 0, 0)) (by decide +kernel) rfl
  · exact am_run_next (x := (.aload_n 0, 1, 0, 0, 0, 0)) (by decide +kernel) rfl
theorem r_Ja_copyOf_13 {G : Nat → Value} {d : Nat} {M : am_M} {l0 l1 l2 : Option Value} {v : Value} (hv : am_isr v = true) : am_run G d K_Ja_copyOf (13, [l0, l1, l2], [v], M) = some (some v, M) := am_run_ret (x := (.areturn, 1, 0, 0, 0, 0)) (by decide +kernel) (if_pos ⟨hv, rfl⟩)
theorem r_Ja_copyOf_14 {G : Nat → Value} {d : Nat} {st : List Value} {M : am_M} {l0 l2 : Option Value} {v : Int32} : am_run G d K_Ja_copyOf (14, [l0, some (.int v), l2], st, M) = am_run G d K_Ja_copyOf (15, [l0, some (.int v), l2], .int v :: st, M) := am_run_next (x := (.iload_n 1, 1, 0, 0, 0, 0)) (by decide +kernel) rfl
theorem r_Ja_copyOf_15 {G : Nat → Value} {d : Nat} {st : List Value} {M : am_M} {l0 l1 l2 : Option Value} {n : Int32} : am_run G d K_Ja_copyOf (15, [l0, l1, l2], .int n :: st, M) = am_km G d K_Ja_copyOf 17 [l0, l1, l2] (.ref M.1 :: st) (am_newa (some (0, .inl (fun _ => 0))) n M) := am_run_km (x := (.newarray .int, 2, 0, 0, 0, 0)) (by decide +kernel) rfl
theorem r_Ja_copyOf_17 {G : Nat → Value} {d : Nat} {st : List Value} {M : am_M} {l0 l1 l2 : Option Value} {v : Value} (hv : am_isr v = true) (hc : am_c1 l1 = true) : am_run G d K_Ja_copyOf (17, [l0, l1, l2], v :: st, M) = am_run G d K_Ja_copyOf (18, [l0, l1, some v], st, M) := by
  rcases am_isr_cases hv with ⟨q1, rfl⟩ | rfl
  · rcases am_c1_cases hc with rfl | ⟨q, rfl⟩ | ⟨q, rfl⟩ | rfl
    · exact am_run_next (x := (.astore_n 2, 1, 0, 0, 0, 0)) (by decide +kernel) rfl
    · exact am_run_next (x := (.astore_n 2, 1, 0, 0, 0, 0)) (by decide +kernel) rfl
    · exact am_run_next (x := (.astore_n 2, 1, 0, 0, 0, 0)) (by decide +kernel) rfl
    · exact am_run_next (x := (.astore_n 2, 1, 0, 0, 0, 0)) (by decide +kernel) rfl
  · rcases am_c1_cases hc with rfl | ⟨q, rfl⟩ | ⟨q, rfl⟩ | rfl
    · exact am_run_next (x := (.astore_n 2, 1, 0, 0, 0, 0)) (by decide +kernel) rfl
    · exact am_run_next (x := (.astore_n 2, 1, 0, 0, 0, 0)) (by decide +kernel) rfl
    · exact am_run_next (x := (.astore_n 2, 1, 0, 0, 0, 0)) (by decide +kernel) rfl
    · exact am_run_next (x := (.astore_n 2, 1, 0, 0, 0, 0)) (by decide +kernel) rfl
theorem r_Ja_copyOf_17_k {G : Nat → Value} {d : Nat} {st : List Value} {M : am_M} {l0 l2 : Option Value} {v : Value} {z : Int64} (hv : am_isr v = true) : am_run G d K_Ja_copyOf (17, [l0, some (.long z), l2], v :: st, M) = am_run G d K_Ja_copyOf (18, [l0, none, some v], st, M) := by
  rcases am_isr_cases hv with ⟨q, rfl⟩ | rfl
  · exact am_run_next (x := (.astore_n 2, 1, 0, 0, 0, 0)) (by decide +kernel) rfl
  · exact am_run_next (x := (.astore_n 2, 1, 0, 0, 0, 0)) (by decide +kernel) rfl
theorem r_Ja_copyOf_18 {G : Nat → Value} {d : Nat} {st : List Value} {M : am_M} {l1 l2 : Option Value} {v : Value} (hv : am_isr v = true) : am_run G d K_Ja_copyOf (18, [some v, l1, l2], st, M) = am_run G d K_Ja_copyOf (19, [some v, l1, l2], v :: st, M) := by
  rcases am_isr_cases hv with ⟨q, rfl⟩ | rfl
  · exact am_run_next (x := (.aload_n 0, 1, 0, 0, 0, 0)) (by decide +kernel) rfl
  · exact am_run_next (x := (.aload_n 0, 1, 0, 0, 0, 0)) (by decide +kernel) rfl
theorem r_Ja_copyOf_19 {G : Nat → Value} {d : Nat} {st : List Value} {M : am_M} {l0 l1 l2 : Option Value} : am_run G d K_Ja_copyOf (19, [l0, l1, l2], st, M) = am_run G d K_Ja_copyOf (20, [l0, l1, l2], .int 0 :: st, M) := am_run_next (x := (.iconst 0, 1, 0, 0, 0, 0)) (by decide +kernel) rfl
theorem r_Ja_copyOf_20 {G : Nat → Value} {d : Nat} {st : List Value} {M : am_M} {l0 l1 : Option Value} {v : Value} (hv : am_isr v = true) : am_run G d K_Ja_copyOf (20, [l0, l1, some v], st, M) = am_run G d K_Ja_copyOf (21, [l0, l1, some v], v :: st, M) := by
  rcases am_isr_cases hv with ⟨q, rfl⟩ | rfl
  · exact am_run_next (x := (.aload_n 2, 1, 0, 0, 0, 0)) (by decide +kernel) rfl
  · exact am_run_next (x := (.aload_n 2, 1, 0, 0, 0, 0)) (by decide +kernel) rfl
theorem r_Ja_copyOf_21 {G : Nat → Value} {d : Nat} {st : List Value} {M : am_M} {l0 l1 l2 : Option Value} : am_run G d K_Ja_copyOf (21, [l0, l1, l2], st, M) = am_run G d K_Ja_copyOf (22, [l0, l1, l2], .int 0 :: st, M) := am_run_next (x := (.iconst 0, 1, 0, 0, 0, 0)) (by decide +kernel) rfl
theorem r_Ja_copyOf_22 {G : Nat → Value} {d : Nat} {st : List Value} {M : am_M} {l1 l2 : Option Value} {v : Value} (hv : am_isr v = true) : am_run G d K_Ja_copyOf (22, [some v, l1, l2], st, M) = am_run G d K_Ja_copyOf (23, [some v, l1, l2], v :: st, M) := by
  rcases am_isr_cases hv with ⟨q, rfl⟩ | rfl
  · exact am_run_next (x := (.aload_n 0, 1, 0, 0, 0, 0)) (by decide +kernel) rfl
  · exact am_run_next (x := (.aload_n 0, 1, 0, 0, 0, 0)) (by decide +kernel) rfl
theorem r_Ja_copyOf_23 {G : Nat → Value} {d : Nat} {st : List Value} {M : am_M} {l0 l1 l2 : Option Value} {a : Nat} : am_run G d K_Ja_copyOf (23, [l0, l1, l2], .ref a :: st, M) = am_kn G d K_Ja_copyOf 24 [l0, l1, l2] st M (am_len M a) := am_run_kn (x := (.arraylength, 1, 0, 0, 0, 0)) (by decide +kernel) rfl
theorem r_Ja_copyOf_24 {G : Nat → Value} {d : Nat} {st : List Value} {M : am_M} {l0 l2 : Option Value} {v : Int32} : am_run G d K_Ja_copyOf (24, [l0, some (.int v), l2], st, M) = am_run G d K_Ja_copyOf (25, [l0, some (.int v), l2], .int v :: st, M) := am_run_next (x := (.iload_n 1, 1, 0, 0, 0, 0)) (by decide +kernel) rfl
theorem r_Ja_copyOf_25 {G : Nat → Value} {d : Nat} {st : List Value} {M : am_M} {l0 l1 l2 : Option Value} {a b : Int32} (h8 : am_sw st ≤ 8) : am_run G d K_Ja_copyOf (25, [l0, l1, l2], .int b :: .int a :: st, M) = am_run G d K_Ja_copyOf (28, [l0, l1, l2], .int (if b < a then b else a) :: st, M) := am_run_next (x := (.invokestatic 304, 3, 0, 2, 2084, 11)) (by decide +kernel) (if_pos h8)
theorem r_Ja_copyOf_28 {G : Nat → Value} {d : Nat} {st : List Value} {M : am_M} {l0 l1 l2 : Option Value} {a b : Nat} {sp dp n : Int32} (h8 : am_sw st ≤ 8) : am_run G d K_Ja_copyOf (28, [l0, l1, l2], .int n :: .int dp :: .ref b :: .int sp :: .ref a :: st, M) = am_km G d K_Ja_copyOf 31 [l0, l1, l2] st (am_cp M a sp b dp n) := am_run_km (x := (.invokestatic 150, 3, 0, 5, 2085, 6)) (by decide +kernel) (if_pos h8)
theorem r_Ja_copyOf_31 {G : Nat → Value} {d : Nat} {st : List Value} {M : am_M} {l0 l1 : Option Value} {v : Value} (hv : am_isr v = true) : am_run G d K_Ja_copyOf (31, [l0, l1, some v], st, M) = am_run G d K_Ja_copyOf (32, [l0, l1, some v], v :: st, M) := by
  rcases am_isr_cases hv with ⟨q, rfl⟩ | rfl
  · exact am_run_next (x := (.aload_n 2, 1, 0, 0, 0, 0)) (by decide +kernel) rfl
  · exact am_run_next (x := (.aload_n 2, 1, 0, 0, 0, 0)) (by decide +kernel) rfl
theorem r_Ja_copyOf_32 {G : Nat → Value} {d : Nat} {M : am_M} {l0 l1 l2 : Option Value} {v : Value} (hv : am_isr v = true) : am_run G d K_Ja_copyOf (32, [l0, l1, l2], [v], M) = some (some v, M) := am_run_ret (x := (.areturn, 1, 0, 0, 0, 0)) (by decide +kernel) (if_pos ⟨hv, rfl⟩)
theorem r_Jg_compare_0 {G : Nat → Value} {d : Nat} {st : List Value} {M : am_M} {l1 l2 l3 : Option Value} {v : Int64} : am_run G d K_Jg_compare (0, [some (.long v), l1, l2, l3], st, M) = am_run G d K_Jg_compare (1, [some (.long v), l1, l2, l3], .long v :: st, M) := am_run_next (x := (.lload_n 0, 1, 0, 0, 0, 0)) (by decide +kernel) rfl
theorem r_Jg_compare_1 {G : Nat → Value} {d : Nat} {st : List Value} {M : am_M} {l0 l1 l3 : Option Value} {v : Int64} : am_run G d K_Jg_compare (1, [l0, l1, some (.long v), l3], st, M) = am_run G d K_Jg_compare (2, [l0, l1, some (.long v), l3], .long v :: st, M) := am_run_next (x := (.lload_n 2, 1, 0, 0, 0, 0)) (by decide +kernel) rfl
theorem r_Jg_compare_2 {G : Nat → Value} {d : Nat} {st : List Value} {M : am_M} {l0 l1 l2 l3 : Option Value} {a b : Int64} : am_run G d K_Jg_compare (2, [l0, l1, l2, l3], .long b :: .long a :: st, M) = am_run G d K_Jg_compare (3, [l0, l1, l2, l3], .int (lg_cmp a b) :: st, M) := am_run_next (x := (.lcmp, 1, 0, 0, 0, 0)) (by decide +kernel) rfl
theorem r_Jg_compare_3 {G : Nat → Value} {d : Nat} {st : List Value} {M : am_M} {l0 l1 l2 l3 : Option Value} {a : Int32} : am_run G d K_Jg_compare (3, [l0, l1, l2, l3], .int a :: st, M) = if 0 ≤ a then am_run G d K_Jg_compare (10, [l0, l1, l2, l3], st, M) else am_run G d K_Jg_compare (6, [l0, l1, l2, l3], st, M) := by
  split
  · next h => exact am_run_next (x := (.ifCond .ge 7, 3, 0, 0, 0, 0)) (by decide +kernel) (am_br_t (decide_eq_true h) (by decide))
  · next h => exact am_run_next (x := (.ifCond .ge 7, 3, 0, 0, 0, 0)) (by decide +kernel) (am_br_f (decide_eq_false h) (by decide))
theorem r_Jg_compare_6 {G : Nat → Value} {d : Nat} {st : List Value} {M : am_M} {l0 l1 l2 l3 : Option Value} : am_run G d K_Jg_compare (6, [l0, l1, l2, l3], st, M) = am_run G d K_Jg_compare (7, [l0, l1, l2, l3], .int (-1) :: st, M) := am_run_next (x := (.iconst (-1), 1, 0, 0, 0, 0)) (by decide +kernel) rfl
theorem r_Jg_compare_7 {G : Nat → Value} {d : Nat} {st : List Value} {M : am_M} {l0 l1 l2 l3 : Option Value} : am_run G d K_Jg_compare (7, [l0, l1, l2, l3], st, M) = am_run G d K_Jg_compare (21, [l0, l1, l2, l3], st, M) := am_run_next (x := (.goto 14, 3, 0, 0, 0, 0)) (by decide +kernel) rfl
theorem r_Jg_compare_10 {G : Nat → Value} {d : Nat} {st : List Value} {M : am_M} {l1 l2 l3 : Option Value} {v : Int64} : am_run G d K_Jg_compare (10, [some (.long v), l1, l2, l3], st, M) = am_run G d K_Jg_compare (11, [some (.long v), l1, l2, l3], .long v :: st, M) := am_run_next (x := (.lload_n 0, 1, 0, 0, 0, 0)) (by decide +kernel) rfl
theorem r_Jg_compare_11 {G : Nat → Value} {d : Nat} {st : List Value} {M : am_M} {l0 l1 l3 : Option Value} {v : Int64} : am_run G d K_Jg_compare (11, [l0, l1, some (.long v), l3], st, M) = am_run G d K_Jg_compare (12, [l0, l1, some (.long v), l3], .long v :: st, M) := am_run_next (x := (.lload_n 2, 1, 0, 0, 0, 0)) (by decide +kernel) rfl
theorem r_Jg_compare_12 {G : Nat → Value} {d : Nat} {st : List Value} {M : am_M} {l0 l1 l2 l3 : Option Value} {a b : Int64} : am_run G d K_Jg_compare (12, [l0, l1, l2, l3], .long b :: .long a :: st, M) = am_run G d K_Jg_compare (13, [l0, l1, l2, l3], .int (lg_cmp a b) :: st, M) := am_run_next (x := (.lcmp, 1, 0, 0, 0, 0)) (by decide +kernel) rfl
theorem r_Jg_compare_13 {G : Nat → Value} {d : Nat} {st : List Value} {M : am_M} {l0 l1 l2 l3 : Option Value} {a : Int32} : am_run G d K_Jg_compare (13, [l0, l1, l2, l3], .int a :: st, M) = if ¬ a = 0 then am_run G d K_Jg_compare (20, [l0, l1, l2, l3], st, M) else am_run G d K_Jg_compare (16, [l0, l1, l2, l3], st, M) := by
  split
  · next h => exact am_run_next (x := (.ifCond .ne 7, 3, 0, 0, 0, 0)) (by decide +kernel) (am_br_t (decide_eq_true h) (by decide))
  · next h => exact am_run_next (x := (.ifCond .ne 7, 3, 0, 0, 0, 0)) (by decide +kernel) (am_br_f (decide_eq_false h) (by decide))
theorem r_Jg_compare_16 {G : Nat → Value} {d : Nat} {st : List Value} {M : am_M} {l0 l1 l2 l3 : Option Value} : am_run G d K_Jg_compare (16, [l0, l1, l2, l3], st, M) = am_run G d K_Jg_compare (17, [l0, l1, l2, l3], .int 0 :: st, M) := am_run_next (x := (.iconst 0, 1, 0, 0, 0, 0)) (by decide +kernel) rfl
theorem r_Jg_compare_17 {G : Nat → Value} {d : Nat} {st : List Value} {M : am_M} {l0 l1 l2 l3 : Option Value} : am_run G d K_Jg_compare (17, [l0, l1, l2, l3], st, M) = am_run G d K_Jg_compare (21, [l0, l1, l2, l3], st, M) := am_run_next (x := (.goto 4, 3, 0, 0, 0, 0)) (by decide +kernel) rfl
theorem r_Jg_compare_20 {G : Nat → Value} {d : Nat} {st : List Value} {M : am_M} {l0 l1 l2 l3 : Option Value} : am_run G d K_Jg_compare (20, [l0, l1, l2, l3], st, M) = am_run G d K_Jg_compare (21, [l0, l1, l2, l3], .int 1 :: st, M) := am_run_next (x := (.iconst 1, 1, 0, 0, 0, 0)) (by decide +kernel) rfl
theorem r_Jg_compare_21 {G : Nat → Value} {d : Nat} {M : am_M} {l0 l1 l2 l3 : Option Value} {a : Int32} : am_run G d K_Jg_compare (21, [l0, l1, l2, l3], [.int a], M) = some (some (.int a), M) := am_run_ret (x := (.ireturn, 1, 0, 0, 0, 0)) (by decide +kernel) rfl
theorem r_Ja_fill_0 {G : Nat → Value} {d : Nat} {st : List Value} {M : am_M} {l0 l1 l2 l3 : Option Value} : am_run G d K_Ja_fill (0, [l0, l1, l2, l3], st, M) = am_run G d K_Ja_fill (1, [l0, l1, l2, l3], .int 0 :: st, M) := am_run_next (x := (.iconst 0, 1, 0, 0, 0, 0)) (by decide +kernel) rfl
theorem r_Ja_fill_1 {G : Nat → Value} {d : Nat} {st : List Value} {M : am_M} {l0 l1 l2 l3 : Option Value} {v : Int32} (hc : am_c1 l1 = true) : am_run G d K_Ja_fill (1, [l0, l1, l2, l3], .int v :: st, M) = am_run G d K_Ja_fill (2, [l0, l1, some (.int v), l3], st, M) := by
  rcases am_c1_cases hc with rfl | ⟨q, rfl⟩ | ⟨q, rfl⟩ | rfl
  · exact am_run_next (x := (.istore_n 2, 1, 0, 0, 0, 0)) (by decide +kernel) rfl
  · exact am_run_next (x := (.istore_n 2, 1, 0, 0, 0, 0)) (by decide +kernel) rfl
  · exact am_run_next (x := (.istore_n 2, 1, 0, 0, 0, 0)) (by decide +kernel) rfl
  · exact am_run_next (x := (.istore_n 2, 1, 0, 0, 0, 0)) (by decide +kernel) rfl
theorem r_Ja_fill_1_k {G : Nat → Value} {d : Nat} {st : List Value} {M : am_M} {l0 l2 l3 : Option Value} {v : Int32} {z : Int64} : am_run G d K_Ja_fill (1, [l0, some (.long z), l2, l3], .int v :: st, M) = am_run G d K_Ja_fill (2, [l0, none, some (.int v), l3], st, M) := am_run_next (x := (.istore_n 2, 1, 0, 0, 0, 0)) (by decide +kernel) rfl
theorem r_Ja_fill_2 {G : Nat → Value} {d : Nat} {st : List Value} {M : am_M} {l1 l2 l3 : Option Value} {v : Value} (hv : am_isr v = true) : am_run G d K_Ja_fill (2, [some v, l1, l2, l3], st, M) = am_run G d K_Ja_fill (3, [some v, l1, l2, l3], v :: st, M) := by
  rcases am_isr_cases hv with ⟨q, rfl⟩ | rfl
  · exact am_run_next (x := (.aload_n 0, 1, 0, 0, 0, 0)) (by decide +kernel) rfl
  · exact am_run_next (x := (.aload_n 0, 1, 0, 0, 0, 0)) (by decide +kernel) rfl
theorem r_Ja_fill_3 {G : Nat → Value} {d : Nat} {st : List Value} {M : am_M} {l0 l1 l2 l3 : Option Value} {a : Nat} : am_run G d K_Ja_fill (3, [l0, l1, l2, l3], .ref a :: st, M) = am_kn G d K_Ja_fill 4 [l0, l1, l2, l3] st M (am_len M a) := am_run_kn (x := (.arraylength, 1, 0, 0, 0, 0)) (by decide +kernel) rfl
theorem r_Ja_fill_4 {G : Nat → Value} {d : Nat} {st : List Value} {M : am_M} {l0 l1 l2 l3 : Option Value} {v : Int32} (hc : am_c1 l2 = true) : am_run G d K_Ja_fill (4, [l0, l1, l2, l3], .int v :: st, M) = am_run G d K_Ja_fill (5, [l0, l1, l2, some (.int v)], st, M) := by
  rcases am_c1_cases hc with rfl | ⟨q, rfl⟩ | ⟨q, rfl⟩ | rfl
  · exact am_run_next (x := (.istore_n 3, 1, 0, 0, 0, 0)) (by decide +kernel) rfl
  · exact am_run_next (x := (.istore_n 3, 1, 0, 0, 0, 0)) (by decide +kernel) rfl
  · exact am_run_next (x := (.istore_n 3, 1, 0, 0, 0, 0)) (by decide +kernel) rfl
  · exact am_run_next (x := (.istore_n 3, 1, 0, 0, 0, 0)) (by decide +kernel) rfl
theorem r_Ja_fill_4_k {G : Nat → Value} {d : Nat} {st : List Value} {M : am_M} {l0 l1 l3 : Option Value} {v : Int32} {z : Int64} : am_run G d K_Ja_fill (4, [l0, l1, some (.long z), l3], .int v :: st, M) = am_run G d K_Ja_fill (5, [l0, l1, none, some (.int v)], st, M) := am_run_next (x := (.istore_n 3, 1, 0, 0, 0, 0)) (by decide +kernel) rfl
theorem r_Ja_fill_5 {G : Nat → Value} {d : Nat} {st : List Value} {M : am_M} {l0 l1 l3 : Option Value} {v : Int32} : am_run G d K_Ja_fill (5, [l0, l1, some (.int v), l3], st, M) = am_run G d K_Ja_fill (6, [l0, l1, some (.int v), l3], .int v :: st, M) := am_run_next (x := (.iload_n 2, 1, 0, 0, 0, 0)) (by decide +kernel) rfl
theorem r_Ja_fill_6 {G : Nat → Value} {d : Nat} {st : List Value} {M : am_M} {l0 l1 l2 : Option Value} {v : Int32} : am_run G d K_Ja_fill (6, [l0, l1, l2, some (.int v)], st, M) = am_run G d K_Ja_fill (7, [l0, l1, l2, some (.int v)], .int v :: st, M) := am_run_next (x := (.iload_n 3, 1, 0, 0, 0, 0)) (by decide +kernel) rfl
theorem r_Ja_fill_7 {G : Nat → Value} {d : Nat} {st : List Value} {M : am_M} {l0 l1 l2 l3 : Option Value} {a b : Int32} : am_run G d K_Ja_fill (7, [l0, l1, l2, l3], .int b :: .int a :: st, M) = if b ≤ a then am_run G d K_Ja_fill (20, [l0, l1, l2, l3], st, M) else am_run G d K_Ja_fill (10, [l0, l1, l2, l3], st, M) := by
  split
  · next h => exact am_run_next (x := (.if_icmp .ge 13, 3, 0, 0, 0, 0)) (by decide +kernel) (am_br_t (decide_eq_true h) (by decide))
  · next h => exact am_run_next (x := (.if_icmp .ge 13, 3, 0, 0, 0, 0)) (by decide +kernel) (am_br_f (decide_eq_false h) (by decide))
theorem r_Ja_fill_10 {G : Nat → Value} {d : Nat} {st : List Value} {M : am_M} {l1 l2 l3 : Option Value} {v : Value} (hv : am_isr v = true) : am_run G d K_Ja_fill (10, [some v, l1, l2, l3], st, M) = am_run G d K_Ja_fill (11, [some v, l1, l2, l3], v :: st, M) := by
  rcases am_isr_cases hv with ⟨q, rfl⟩ | rfl
  · exact am_run_next (x := (.aload_n 0, 1, 0, 0, 0, 0)) (by decide +kernel) rfl
  · exact am_run_next (x := (.aload_n 0, 1, 0, 0, 0, 0)) (by decide +kernel) rfl
theorem r_Ja_fill_11 {G : Nat → Value} {d : Nat} {st : List Value} {M : am_M} {l0 l1 l3 : Option Value} {v : Int32} : am_run G d K_Ja_fill (11, [l0, l1, some (.int v), l3], st, M) = am_run G d K_Ja_fill (12, [l0, l1, some (.int v), l3], .int v :: st, M) := am_run_next (x := (.iload_n 2, 1, 0, 0, 0, 0)) (by decide +kernel) rfl
theorem r_Ja_fill_12 {G : Nat → Value} {d : Nat} {st : List Value} {M : am_M} {l0 l2 l3 : Option Value} {v : Int32} : am_run G d K_Ja_fill (12, [l0, some (.int v), l2, l3], st, M) = am_run G d K_Ja_fill (13, [l0, some (.int v), l2, l3], .int v :: st, M) := am_run_next (x := (.iload_n 1, 1, 0, 0, 0, 0)) (by decide +kernel) rfl
theorem r_Ja_fill_13 {G : Nat → Value} {d : Nat} {st : List Value} {M : am_M} {l0 l1 l2 l3 : Option Value} {a : Nat} {i x : Int32} : am_run G d K_Ja_fill (13, [l0, l1, l2, l3], .int x :: .int i :: .ref a :: st, M) = am_km G d K_Ja_fill 14 [l0, l1, l2, l3] st (am_pi M a i x) := am_run_km (x := (.iastore, 1, 0, 0, 0, 0)) (by decide +kernel) rfl
theorem r_Ja_fill_14 {G : Nat → Value} {d : Nat} {st : List Value} {M : am_M} {l0 l1 l3 : Option Value} {v : Int32} (hc : am_c1 l1 = true) : am_run G d K_Ja_fill (14, [l0, l1, some (.int v), l3], st, M) = am_run G d K_Ja_fill (17, [l0, l1, some (.int (v + 1)), l3], st, M) := by
  rcases am_c1_cases hc with rfl | ⟨q, rfl⟩ | ⟨q, rfl⟩ | rfl
  · exact am_run_next (x := (.iinc 2 1, 3, 0, 0, 0, 0)) (by decide +kernel) rfl
  · exact am_run_next (x := (.iinc 2 1, 3, 0, 0, 0, 0)) (by decide +kernel) rfl
  · exact am_run_next (x := (.iinc 2 1, 3, 0, 0, 0, 0)) (by decide +kernel) rfl
  · exact am_run_next (x := (.iinc 2 1, 3, 0, 0, 0, 0)) (by decide +kernel) rfl
theorem r_Ja_fill_14_k {G : Nat → Value} {d : Nat} {st : List Value} {M : am_M} {l0 l3 : Option Value} {v : Int32} {z : Int64} : am_run G d K_Ja_fill (14, [l0, some (.long z), some (.int v), l3], st, M) = am_run G d K_Ja_fill (17, [l0, none, some (.int (v + 1)), l3], st, M) := am_run_next (x := (.iinc 2 1, 3, 0, 0, 0, 0)) (by decide +kernel) rfl
theorem r_Ja_fill_17 {G : Nat → Value} {d : Nat} {st : List Value} {M : am_M} {l0 l1 l2 l3 : Option Value} : am_run G d K_Ja_fill (17, [l0, l1, l2, l3], st, M) = am_run G d K_Ja_fill (5, [l0, l1, l2, l3], st, M) := am_run_next (x := (.goto (-12), 3, 0, 0, 0, 0)) (by decide +kernel) rfl
theorem r_Ja_fill_20 {G : Nat → Value} {d : Nat} {M : am_M} {l0 l1 l2 l3 : Option Value} : am_run G d K_Ja_fill (20, [l0, l1, l2, l3], [], M) = some (none, M) := am_run_ret (x := (.return_, 1, 0, 0, 0, 0)) (by decide +kernel) rfl
