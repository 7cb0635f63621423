theorem r_H_init_0 {G : Nat → Value} {d : Nat} {st : List Value} {M : am_M} {l1 : Option Value} {v : Value} (hv : am_isr v = true) : am_run G d K_H_init (0, [some v, l1], st, M) = am_run G d K_H_init (1, [some v, l1], v :: st, M) := by
  rcases am_isr_cases hv with ⟨q, rfl⟩ | rfl
  · exact am_run_next (x := (.aload_n 0, 1, 0, 0, 0, 0)) (by decide +kernel) rfl
  · exact am_run_next (x := (.aload_n 0, 1, 0, 0, 0, 0)) (by decide +kernel) rfl
theorem r_H_init_1 {G : Nat → Value} {d : Nat} {st : List Value} {M : am_M} {l0 l1 : Option Value} {a : Nat} (h8 : am_sw st ≤ 8) : am_run G d K_H_init (1, [l0, l1], .ref a :: st, M) = am_run G d K_H_init (4, [l0, l1], st, M) := am_run_next (x := (.invokespecial 1, 3, 0, 0, 1026, 5)) (by decide +kernel) (if_pos h8)
theorem r_H_init_4 {G : Nat → Value} {d : Nat} {st : List Value} {M : am_M} {l1 : Option Value} {v : Value} (hv : am_isr v = true) : am_run G d K_H_init (4, [some v, l1], st, M) = am_run G d K_H_init (5, [some v, l1], v :: st, M) := by
  rcases am_isr_cases hv with ⟨q, rfl⟩ | rfl
  · exact am_run_next (x := (.aload_n 0, 1, 0, 0, 0, 0)) (by decide +kernel) rfl
  · exact am_run_next (x := (.aload_n 0, 1, 0, 0, 0, 0)) (by decide +kernel) rfl
theorem r_H_init_5 {G : Nat → Value} {d : Nat} {st : List Value} {M : am_M} {l0 l1 : Option Value} : am_run G d K_H_init (5, [l0, l1], st, M) = am_run G d K_H_init (7, [l0, l1], .int 8 :: st, M) := am_run_next (x := (.bipush 8, 2, 0, 0, 0, 0)) (by decide +kernel) rfl
theorem r_H_init_7 {G : Nat → Value} {d : Nat} {st : List Value} {M : am_M} {l0 l1 : Option Value} {n : Int32} : am_run G d K_H_init (7, [l0, l1], .int n :: st, M) = am_km G d K_H_init 10 [l0, l1] (.ref M.1 :: st) (am_newa (some (16, .inr (.inr (.inr (.inr (fun _ => none)))))) n M) := am_run_km (x := (.anewarray 9, 3, 6, 0, 1029, 0)) (by decide +kernel) rfl
theorem r_H_init_10 {G : Nat → Value} {d : Nat} {st : List Value} {M : am_M} {l0 l1 : Option Value} {a : Nat} {v : Value} : am_run G d K_H_init (10, [l0, l1], v :: .ref a :: st, M) = am_km G d K_H_init 13 [l0, l1] st (am_pf M a 9 0 (am_fty 9 0) v) := am_run_km (x := (.putfield 11, 3, 9, 0, 2124, 0)) (by decide +kernel) rfl
theorem r_H_init_13 {G : Nat → Value} {d : Nat} {st : List Value} {M : am_M} {l1 : Option Value} {v : Value} (hv : am_isr v = true) : am_run G d K_H_init (13, [some v, l1], st, M) = am_run G d K_H_init (14, [some v, l1], v :: st, M) := by
  rcases am_isr_cases hv with ⟨q, rfl⟩ | rfl
  · exact am_run_next (x := (.aload_n 0, 1, 0, 0, 0, 0)) (by decide +kernel) rfl
  · exact am_run_next (x := (.aload_n 0, 1, 0, 0, 0, 0)) (by decide +kernel) rfl
theorem r_H_init_14 {G : Nat → Value} {d : Nat} {st : List Value} {M : am_M} {l0 l1 : Option Value} : am_run G d K_H_init (14, [l0, l1], st, M) = am_run G d K_H_init (16, [l0, l1], .int 6 :: st, M) := am_run_next (x := (.bipush 6, 2, 0, 0, 0, 0)) (by decide +kernel) rfl
theorem r_H_init_16 {G : Nat → Value} {d : Nat} {st : List Value} {M : am_M} {l0 l1 : Option Value} {n : Int32} : am_run G d K_H_init (16, [l0, l1], .int n :: st, M) = am_km G d K_H_init 19 [l0, l1] (.ref M.1 :: st) (am_newa (some (12, .inr (.inr (.inr (.inr (fun _ => none)))))) n M) := am_run_km (x := (.anewarray 15, 3, 2, 0, 1031, 0)) (by decide +kernel) rfl
theorem r_H_init_19 {G : Nat → Value} {d : Nat} {st : List Value} {M : am_M} {l0 l1 : Option Value} {a : Nat} {v : Value} : am_run G d K_H_init (19, [l0, l1], v :: .ref a :: st, M) = am_km G d K_H_init 22 [l0, l1] st (am_pf M a 9 1 (am_fty 9 1) v) := am_run_km (x := (.putfield 17, 3, 9, 1, 2125, 0)) (by decide +kernel) rfl
theorem r_H_init_22 {G : Nat → Value} {d : Nat} {st : List Value} {M : am_M} {l1 : Option Value} {v : Value} (hv : am_isr v = true) : am_run G d K_H_init (22, [some v, l1], st, M) = am_run G d K_H_init (23, [some v, l1], v :: st, M) := by
  rcases am_isr_cases hv with ⟨q, rfl⟩ | rfl
  · exact am_run_next (x := (.aload_n 0, 1, 0, 0, 0, 0)) (by decide +kernel) rfl
  · exact am_run_next (x := (.aload_n 0, 1, 0, 0, 0, 0)) (by decide +kernel) rfl
theorem r_H_init_23 {G : Nat → Value} {d : Nat} {st : List Value} {M : am_M} {l0 l1 : Option Value} : am_run G d K_H_init (23, [l0, l1], st, M) = am_run G d K_H_init (25, [l0, l1], .int 40 :: st, M) := am_run_next (x := (.bipush 40, 2, 0, 0, 0, 0)) (by decide +kernel) rfl
theorem r_H_init_25 {G : Nat → Value} {d : Nat} {st : List Value} {M : am_M} {l0 l1 : Option Value} {n : Int32} : am_run G d K_H_init (25, [l0, l1], .int n :: st, M) = am_km G d K_H_init 28 [l0, l1] (.ref M.1 :: st) (am_newa (some (13, .inr (.inr (.inr (.inr (fun _ => none)))))) n M) := am_run_km (x := (.anewarray 21, 3, 3, 0, 1033, 0)) (by decide +kernel) rfl
theorem r_H_init_28 {G : Nat → Value} {d : Nat} {st : List Value} {M : am_M} {l0 l1 : Option Value} {a : Nat} {v : Value} : am_run G d K_H_init (28, [l0, l1], v :: .ref a :: st, M) = am_km G d K_H_init 31 [l0, l1] st (am_pf M a 9 2 (am_fty 9 2) v) := am_run_km (x := (.putfield 23, 3, 9, 2, 2126, 0)) (by decide +kernel) rfl
theorem r_H_init_31 {G : Nat → Value} {d : Nat} {st : List Value} {M : am_M} {l1 : Option Value} {v : Value} (hv : am_isr v = true) : am_run G d K_H_init (31, [some v, l1], st, M) = am_run G d K_H_init (32, [some v, l1], v :: st, M) := by
  rcases am_isr_cases hv with ⟨q, rfl⟩ | rfl
  · exact am_run_next (x := (.aload_n 0, 1, 0, 0, 0, 0)) (by decide +kernel) rfl
  · exact am_run_next (x := (.aload_n 0, 1, 0, 0, 0, 0)) (by decide +kernel) rfl
theorem r_H_init_32 {G : Nat → Value} {d : Nat} {st : List Value} {M : am_M} {l0 l1 : Option Value} : am_run G d K_H_init (32, [l0, l1], st, M) = am_run G d K_H_init (34, [l0, l1], .int 6 :: st, M) := am_run_next (x := (.bipush 6, 2, 0, 0, 0, 0)) (by decide +kernel) rfl
theorem r_H_init_34 {G : Nat → Value} {d : Nat} {st : List Value} {M : am_M} {l0 l1 : Option Value} {n : Int32} : am_run G d K_H_init (34, [l0, l1], .int n :: st, M) = am_km G d K_H_init 37 [l0, l1] (.ref M.1 :: st) (am_newa (some (18, .inr (.inr (.inr (.inr (fun _ => none)))))) n M) := am_run_km (x := (.anewarray 27, 3, 8, 0, 1035, 0)) (by decide +kernel) rfl
theorem r_H_init_37 {G : Nat → Value} {d : Nat} {st : List Value} {M : am_M} {l0 l1 : Option Value} {a : Nat} {v : Value} : am_run G d K_H_init (37, [l0, l1], v :: .ref a :: st, M) = am_km G d K_H_init 40 [l0, l1] st (am_pf M a 9 3 (am_fty 9 3) v) := am_run_km (x := (.putfield 29, 3, 9, 3, 2127, 0)) (by decide +kernel) rfl
theorem r_H_init_40 {G : Nat → Value} {d : Nat} {st : List Value} {M : am_M} {l1 : Option Value} {v : Value} (hv : am_isr v = true) : am_run G d K_H_init (40, [some v, l1], st, M) = am_run G d K_H_init (41, [some v, l1], v :: st, M) := by
  rcases am_isr_cases hv with ⟨q, rfl⟩ | rfl
  · exact am_run_next (x := (.aload_n 0, 1, 0, 0, 0, 0)) (by decide +kernel) rfl
  · exact am_run_next (x := (.aload_n 0, 1, 0, 0, 0, 0)) (by decide +kernel) rfl
theorem r_H_init_41 {G : Nat → Value} {d : Nat} {st : List Value} {M : am_M} {l0 l1 : Option Value} : am_run G d K_H_init (41, [l0, l1], st, M) = am_run G d K_H_init (42, [l0, l1], .int 4 :: st, M) := am_run_next (x := (.iconst 4, 1, 0, 0, 0, 0)) (by decide +kernel) rfl
theorem r_H_init_42 {G : Nat → Value} {d : Nat} {st : List Value} {M : am_M} {l0 l1 : Option Value} {n : Int32} : am_run G d K_H_init (42, [l0, l1], .int n :: st, M) = am_km G d K_H_init 45 [l0, l1] (.ref M.1 :: st) (am_newa (some (14, .inr (.inr (.inr (.inr (fun _ => none)))))) n M) := am_run_km (x := (.anewarray 33, 3, 4, 0, 1037, 0)) (by decide +kernel) rfl
theorem r_H_init_45 {G : Nat → Value} {d : Nat} {st : List Value} {M : am_M} {l0 l1 : Option Value} {a : Nat} {v : Value} : am_run G d K_H_init (45, [l0, l1], v :: .ref a :: st, M) = am_km G d K_H_init 48 [l0, l1] st (am_pf M a 9 4 (am_fty 9 4) v) := am_run_km (x := (.putfield 35, 3, 9, 4, 2128, 0)) (by decide +kernel) rfl
theorem r_H_init_48 {G : Nat → Value} {d : Nat} {st : List Value} {M : am_M} {l1 : Option Value} {v : Value} (hv : am_isr v = true) : am_run G d K_H_init (48, [some v, l1], st, M) = am_run G d K_H_init (49, [some v, l1], v :: st, M) := by
  rcases am_isr_cases hv with ⟨q, rfl⟩ | rfl
  · exact am_run_next (x := (.aload_n 0, 1, 0, 0, 0, 0)) (by decide +kernel) rfl
  · exact am_run_next (x := (.aload_n 0, 1, 0, 0, 0, 0)) (by decide +kernel) rfl
theorem r_H_init_49 {G : Nat → Value} {d : Nat} {st : List Value} {M : am_M} {l0 l1 : Option Value} : am_run G d K_H_init (49, [l0, l1], st, M) = am_run G d K_H_init (50, [l0, l1], .int 4 :: st, M) := am_run_next (x := (.iconst 4, 1, 0, 0, 0, 0)) (by decide +kernel) rfl
theorem r_H_init_50 {G : Nat → Value} {d : Nat} {st : List Value} {M : am_M} {l0 l1 : Option Value} {n : Int32} : am_run G d K_H_init (50, [l0, l1], .int n :: st, M) = am_km G d K_H_init 52 [l0, l1] (.ref M.1 :: st) (am_newa (some (0, .inl (fun _ => 0))) n M) := am_run_km (x := (.newarray .int, 2, 0, 0, 0, 0)) (by decide +kernel) rfl
theorem r_H_init_52 {G : Nat → Value} {d : Nat} {st : List Value} {M : am_M} {l0 l1 : Option Value} {v : Value} (hv : v.category = 1) : am_run G d K_H_init (52, [l0, l1], v :: st, M) = am_run G d K_H_init (53, [l0, l1], v :: v :: st, M) := am_run_next (x := (.dup, 1, 0, 0, 0, 0)) (by decide +kernel) (if_pos hv)
theorem r_H_init_53 {G : Nat → Value} {d : Nat} {st : List Value} {M : am_M} {l0 l1 : Option Value} : am_run G d K_H_init (53, [l0, l1], st, M) = am_run G d K_H_init (54, [l0, l1], .int 0 :: st, M) := am_run_next (x := (.iconst 0, 1, 0, 0, 0, 0)) (by decide +kernel) rfl
theorem r_H_init_54 {G : Nat → Value} {d : Nat} {st : List Value} {M : am_M} {l0 l1 : Option Value} : am_run G d K_H_init (54, [l0, l1], st, M) = am_run G d K_H_init (56, [l0, l1], .int 49 :: st, M) := am_run_next (x := (.bipush 49, 2, 0, 0, 0, 0)) (by decide +kernel) rfl
theorem r_H_init_56 {G : Nat → Value} {d : Nat} {st : List Value} {M : am_M} {l0 l1 : Option Value} {a : Nat} {i x : Int32} : am_run G d K_H_init (56, [l0, l1], .int x :: .int i :: .ref a :: st, M) = am_km G d K_H_init 57 [l0, l1] st (am_pi M a i x) := am_run_km (x := (.iastore, 1, 0, 0, 0, 0)) (by decide +kernel) rfl
theorem r_H_init_57 {G : Nat → Value} {d : Nat} {st : List Value} {M : am_M} {l0 l1 : Option Value} {v : Value} (hv : v.category = 1) : am_run G d K_H_init (57, [l0, l1], v :: st, M) = am_run G d K_H_init (58, [l0, l1], v :: v :: st, M) := am_run_next (x := (.dup, 1, 0, 0, 0, 0)) (by decide +kernel) (if_pos hv)
theorem r_H_init_58 {G : Nat → Value} {d : Nat} {st : List Value} {M : am_M} {l0 l1 : Option Value} : am_run G d K_H_init (58, [l0, l1], st, M) = am_run G d K_H_init (59, [l0, l1], .int 1 :: st, M) := am_run_next (x := (.iconst 1, 1, 0, 0, 0, 0)) (by decide +kernel) rfl
theorem r_H_init_59 {G : Nat → Value} {d : Nat} {st : List Value} {M : am_M} {l0 l1 : Option Value} : am_run G d K_H_init (59, [l0, l1], st, M) = am_run G d K_H_init (61, [l0, l1], .int 100 :: st, M) := am_run_next (x := (.bipush 100, 2, 0, 0, 0, 0)) (by decide +kernel) rfl
theorem r_H_init_61 {G : Nat → Value} {d : Nat} {st : List Value} {M : am_M} {l0 l1 : Option Value} {a : Nat} {i x : Int32} : am_run G d K_H_init (61, [l0, l1], .int x :: .int i :: .ref a :: st, M) = am_km G d K_H_init 62 [l0, l1] st (am_pi M a i x) := am_run_km (x := (.iastore, 1, 0, 0, 0, 0)) (by decide +kernel) rfl
theorem r_H_init_62 {G : Nat → Value} {d : Nat} {st : List Value} {M : am_M} {l0 l1 : Option Value} {v : Value} (hv : v.category = 1) : am_run G d K_H_init (62, [l0, l1], v :: st, M) = am_run G d K_H_init (63, [l0, l1], v :: v :: st, M) := am_run_next (x := (.dup, 1, 0, 0, 0, 0)) (by decide +kernel) (if_pos hv)
theorem r_H_init_63 {G : Nat → Value} {d : Nat} {st : List Value} {M : am_M} {l0 l1 : Option Value} : am_run G d K_H_init (63, [l0, l1], st, M) = am_run G d K_H_init (64, [l0, l1], .int 2 :: st, M) := am_run_next (x := (.iconst 2, 1, 0, 0, 0, 0)) (by decide +kernel) rfl
theorem r_H_init_64 {G : Nat → Value} {d : Nat} {st : List Value} {M : am_M} {l0 l1 : Option Value} : am_run G d K_H_init (64, [l0, l1], st, M) = am_run G d K_H_init (67, [l0, l1], .int 450 :: st, M) := am_run_next (x := (.sipush 450, 3, 0, 0, 0, 0)) (by decide +kernel) rfl
theorem r_H_init_67 {G : Nat → Value} {d : Nat} {st : List Value} {M : am_M} {l0 l1 : Option Value} {a : Nat} {i x : Int32} : am_run G d K_H_init (67, [l0, l1], .int x :: .int i :: .ref a :: st, M) = am_km G d K_H_init 68 [l0, l1] st (am_pi M a i x) := am_run_km (x := (.iastore, 1, 0, 0, 0, 0)) (by decide +kernel) rfl
theorem r_H_init_68 {G : Nat → Value} {d : Nat} {st : List Value} {M : am_M} {l0 l1 : Option Value} {v : Value} (hv : v.category = 1) : am_run G d K_H_init (68, [l0, l1], v :: st, M) = am_run G d K_H_init (69, [l0, l1], v :: v :: st, M) := am_run_next (x := (.dup, 1, 0, 0, 0, 0)) (by decide +kernel) (if_pos hv)
theorem r_H_init_69 {G : Nat → Value} {d : Nat} {st : List Value} {M : am_M} {l0 l1 : Option Value} : am_run G d K_H_init (69, [l0, l1], st, M) = am_run G d K_H_init (70, [l0, l1], .int 3 :: st, M) := am_run_next (x := (.iconst 3, 1, 0, 0, 0, 0)) (by decide +kernel) rfl
theorem r_H_init_70 {G : Nat → Value} {d : Nat} {st : List Value} {M : am_M} {l0 l1 : Option Value} : am_run G d K_H_init (70, [l0, l1], st, M) = am_run G d K_H_init (72, [l0, l1], .int 30 :: st, M) := am_run_next (x := (.bipush 30, 2, 0, 0, 0, 0)) (by decide +kernel) rfl
theorem r_H_init_72 {G : Nat → Value} {d : Nat} {st : List Value} {M : am_M} {l0 l1 : Option Value} {a : Nat} {i x : Int32} : am_run G d K_H_init (72, [l0, l1], .int x :: .int i :: .ref a :: st, M) = am_km G d K_H_init 73 [l0, l1] st (am_pi M a i x) := am_run_km (x := (.iastore, 1, 0, 0, 0, 0)) (by decide +kernel) rfl
theorem r_H_init_73 {G : Nat → Value} {d : Nat} {st : List Value} {M : am_M} {l0 l1 : Option Value} {a : Nat} {v : Value} : am_run G d K_H_init (73, [l0, l1], v :: .ref a :: st, M) = am_km G d K_H_init 76 [l0, l1] st (am_pf M a 9 9 (am_fty 9 9) v) := am_run_km (x := (.putfield 39, 3, 9, 9, 2133, 0)) (by decide +kernel) rfl
theorem r_H_init_76 {G : Nat → Value} {d : Nat} {st : List Value} {M : am_M} {l1 : Option Value} {v : Value} (hv : am_isr v = true) : am_run G d K_H_init (76, [some v, l1], st, M) = am_run G d K_H_init (77, [some v, l1], v :: st, M) := by
  rcases am_isr_cases hv with ⟨q, rfl⟩ | rfl
  · exact am_run_next (x := (.aload_n 0, 1, 0, 0, 0, 0)) (by decide +kernel) rfl
  · exact am_run_next (x := (.aload_n 0, 1, 0, 0, 0, 0)) (by decide +kernel) rfl
theorem r_H_init_77 {G : Nat → Value} {d : Nat} {st : List Value} {M : am_M} {l0 l1 : Option Value} : am_run G d K_H_init (77, [l0, l1], st, M) = am_run G d K_H_init (80, [l0, l1], .ref M.1 :: st, am_add M (.inr (7, [.null, .int 0, .int 0, .int 0, .int 0, .int 0, .int 0, .null, .int 0]))) := am_run_next (x := (.new 43, 3, 7, 0, 1039, 0)) (by decide +kernel) rfl
theorem r_H_init_80 {G : Nat → Value} {d : Nat} {st : List Value} {M : am_M} {l0 l1 : Option Value} {v : Value} (hv : v.category = 1) : am_run G d K_H_init (80, [l0, l1], v :: st, M) = am_run G d K_H_init (81, [l0, l1], v :: v :: st, M) := am_run_next (x := (.dup, 1, 0, 0, 0, 0)) (by decide +kernel) (if_pos hv)
theorem r_H_init_81 {G : Nat → Value} {d : Nat} {st : List Value} {M : am_M} {l0 l1 : Option Value} {q : Nat} (h8 : am_sw st ≤ 8) : am_run G d K_H_init (81, [l0, l1], .ref q :: st, M) = am_k G d K_H_init 84 [l0, l1] st (am_ex G d K_Ta_init [.ref q] M) := am_run_ip (i := 45) (n := 0) (pl := 1041) (Bs := []) (z := K_Ta_init) (v := 3) (by decide) (by decide +kernel) h8 rfl (Nat.le_of_ble_eq_true rfl) rfl
theorem r_H_init_84 {G : Nat → Value} {d : Nat} {st : List Value} {M : am_M} {l0 l1 : Option Value} {a : Nat} {v : Value} : am_run G d K_H_init (84, [l0, l1], v :: .ref a :: st, M) = am_km G d K_H_init 87 [l0, l1] st (am_pf M a 9 11 (am_fty 9 11) v) := am_run_km (x := (.putfield 46, 3, 9, 11, 2135, 0)) (by decide +kernel) rfl
theorem r_H_init_87 {G : Nat → Value} {d : Nat} {st : List Value} {M : am_M} {l1 : Option Value} {v : Value} (hv : am_isr v = true) : am_run G d K_H_init (87, [some v, l1], st, M) = am_run G d K_H_init (88, [some v, l1], v :: st, M) := by
  rcases am_isr_cases hv with ⟨q, rfl⟩ | rfl
  · exact am_run_next (x := (.aload_n 0, 1, 0, 0, 0, 0)) (by decide +kernel) rfl
  · exact am_run_next (x := (.aload_n 0, 1, 0, 0, 0, 0)) (by decide +kernel) rfl
theorem r_H_init_88 {G : Nat → Value} {d : Nat} {st : List Value} {M : am_M} {l0 l1 : Option Value} : am_run G d K_H_init (88, [l0, l1], st, M) = am_run G d K_H_init (91, [l0, l1], .ref M.1 :: st, am_add M (.inr (5, [.int 0, .null, .null, .null, .null, .null, .null, .int 0, .int 0, .int 0, .int 0]))) := am_run_next (x := (.new 50, 3, 5, 0, 1076, 0)) (by decide +kernel) rfl
theorem r_H_init_91 {G : Nat → Value} {d : Nat} {st : List Value} {M : am_M} {l0 l1 : Option Value} {v : Value} (hv : v.category = 1) : am_run G d K_H_init (91, [l0, l1], v :: st, M) = am_run G d K_H_init (92, [l0, l1], v :: v :: st, M) := am_run_next (x := (.dup, 1, 0, 0, 0, 0)) (by decide +kernel) (if_pos hv)
theorem r_H_init_92 {G : Nat → Value} {d : Nat} {st : List Value} {M : am_M} {l0 l1 : Option Value} {q : Nat} (h8 : am_sw st ≤ 8) : am_run G d K_H_init (92, [l0, l1], .ref q :: st, M) = am_k G d K_H_init 95 [l0, l1] st (am_ex G d K_Sp_init [.ref q] M) := am_run_ip (i := 52) (n := 0) (pl := 1078) (Bs := []) (z := K_Sp_init) (v := 3) (by decide) (by decide +kernel) h8 rfl (Nat.le_of_ble_eq_true rfl) rfl
theorem r_H_init_95 {G : Nat → Value} {d : Nat} {st : List Value} {M : am_M} {l0 l1 : Option Value} {a : Nat} {v : Value} : am_run G d K_H_init (95, [l0, l1], v :: .ref a :: st, M) = am_km G d K_H_init 98 [l0, l1] st (am_pf M a 9 12 (am_fty 9 12) v) := am_run_km (x := (.putfield 53, 3, 9, 12, 2136, 0)) (by decide +kernel) rfl
theorem r_H_init_98 {G : Nat → Value} {d : Nat} {st : List Value} {M : am_M} {l1 : Option Value} {v : Value} (hv : am_isr v = true) : am_run G d K_H_init (98, [some v, l1], st, M) = am_run G d K_H_init (99, [some v, l1], v :: st, M) := by
  rcases am_isr_cases hv with ⟨q, rfl⟩ | rfl
  · exact am_run_next (x := (.aload_n 0, 1, 0, 0, 0, 0)) (by decide +kernel) rfl
  · exact am_run_next (x := (.aload_n 0, 1, 0, 0, 0, 0)) (by decide +kernel) rfl
theorem r_H_init_99 {G : Nat → Value} {d : Nat} {st : List Value} {M : am_M} {l0 l1 : Option Value} : am_run G d K_H_init (99, [l0, l1], st, M) = am_run G d K_H_init (102, [l0, l1], .int 400 :: st, M) := am_run_next (x := (.sipush 400, 3, 0, 0, 0, 0)) (by decide +kernel) rfl
theorem r_H_init_102 {G : Nat → Value} {d : Nat} {st : List Value} {M : am_M} {l0 l1 : Option Value} {n : Int32} : am_run G d K_H_init (102, [l0, l1], .int n :: st, M) = am_km G d K_H_init 104 [l0, l1] (.ref M.1 :: st) (am_newa (some (0, .inl (fun _ => 0))) n M) := am_run_km (x := (.newarray .int, 2, 0, 0, 0, 0)) (by decide +kernel) rfl
theorem r_H_init_104 {G : Nat → Value} {d : Nat} {st : List Value} {M : am_M} {l0 l1 : Option Value} {a : Nat} {v : Value} : am_run G d K_H_init (104, [l0, l1], v :: .ref a :: st, M) = am_km G d K_H_init 107 [l0, l1] st (am_pf M a 9 13 (am_fty 9 13) v) := am_run_km (x := (.putfield 57, 3, 9, 13, 2137, 0)) (by decide +kernel) rfl
theorem r_H_init_107 {G : Nat → Value} {d : Nat} {st : List Value} {M : am_M} {l1 : Option Value} {v : Value} (hv : am_isr v = true) : am_run G d K_H_init (107, [some v, l1], st, M) = am_run G d K_H_init (108, [some v, l1], v :: st, M) := by
  rcases am_isr_cases hv with ⟨q, rfl⟩ | rfl
  · exact am_run_next (x := (.aload_n 0, 1, 0, 0, 0, 0)) (by decide +kernel) rfl
  · exact am_run_next (x := (.aload_n 0, 1, 0, 0, 0, 0)) (by decide +kernel) rfl
theorem r_H_init_108 {G : Nat → Value} {d : Nat} {st : List Value} {M : am_M} {l0 l1 : Option Value} : am_run G d K_H_init (108, [l0, l1], st, M) = am_run G d K_H_init (109, [l0, l1], .int 4 :: st, M) := am_run_next (x := (.iconst 4, 1, 0, 0, 0, 0)) (by decide +kernel) rfl
theorem r_H_init_109 {G : Nat → Value} {d : Nat} {st : List Value} {M : am_M} {l0 l1 : Option Value} {n : Int32} : am_run G d K_H_init (109, [l0, l1], .int n :: st, M) = am_km G d K_H_init 111 [l0, l1] (.ref M.1 :: st) (am_newa (some (0, .inl (fun _ => 0))) n M) := am_run_km (x := (.newarray .int, 2, 0, 0, 0, 0)) (by decide +kernel) rfl
theorem r_H_init_111 {G : Nat → Value} {d : Nat} {st : List Value} {M : am_M} {l0 l1 : Option Value} {a : Nat} {v : Value} : am_run G d K_H_init (111, [l0, l1], v :: .ref a :: st, M) = am_km G d K_H_init 114 [l0, l1] st (am_pf M a 9 14 (am_fty 9 14) v) := am_run_km (x := (.putfield 60, 3, 9, 14, 2138, 0)) (by decide +kernel) rfl
theorem r_H_init_114 {G : Nat → Value} {d : Nat} {st : List Value} {M : am_M} {l1 : Option Value} {v : Value} (hv : am_isr v = true) : am_run G d K_H_init (114, [some v, l1], st, M) = am_run G d K_H_init (115, [some v, l1], v :: st, M) := by
  rcases am_isr_cases hv with ⟨q, rfl⟩ | rfl
  · exact am_run_next (x := (.aload_n 0, 1, 0, 0, 0, 0)) (by decide +kernel) rfl
  · exact am_run_next (x := (.aload_n 0, 1, 0, 0, 0, 0)) (by decide +kernel) rfl
theorem r_H_init_115 {G : Nat → Value} {d : Nat} {st : List Value} {M : am_M} {l0 l1 : Option Value} : am_run G d K_H_init (115, [l0, l1], st, M) = am_run G d K_H_init (116, [l0, l1], .int (-1) :: st, M) := am_run_next (x := (.iconst (-1), 1, 0, 0, 0, 0)) (by decide +kernel) rfl
theorem r_H_init_116 {G : Nat → Value} {d : Nat} {st : List Value} {M : am_M} {l0 l1 : Option Value} {a : Nat} {v : Value} : am_run G d K_H_init (116, [l0, l1], v :: .ref a :: st, M) = am_km G d K_H_init 119 [l0, l1] st (am_pf M a 9 17 .int v) := am_run_km (x := (.putfield 63, 3, 9, 17, 2141, 0)) (by decide +kernel) rfl
theorem r_H_init_119 {G : Nat → Value} {d : Nat} {st : List Value} {M : am_M} {l0 l1 : Option Value} : am_run G d K_H_init (119, [l0, l1], st, M) = am_run G d K_H_init (120, [l0, l1], .int 0 :: st, M) := am_run_next (x := (.iconst 0, 1, 0, 0, 0, 0)) (by decide +kernel) rfl
theorem r_H_init_120 {G : Nat → Value} {d : Nat} {st : List Value} {M : am_M} {l0 l1 : Option Value} {v : Int32} (hc : am_c1 l0 = true) : am_run G d K_H_init (120, [l0, l1], .int v :: st, M) = am_run G d K_H_init (121, [l0, some (.int v)], st, M) := by
  rcases am_c1_cases hc with rfl | ⟨q, rfl⟩ | ⟨q, rfl⟩ | rfl
  · exact am_run_next (x := (.istore_n 1, 1, 0, 0, 0, 0)) (by decide +kernel) rfl
  · exact am_run_next (x := (.istore_n 1, 1, 0, 0, 0, 0)) (by decide +kernel) rfl
  · exact am_run_next (x := (.istore_n 1, 1, 0, 0, 0, 0)) (by decide +kernel) rfl
  · exact am_run_next (x := (.istore_n 1, 1, 0, 0, 0, 0)) (by decide +kernel) rfl
theorem r_H_init_120_k {G : Nat → Value} {d : Nat} {st : List Value} {M : am_M} {l1 : Option Value} {v : Int32} {z : Int64} : am_run G d K_H_init (120, [some (.long z), l1], .int v :: st, M) = am_run G d K_H_init (121, [none, some (.int v)], st, M) := am_run_next (x := (.istore_n 1, 1, 0, 0, 0, 0)) (by decide +kernel) rfl
theorem r_H_init_121 {G : Nat → Value} {d : Nat} {st : List Value} {M : am_M} {l0 : Option Value} {v : Int32} : am_run G d K_H_init (121, [l0, some (.int v)], st, M) = am_run G d K_H_init (122, [l0, some (.int v)], .int v :: st, M) := am_run_next (x := (.iload_n 1, 1, 0, 0, 0, 0)) (by decide +kernel) rfl
theorem r_H_init_122 {G : Nat → Value} {d : Nat} {st : List Value} {M : am_M} {l0 l1 : Option Value} : am_run G d K_H_init (122, [l0, l1], st, M) = am_run G d K_H_init (124, [l0, l1], G 10 :: st, M) := am_run_next (x := (.ldc 67, 2, 1, 10, 1123, 0)) (by decide +kernel) rfl
theorem r_H_init_124 {G : Nat → Value} {d : Nat} {st : List Value} {M : am_M} {l0 l1 : Option Value} {q : Nat} (hq : am_cls M q = some 11) (h8 : am_sw st ≤ 8) : am_run G d K_H_init (124, [l0, l1], .ref q :: st, M) = am_k G d K_H_init 127 [l0, l1] st (am_ex G d K_Js_length [.ref q] M) := am_run_iv (i := 69) (n := 0) (pl := 1124) (Bs := []) (z := K_Js_length) (by decide +kernel) hq h8 rfl (Nat.le_of_ble_eq_true rfl) rfl
theorem r_H_init_127 {G : Nat → Value} {d : Nat} {st : List Value} {M : am_M} {l0 l1 : Option Value} {a b : Int32} : am_run G d K_H_init (127, [l0, l1], .int b :: .int a :: st, M) = if b ≤ a then am_run G d K_H_init (149, [l0, l1], st, M) else am_run G d K_H_init (130, [l0, l1], st, M) := by
  split
  · next h => exact am_run_next (x := (.if_icmp .ge 22, 3, 0, 0, 0, 0)) (by decide +kernel) (am_br_t (decide_eq_true h) (by decide))
  · next h => exact am_run_next (x := (.if_icmp .ge 22, 3, 0, 0, 0, 0)) (by decide +kernel) (am_br_f (decide_eq_false h) (by decide))
theorem r_H_init_130 {G : Nat → Value} {d : Nat} {st : List Value} {M : am_M} {l1 : Option Value} {v : Value} (hv : am_isr v = true) : am_run G d K_H_init (130, [some v, l1], st, M) = am_run G d K_H_init (131, [some v, l1], v :: st, M) := by
  rcases am_isr_cases hv with ⟨q, rfl⟩ | rfl
  · exact am_run_next (x := (.aload_n 0, 1, 0, 0, 0, 0)) (by decide +kernel) rfl
  · exact am_run_next (x := (.aload_n 0, 1, 0, 0, 0, 0)) (by decide +kernel) rfl
theorem r_H_init_131 {G : Nat → Value} {d : Nat} {st : List Value} {M : am_M} {l0 l1 : Option Value} {a : Nat} : am_run G d K_H_init (131, [l0, l1], .ref a :: st, M) = am_kf G d K_H_init 134 [l0, l1] st M (am_fld M a 9 11) := am_run_kf (x := (.getfield 46, 3, 9, 11, 2135, 0)) (by decide +kernel) rfl
theorem r_H_init_134 {G : Nat → Value} {d : Nat} {st : List Value} {M : am_M} {l0 l1 : Option Value} : am_run G d K_H_init (134, [l0, l1], st, M) = am_run G d K_H_init (136, [l0, l1], G 10 :: st, M) := am_run_next (x := (.ldc 67, 2, 1, 10, 1123, 0)) (by decide +kernel) rfl
theorem r_H_init_136 {G : Nat → Value} {d : Nat} {st : List Value} {M : am_M} {l0 : Option Value} {v : Int32} : am_run G d K_H_init (136, [l0, some (.int v)], st, M) = am_run G d K_H_init (137, [l0, some (.int v)], .int v :: st, M) := am_run_next (x := (.iload_n 1, 1, 0, 0, 0, 0)) (by decide +kernel) rfl
theorem r_H_init_137 {G : Nat → Value} {d : Nat} {st : List Value} {M : am_M} {l0 l1 : Option Value} {q : Nat} {a0 : Int32} (hq : am_cls M q = some 11) (h8 : am_sw st ≤ 8) : am_run G d K_H_init (137, [l0, l1], .int a0 :: .ref q :: st, M) = am_k G d K_H_init 140 [l0, l1] st (am_ex G d K_Js_charAt [.ref q, .int a0] M) := am_run_iv (i := 75) (n := 1) (pl := 1134) (Bs := [.int a0]) (z := K_Js_charAt) (by decide +kernel) hq h8 rfl (Nat.le_of_ble_eq_true rfl) rfl
theorem r_H_init_140 {G : Nat → Value} {d : Nat} {st : List Value} {M : am_M} {l0 l1 : Option Value} {q : Nat} {a0 : Int32} (hq : am_cls M q = some 7) (h8 : am_sw st ≤ 8) : am_run G d K_H_init (140, [l0, l1], .int a0 :: .ref q :: st, M) = am_k G d K_H_init 143 [l0, l1] st (am_ex G d K_Ta_append [.ref q, .int a0] M) := am_run_iv (i := 79) (n := 1) (pl := 1172) (Bs := [.int a0]) (z := K_Ta_append) (by decide +kernel) hq h8 rfl (Nat.le_of_ble_eq_true rfl) rfl
theorem r_H_init_143 {G : Nat → Value} {d : Nat} {st : List Value} {M : am_M} {l0 : Option Value} {v : Int32} (hc : am_c1 l0 = true) : am_run G d K_H_init (143, [l0, some (.int v)], st, M) = am_run G d K_H_init (146, [l0, some (.int (v + 1))], st, M) := by
  rcases am_c1_cases hc with rfl | ⟨q, rfl⟩ | ⟨q, rfl⟩ | rfl
  · exact am_run_next (x := (.iinc 1 1, 3, 0, 0, 0, 0)) (by decide +kernel) rfl
  · exact am_run_next (x := (.iinc 1 1, 3, 0, 0, 0, 0)) (by decide +kernel) rfl
  · exact am_run_next (x := (.iinc 1 1, 3, 0, 0, 0, 0)) (by decide +kernel) rfl
  · exact am_run_next (x := (.iinc 1 1, 3, 0, 0, 0, 0)) (by decide +kernel) rfl
theorem r_H_init_143_k {G : Nat → Value} {d : Nat} {st : List Value} {M : am_M} {v : Int32} {z : Int64} : am_run G d K_H_init (143, [some (.long z), some (.int v)], st, M) = am_run G d K_H_init (146, [none, some (.int (v + 1))], st, M) := am_run_next (x := (.iinc 1 1, 3, 0, 0, 0, 0)) (by decide +kernel) rfl
theorem r_H_init_146 {G : Nat → Value} {d : Nat} {st : List Value} {M : am_M} {l0 l1 : Option Value} : am_run G d K_H_init (146, [l0, l1], st, M) = am_run G d K_H_init (121, [l0, l1], st, M) := am_run_next (x := (.goto (-25), 3, 0, 0, 0, 0)) (by decide +kernel) rfl
theorem r_H_init_149 {G : Nat → Value} {d : Nat} {st : List Value} {M : am_M} {l1 : Option Value} {v : Value} (hv : am_isr v = true) : am_run G d K_H_init (149, [some v, l1], st, M) = am_run G d K_H_init (150, [some v, l1], v :: st, M) := by
  rcases am_isr_cases hv with ⟨q, rfl⟩ | rfl
  · exact am_run_next (x := (.aload_n 0, 1, 0, 0, 0, 0)) (by decide +kernel) rfl
  · exact am_run_next (x := (.aload_n 0, 1, 0, 0, 0, 0)) (by decide +kernel) rfl
theorem r_H_init_150 {G : Nat → Value} {d : Nat} {st : List Value} {M : am_M} {l0 l1 : Option Value} {a : Nat} : am_run G d K_H_init (150, [l0, l1], .ref a :: st, M) = am_kf G d K_H_init 153 [l0, l1] st M (am_fld M a 9 3) := am_run_kf (x := (.getfield 29, 3, 9, 3, 2127, 0)) (by decide +kernel) rfl
theorem r_H_init_153 {G : Nat → Value} {d : Nat} {st : List Value} {M : am_M} {l0 l1 : Option Value} : am_run G d K_H_init (153, [l0, l1], st, M) = am_run G d K_H_init (154, [l0, l1], .int 0 :: st, M) := am_run_next (x := (.iconst 0, 1, 0, 0, 0, 0)) (by decide +kernel) rfl
theorem r_H_init_154 {G : Nat → Value} {d : Nat} {st : List Value} {M : am_M} {l1 : Option Value} {v : Value} (hv : am_isr v = true) : am_run G d K_H_init (154, [some v, l1], st, M) = am_run G d K_H_init (155, [some v, l1], v :: st, M) := by
  rcases am_isr_cases hv with ⟨q, rfl⟩ | rfl
  · exact am_run_next (x := (.aload_n 0, 1, 0, 0, 0, 0)) (by decide +kernel) rfl
  · exact am_run_next (x := (.aload_n 0, 1, 0, 0, 0, 0)) (by decide +kernel) rfl
theorem r_H_init_155 {G : Nat → Value} {d : Nat} {st : List Value} {M : am_M} {l0 l1 : Option Value} {a : Nat} : am_run G d K_H_init (155, [l0, l1], .ref a :: st, M) = am_kf G d K_H_init 158 [l0, l1] st M (am_fld M a 9 11) := am_run_kf (x := (.getfield 46, 3, 9, 11, 2135, 0)) (by decide +kernel) rfl
theorem r_H_init_158 {G : Nat → Value} {d : Nat} {st : List Value} {M : am_M} {l0 l1 : Option Value} {q : Nat} (hq : am_cls M q = some 7) (h8 : am_sw st ≤ 8) : am_run G d K_H_init (158, [l0, l1], .ref q :: st, M) = am_k G d K_H_init 161 [l0, l1] st (am_ex G d K_Ta_read [.ref q] M) := am_run_iv (i := 83) (n := 0) (pl := 1176) (Bs := []) (z := K_Ta_read) (by decide +kernel) hq h8 rfl (Nat.le_of_ble_eq_true rfl) rfl
theorem r_H_init_161 {G : Nat → Value} {d : Nat} {st : List Value} {M : am_M} {l0 l1 : Option Value} {a v : Nat} {i : Int32} : am_run G d K_H_init (161, [l0, l1], .ref v :: .int i :: .ref a :: st, M) = am_km G d K_H_init 162 [l0, l1] st (am_pr M a i v) := am_run_km (x := (.aastore, 1, 0, 0, 0, 0)) (by decide +kernel) rfl
theorem r_H_init_162 {G : Nat → Value} {d : Nat} {st : List Value} {M : am_M} {l1 : Option Value} {v : Value} (hv : am_isr v = true) : am_run G d K_H_init (162, [some v, l1], st, M) = am_run G d K_H_init (163, [some v, l1], v :: st, M) := by
  rcases am_isr_cases hv with ⟨q, rfl⟩ | rfl
  · exact am_run_next (x := (.aload_n 0, 1, 0, 0, 0, 0)) (by decide +kernel) rfl
  · exact am_run_next (x := (.aload_n 0, 1, 0, 0, 0, 0)) (by decide +kernel) rfl
theorem r_H_init_163 {G : Nat → Value} {d : Nat} {st : List Value} {M : am_M} {l0 l1 : Option Value} : am_run G d K_H_init (163, [l0, l1], st, M) = am_run G d K_H_init (164, [l0, l1], .int 1 :: st, M) := am_run_next (x := (.iconst 1, 1, 0, 0, 0, 0)) (by decide +kernel) rfl
theorem r_H_init_164 {G : Nat → Value} {d : Nat} {st : List Value} {M : am_M} {l0 l1 : Option Value} {a : Nat} {v : Value} : am_run G d K_H_init (164, [l0, l1], v :: .ref a :: st, M) = am_km G d K_H_init 167 [l0, l1] st (am_pf M a 9 8 .int v) := am_run_km (x := (.putfield 87, 3, 9, 8, 2132, 0)) (by decide +kernel) rfl
theorem r_H_init_167 {G : Nat → Value} {d : Nat} {st : List Value} {M : am_M} {l0 l1 : Option Value} : am_run G d K_H_init (167, [l0, l1], st, M) = am_run G d K_H_init (168, [l0, l1], .int 0 :: st, M) := am_run_next (x := (.iconst 0, 1, 0, 0, 0, 0)) (by decide +kernel) rfl
theorem r_H_init_168 {G : Nat → Value} {d : Nat} {st : List Value} {M : am_M} {l0 l1 : Option Value} {v : Int32} (hc : am_c1 l0 = true) : am_run G d K_H_init (168, [l0, l1], .int v :: st, M) = am_run G d K_H_init (169, [l0, some (.int v)], st, M) := by
  rcases am_c1_cases hc with rfl | ⟨q, rfl⟩ | ⟨q, rfl⟩ | rfl
  · exact am_run_next (x := (.istore_n 1, 1, 0, 0, 0, 0)) (by decide +kernel) rfl
  · exact am_run_next (x := (.istore_n 1, 1, 0, 0, 0, 0)) (by decide +kernel) rfl
  · exact am_run_next (x := (.istore_n 1, 1, 0, 0, 0, 0)) (by decide +kernel) rfl
  · exact am_run_next (x := (.istore_n 1, 1, 0, 0, 0, 0)) (by decide +kernel) rfl
theorem r_H_init_168_k {G : Nat → Value} {d : Nat} {st : List Value} {M : am_M} {l1 : Option Value} {v : Int32} {z : Int64} : am_run G d K_H_init (168, [some (.long z), l1], .int v :: st, M) = am_run G d K_H_init (169, [none, some (.int v)], st, M) := am_run_next (x := (.istore_n 1, 1, 0, 0, 0, 0)) (by decide +kernel) rfl
theorem r_H_init_169 {G : Nat → Value} {d : Nat} {st : List Value} {M : am_M} {l0 : Option Value} {v : Int32} : am_run G d K_H_init (169, [l0, some (.int v)], st, M) = am_run G d K_H_init (170, [l0, some (.int v)], .int v :: st, M) := am_run_next (x := (.iload_n 1, 1, 0, 0, 0, 0)) (by decide +kernel) rfl
theorem r_H_init_170 {G : Nat → Value} {d : Nat} {st : List Value} {M : am_M} {l1 : Option Value} {v : Value} (hv : am_isr v = true) : am_run G d K_H_init (170, [some v, l1], st, M) = am_run G d K_H_init (171, [some v, l1], v :: st, M) := by
  rcases am_isr_cases hv with ⟨q, rfl⟩ | rfl
  · exact am_run_next (x := (.aload_n 0, 1, 0, 0, 0, 0)) (by decide +kernel) rfl
  · exact am_run_next (x := (.aload_n 0, 1, 0, 0, 0, 0)) (by decide +kernel) rfl
theorem r_H_init_171 {G : Nat → Value} {d : Nat} {st : List Value} {M : am_M} {l0 l1 : Option Value} {a : Nat} : am_run G d K_H_init (171, [l0, l1], .ref a :: st, M) = am_kf G d K_H_init 174 [l0, l1] st M (am_fld M a 9 4) := am_run_kf (x := (.getfield 35, 3, 9, 4, 2128, 0)) (by decide +kernel) rfl
theorem r_H_init_174 {G : Nat → Value} {d : Nat} {st : List Value} {M : am_M} {l0 l1 : Option Value} {a : Nat} : am_run G d K_H_init (174, [l0, l1], .ref a :: st, M) = am_kn G d K_H_init 175 [l0, l1] st M (am_len M a) := am_run_kn (x := (.arraylength, 1, 0, 0, 0, 0)) (by decide +kernel) rfl
theorem r_H_init_175 {G : Nat → Value} {d : Nat} {st : List Value} {M : am_M} {l0 l1 : Option Value} {a b : Int32} : am_run G d K_H_init (175, [l0, l1], .int b :: .int a :: st, M) = if b ≤ a then am_run G d K_H_init (197, [l0, l1], st, M) else am_run G d K_H_init (178, [l0, l1], st, M) := by
  split
  · next h => exact am_run_next (x := (.if_icmp .ge 22, 3, 0, 0, 0, 0)) (by decide +kernel) (am_br_t (decide_eq_true h) (by decide))
  · next h => exact am_run_next (x := (.if_icmp .ge 22, 3, 0, 0, 0, 0)) (by decide +kernel) (am_br_f (decide_eq_false h) (by decide))
theorem r_H_init_178 {G : Nat → Value} {d : Nat} {st : List Value} {M : am_M} {l1 : Option Value} {v : Value} (hv : am_isr v = true) : am_run G d K_H_init (178, [some v, l1], st, M) = am_run G d K_H_init (179, [some v, l1], v :: st, M) := by
  rcases am_isr_cases hv with ⟨q, rfl⟩ | rfl
  · exact am_run_next (x := (.aload_n 0, 1, 0, 0, 0, 0)) (by decide +kernel) rfl
  · exact am_run_next (x := (.aload_n 0, 1, 0, 0, 0, 0)) (by decide +kernel) rfl
theorem r_H_init_179 {G : Nat → Value} {d : Nat} {st : List Value} {M : am_M} {l0 l1 : Option Value} {a : Nat} : am_run G d K_H_init (179, [l0, l1], .ref a :: st, M) = am_kf G d K_H_init 182 [l0, l1] st M (am_fld M a 9 4) := am_run_kf (x := (.getfield 35, 3, 9, 4, 2128, 0)) (by decide +kernel) rfl
theorem r_H_init_182 {G : Nat → Value} {d : Nat} {st : List Value} {M : am_M} {l0 : Option Value} {v : Int32} : am_run G d K_H_init (182, [l0, some (.int v)], st, M) = am_run G d K_H_init (183, [l0, some (.int v)], .int v :: st, M) := am_run_next (x := (.iload_n 1, 1, 0, 0, 0, 0)) (by decide +kernel) rfl
theorem r_H_init_183 {G : Nat → Value} {d : Nat} {st : List Value} {M : am_M} {l0 l1 : Option Value} : am_run G d K_H_init (183, [l0, l1], st, M) = am_run G d K_H_init (186, [l0, l1], .ref M.1 :: st, am_add M (.inr (4, [.int 0, .int 0, .null]))) := am_run_next (x := (.new 33, 3, 4, 0, 1037, 0)) (by decide +kernel) rfl
theorem r_H_init_186 {G : Nat → Value} {d : Nat} {st : List Value} {M : am_M} {l0 l1 : Option Value} {v : Value} (hv : v.category = 1) : am_run G d K_H_init (186, [l0, l1], v :: st, M) = am_run G d K_H_init (187, [l0, l1], v :: v :: st, M) := am_run_next (x := (.dup, 1, 0, 0, 0, 0)) (by decide +kernel) (if_pos hv)
theorem r_H_init_187 {G : Nat → Value} {d : Nat} {st : List Value} {M : am_M} {l0 l1 : Option Value} {q : Nat} (h8 : am_sw st ≤ 8) : am_run G d K_H_init (187, [l0, l1], .ref q :: st, M) = am_k G d K_H_init 190 [l0, l1] st (am_ex G d K_Sh_init [.ref q] M) := am_run_ip (i := 90) (n := 0) (pl := 2107) (Bs := []) (z := K_Sh_init) (v := 3) (by decide) (by decide +kernel) h8 rfl (Nat.le_of_ble_eq_true rfl) rfl
theorem r_H_init_190 {G : Nat → Value} {d : Nat} {st : List Value} {M : am_M} {l0 l1 : Option Value} {a v : Nat} {i : Int32} : am_run G d K_H_init (190, [l0, l1], .ref v :: .int i :: .ref a :: st, M) = am_km G d K_H_init 191 [l0, l1] st (am_pr M a i v) := am_run_km (x := (.aastore, 1, 0, 0, 0, 0)) (by decide +kernel) rfl
theorem r_H_init_191 {G : Nat → Value} {d : Nat} {st : List Value} {M : am_M} {l0 : Option Value} {v : Int32} (hc : am_c1 l0 = true) : am_run G d K_H_init (191, [l0, some (.int v)], st, M) = am_run G d K_H_init (194, [l0, some (.int (v + 1))], st, M) := by
  rcases am_c1_cases hc with rfl | ⟨q, rfl⟩ | ⟨q, rfl⟩ | rfl
  · exact am_run_next (x := (.iinc 1 1, 3, 0, 0, 0, 0)) (by decide +kernel) rfl
  · exact am_run_next (x := (.iinc 1 1, 3, 0, 0, 0, 0)) (by decide +kernel) rfl
  · exact am_run_next (x := (.iinc 1 1, 3, 0, 0, 0, 0)) (by decide +kernel) rfl
  · exact am_run_next (x := (.iinc 1 1, 3, 0, 0, 0, 0)) (by decide +kernel) rfl
theorem r_H_init_191_k {G : Nat → Value} {d : Nat} {st : List Value} {M : am_M} {v : Int32} {z : Int64} : am_run G d K_H_init (191, [some (.long z), some (.int v)], st, M) = am_run G d K_H_init (194, [none, some (.int (v + 1))], st, M) := am_run_next (x := (.iinc 1 1, 3, 0, 0, 0, 0)) (by decide +kernel) rfl
theorem r_H_init_194 {G : Nat → Value} {d : Nat} {st : List Value} {M : am_M} {l0 l1 : Option Value} : am_run G d K_H_init (194, [l0, l1], st, M) = am_run G d K_H_init (169, [l0, l1], st, M) := am_run_next (x := (.goto (-25), 3, 0, 0, 0, 0)) (by decide +kernel) rfl
theorem r_H_init_197 {G : Nat → Value} {d : Nat} {M : am_M} {l0 l1 : Option Value} : am_run G d K_H_init (197, [l0, l1], [], M) = some (none, M) := am_run_ret (x := (.return_, 1, 0, 0, 0, 0)) (by decide +kernel) rfl
theorem r_Ta_init_0 {G : Nat → Value} {d : Nat} {st : List Value} {M : am_M} {v : Value} (hv : am_isr v = true) : am_run G d K_Ta_init (0, [some v], st, M) = am_run G d K_Ta_init (1, [some v], v :: st, M) := by
  rcases am_isr_cases hv with ⟨q, rfl⟩ | rfl
  · exact am_run_next (x := (.aload_n 0, 1, 0, 0, 0, 0)) (by decide +kernel) rfl
  · exact am_run_next (x := (.aload_n 0, 1, 0, 0, 0, 0)) (by decide +kernel) rfl
theorem r_Ta_init_1 {G : Nat → Value} {d : Nat} {st : List Value} {M : am_M} {l0 : Option Value} {a : Nat} (h8 : am_sw st ≤ 8) : am_run G d K_Ta_init (1, [l0], .ref a :: st, M) = am_run G d K_Ta_init (4, [l0], st, M) := am_run_next (x := (.invokespecial 3, 3, 0, 0, 1044, 5)) (by decide +kernel) (if_pos h8)
theorem r_Ta_init_4 {G : Nat → Value} {d : Nat} {st : List Value} {M : am_M} {v : Value} (hv : am_isr v = true) : am_run G d K_Ta_init (4, [some v], st, M) = am_run G d K_Ta_init (5, [some v], v :: st, M) := by
  rcases am_isr_cases hv with ⟨q, rfl⟩ | rfl
  · exact am_run_next (x := (.aload_n 0, 1, 0, 0, 0, 0)) (by decide +kernel) rfl
  · exact am_run_next (x := (.aload_n 0, 1, 0, 0, 0, 0)) (by decide +kernel) rfl
theorem r_Ta_init_5 {G : Nat → Value} {d : Nat} {st : List Value} {M : am_M} {l0 : Option Value} : am_run G d K_Ta_init (5, [l0], st, M) = am_run G d K_Ta_init (8, [l0], .int 160 :: st, M) := am_run_next (x := (.sipush 160, 3, 0, 0, 0, 0)) (by decide +kernel) rfl
theorem r_Ta_init_8 {G : Nat → Value} {d : Nat} {st : List Value} {M : am_M} {l0 : Option Value} {n : Int32} : am_run G d K_Ta_init (8, [l0], .int n :: st, M) = am_km G d K_Ta_init 10 [l0] (.ref M.1 :: st) (am_newa (some (0, .inl (fun _ => 0))) n M) := am_run_km (x := (.newarray .int, 2, 0, 0, 0, 0)) (by decide +kernel) rfl
theorem r_Ta_init_10 {G : Nat → Value} {d : Nat} {st : List Value} {M : am_M} {l0 : Option Value} {a : Nat} {v : Value} : am_run G d K_Ta_init (10, [l0], v :: .ref a :: st, M) = am_km G d K_Ta_init 13 [l0] st (am_pf M a 7 0 (am_fty 7 0) v) := am_run_km (x := (.putfield 9, 3, 7, 0, 1045, 0)) (by decide +kernel) rfl
theorem r_Ta_init_13 {G : Nat → Value} {d : Nat} {st : List Value} {M : am_M} {v : Value} (hv : am_isr v = true) : am_run G d K_Ta_init (13, [some v], st, M) = am_run G d K_Ta_init (14, [some v], v :: st, M) := by
  rcases am_isr_cases hv with ⟨q, rfl⟩ | rfl
  · exact am_run_next (x := (.aload_n 0, 1, 0, 0, 0, 0)) (by decide +kernel) rfl
  · exact am_run_next (x := (.aload_n 0, 1, 0, 0, 0, 0)) (by decide +kernel) rfl
theorem r_Ta_init_14 {G : Nat → Value} {d : Nat} {st : List Value} {M : am_M} {l0 : Option Value} : am_run G d K_Ta_init (14, [l0], st, M) = am_run G d K_Ta_init (17, [l0], .int 160 :: st, M) := am_run_next (x := (.sipush 160, 3, 0, 0, 0, 0)) (by decide +kernel) rfl
theorem r_Ta_init_17 {G : Nat → Value} {d : Nat} {st : List Value} {M : am_M} {l0 : Option Value} {n : Int32} : am_run G d K_Ta_init (17, [l0], .int n :: st, M) = am_km G d K_Ta_init 19 [l0] (.ref M.1 :: st) (am_newa (some (0, .inl (fun _ => 0))) n M) := am_run_km (x := (.newarray .int, 2, 0, 0, 0, 0)) (by decide +kernel) rfl
theorem r_Ta_init_19 {G : Nat → Value} {d : Nat} {st : List Value} {M : am_M} {l0 : Option Value} {a : Nat} {v : Value} : am_run G d K_Ta_init (19, [l0], v :: .ref a :: st, M) = am_km G d K_Ta_init 22 [l0] st (am_pf M a 7 7 (am_fty 7 7) v) := am_run_km (x := (.putfield 15, 3, 7, 7, 1054, 0)) (by decide +kernel) rfl
theorem r_Ta_init_22 {G : Nat → Value} {d : Nat} {M : am_M} {l0 : Option Value} : am_run G d K_Ta_init (22, [l0], [], M) = some (none, M) := am_run_ret (x := (.return_, 1, 0, 0, 0, 0)) (by decide +kernel) rfl
theorem r_Sp_init_0 {G : Nat → Value} {d : Nat} {st : List Value} {M : am_M} {v : Value} (hv : am_isr v = true) : am_run G d K_Sp_init (0, [some v], st, M) = am_run G d K_Sp_init (1, [some v], v :: st, M) := by
  rcases am_isr_cases hv with ⟨q, rfl⟩ | rfl
  · exact am_run_next (x := (.aload_n 0, 1, 0, 0, 0, 0)) (by decide +kernel) rfl
  · exact am_run_next (x := (.aload_n 0, 1, 0, 0, 0, 0)) (by decide +kernel) rfl
theorem r_Sp_init_1 {G : Nat → Value} {d : Nat} {st : List Value} {M : am_M} {l0 : Option Value} {a : Nat} (h8 : am_sw st ≤ 8) : am_run G d K_Sp_init (1, [l0], .ref a :: st, M) = am_run G d K_Sp_init (4, [l0], st, M) := am_run_next (x := (.invokespecial 3, 3, 0, 0, 1081, 5)) (by decide +kernel) (if_pos h8)
theorem r_Sp_init_4 {G : Nat → Value} {d : Nat} {st : List Value} {M : am_M} {v : Value} (hv : am_isr v = true) : am_run G d K_Sp_init (4, [some v], st, M) = am_run G d K_Sp_init (5, [some v], v :: st, M) := by
  rcases am_isr_cases hv with ⟨q, rfl⟩ | rfl
  · exact am_run_next (x := (.aload_n 0, 1, 0, 0, 0, 0)) (by decide +kernel) rfl
  · exact am_run_next (x := (.aload_n 0, 1, 0, 0, 0, 0)) (by decide +kernel) rfl
theorem r_Sp_init_5 {G : Nat → Value} {d : Nat} {st : List Value} {M : am_M} {l0 : Option Value} : am_run G d K_Sp_init (5, [l0], st, M) = am_run G d K_Sp_init (7, [l0], .int 40 :: st, M) := am_run_next (x := (.bipush 40, 2, 0, 0, 0, 0)) (by decide +kernel) rfl
theorem r_Sp_init_7 {G : Nat → Value} {d : Nat} {st : List Value} {M : am_M} {l0 : Option Value} {n : Int32} : am_run G d K_Sp_init (7, [l0], .int n :: st, M) = am_km G d K_Sp_init 10 [l0] (.ref M.1 :: st) (am_newa (some (13, .inr (.inr (.inr (.inr (fun _ => none)))))) n M) := am_run_km (x := (.anewarray 9, 3, 3, 0, 1082, 0)) (by decide +kernel) rfl
theorem r_Sp_init_10 {G : Nat → Value} {d : Nat} {st : List Value} {M : am_M} {l0 : Option Value} {a : Nat} {v : Value} : am_run G d K_Sp_init (10, [l0], v :: .ref a :: st, M) = am_km G d K_Sp_init 13 [l0] st (am_pf M a 5 1 (am_fty 5 1) v) := am_run_km (x := (.putfield 11, 3, 5, 1, 1085, 0)) (by decide +kernel) rfl
theorem r_Sp_init_13 {G : Nat → Value} {d : Nat} {st : List Value} {M : am_M} {v : Value} (hv : am_isr v = true) : am_run G d K_Sp_init (13, [some v], st, M) = am_run G d K_Sp_init (14, [some v], v :: st, M) := by
  rcases am_isr_cases hv with ⟨q, rfl⟩ | rfl
  · exact am_run_next (x := (.aload_n 0, 1, 0, 0, 0, 0)) (by decide +kernel) rfl
  · exact am_run_next (x := (.aload_n 0, 1, 0, 0, 0, 0)) (by decide +kernel) rfl
theorem r_Sp_init_14 {G : Nat → Value} {d : Nat} {st : List Value} {M : am_M} {l0 : Option Value} : am_run G d K_Sp_init (14, [l0], st, M) = am_run G d K_Sp_init (16, [l0], .int 40 :: st, M) := am_run_next (x := (.bipush 40, 2, 0, 0, 0, 0)) (by decide +kernel) rfl
theorem r_Sp_init_16 {G : Nat → Value} {d : Nat} {st : List Value} {M : am_M} {l0 : Option Value} {n : Int32} : am_run G d K_Sp_init (16, [l0], .int n :: st, M) = am_km G d K_Sp_init 18 [l0] (.ref M.1 :: st) (am_newa (some (0, .inl (fun _ => 0))) n M) := am_run_km (x := (.newarray .int, 2, 0, 0, 0, 0)) (by decide +kernel) rfl
theorem r_Sp_init_18 {G : Nat → Value} {d : Nat} {st : List Value} {M : am_M} {l0 : Option Value} {a : Nat} {v : Value} : am_run G d K_Sp_init (18, [l0], v :: .ref a :: st, M) = am_km G d K_Sp_init 21 [l0] st (am_pf M a 5 2 (am_fty 5 2) v) := am_run_km (x := (.putfield 17, 3, 5, 2, 1086, 0)) (by decide +kernel) rfl
theorem r_Sp_init_21 {G : Nat → Value} {d : Nat} {st : List Value} {M : am_M} {v : Value} (hv : am_isr v = true) : am_run G d K_Sp_init (21, [some v], st, M) = am_run G d K_Sp_init (22, [some v], v :: st, M) := by
  rcases am_isr_cases hv with ⟨q, rfl⟩ | rfl
  · exact am_run_next (x := (.aload_n 0, 1, 0, 0, 0, 0)) (by decide +kernel) rfl
  · exact am_run_next (x := (.aload_n 0, 1, 0, 0, 0, 0)) (by decide +kernel) rfl
theorem r_Sp_init_22 {G : Nat → Value} {d : Nat} {st : List Value} {M : am_M} {l0 : Option Value} : am_run G d K_Sp_init (22, [l0], st, M) = am_run G d K_Sp_init (24, [l0], .int 40 :: st, M) := am_run_next (x := (.bipush 40, 2, 0, 0, 0, 0)) (by decide +kernel) rfl
theorem r_Sp_init_24 {G : Nat → Value} {d : Nat} {st : List Value} {M : am_M} {l0 : Option Value} {n : Int32} : am_run G d K_Sp_init (24, [l0], .int n :: st, M) = am_km G d K_Sp_init 26 [l0] (.ref M.1 :: st) (am_newa (some (1, .inr (.inl (fun _ => 0)))) n M) := am_run_km (x := (.newarray .long, 2, 0, 0, 0, 0)) (by decide +kernel) rfl
theorem r_Sp_init_26 {G : Nat → Value} {d : Nat} {st : List Value} {M : am_M} {l0 : Option Value} {a : Nat} {v : Value} : am_run G d K_Sp_init (26, [l0], v :: .ref a :: st, M) = am_km G d K_Sp_init 29 [l0] st (am_pf M a 5 3 (am_fty 5 3) v) := am_run_km (x := (.putfield 21, 3, 5, 3, 1087, 0)) (by decide +kernel) rfl
theorem r_Sp_init_29 {G : Nat → Value} {d : Nat} {st : List Value} {M : am_M} {v : Value} (hv : am_isr v = true) : am_run G d K_Sp_init (29, [some v], st, M) = am_run G d K_Sp_init (30, [some v], v :: st, M) := by
  rcases am_isr_cases hv with ⟨q, rfl⟩ | rfl
  · exact am_run_next (x := (.aload_n 0, 1, 0, 0, 0, 0)) (by decide +kernel) rfl
  · exact am_run_next (x := (.aload_n 0, 1, 0, 0, 0, 0)) (by decide +kernel) rfl
theorem r_Sp_init_30 {G : Nat → Value} {d : Nat} {st : List Value} {M : am_M} {l0 : Option Value} : am_run G d K_Sp_init (30, [l0], st, M) = am_run G d K_Sp_init (32, [l0], .int 40 :: st, M) := am_run_next (x := (.bipush 40, 2, 0, 0, 0, 0)) (by decide +kernel) rfl
theorem r_Sp_init_32 {G : Nat → Value} {d : Nat} {st : List Value} {M : am_M} {l0 : Option Value} {n : Int32} : am_run G d K_Sp_init (32, [l0], .int n :: st, M) = am_km G d K_Sp_init 34 [l0] (.ref M.1 :: st) (am_newa (some (1, .inr (.inl (fun _ => 0)))) n M) := am_run_km (x := (.newarray .long, 2, 0, 0, 0, 0)) (by decide +kernel) rfl
theorem r_Sp_init_34 {G : Nat → Value} {d : Nat} {st : List Value} {M : am_M} {l0 : Option Value} {a : Nat} {v : Value} : am_run G d K_Sp_init (34, [l0], v :: .ref a :: st, M) = am_km G d K_Sp_init 37 [l0] st (am_pf M a 5 4 (am_fty 5 4) v) := am_run_km (x := (.putfield 25, 3, 5, 4, 1088, 0)) (by decide +kernel) rfl
theorem r_Sp_init_37 {G : Nat → Value} {d : Nat} {st : List Value} {M : am_M} {v : Value} (hv : am_isr v = true) : am_run G d K_Sp_init (37, [some v], st, M) = am_run G d K_Sp_init (38, [some v], v :: st, M) := by
  rcases am_isr_cases hv with ⟨q, rfl⟩ | rfl
  · exact am_run_next (x := (.aload_n 0, 1, 0, 0, 0, 0)) (by decide +kernel) rfl
  · exact am_run_next (x := (.aload_n 0, 1, 0, 0, 0, 0)) (by decide +kernel) rfl
theorem r_Sp_init_38 {G : Nat → Value} {d : Nat} {st : List Value} {M : am_M} {l0 : Option Value} : am_run G d K_Sp_init (38, [l0], st, M) = am_run G d K_Sp_init (40, [l0], .int 40 :: st, M) := am_run_next (x := (.bipush 40, 2, 0, 0, 0, 0)) (by decide +kernel) rfl
theorem r_Sp_init_40 {G : Nat → Value} {d : Nat} {st : List Value} {M : am_M} {l0 : Option Value} {n : Int32} : am_run G d K_Sp_init (40, [l0], .int n :: st, M) = am_km G d K_Sp_init 42 [l0] (.ref M.1 :: st) (am_newa (some (1, .inr (.inl (fun _ => 0)))) n M) := am_run_km (x := (.newarray .long, 2, 0, 0, 0, 0)) (by decide +kernel) rfl
theorem r_Sp_init_42 {G : Nat → Value} {d : Nat} {st : List Value} {M : am_M} {l0 : Option Value} {a : Nat} {v : Value} : am_run G d K_Sp_init (42, [l0], v :: .ref a :: st, M) = am_km G d K_Sp_init 45 [l0] st (am_pf M a 5 5 (am_fty 5 5) v) := am_run_km (x := (.putfield 28, 3, 5, 5, 1089, 0)) (by decide +kernel) rfl
theorem r_Sp_init_45 {G : Nat → Value} {d : Nat} {st : List Value} {M : am_M} {v : Value} (hv : am_isr v = true) : am_run G d K_Sp_init (45, [some v], st, M) = am_run G d K_Sp_init (46, [some v], v :: st, M) := by
  rcases am_isr_cases hv with ⟨q, rfl⟩ | rfl
  · exact am_run_next (x := (.aload_n 0, 1, 0, 0, 0, 0)) (by decide +kernel) rfl
  · exact am_run_next (x := (.aload_n 0, 1, 0, 0, 0, 0)) (by decide +kernel) rfl
theorem r_Sp_init_46 {G : Nat → Value} {d : Nat} {st : List Value} {M : am_M} {l0 : Option Value} : am_run G d K_Sp_init (46, [l0], st, M) = am_run G d K_Sp_init (48, [l0], .int 40 :: st, M) := am_run_next (x := (.bipush 40, 2, 0, 0, 0, 0)) (by decide +kernel) rfl
theorem r_Sp_init_48 {G : Nat → Value} {d : Nat} {st : List Value} {M : am_M} {l0 : Option Value} {n : Int32} : am_run G d K_Sp_init (48, [l0], .int n :: st, M) = am_km G d K_Sp_init 50 [l0] (.ref M.1 :: st) (am_newa (some (1, .inr (.inl (fun _ => 0)))) n M) := am_run_km (x := (.newarray .long, 2, 0, 0, 0, 0)) (by decide +kernel) rfl
theorem r_Sp_init_50 {G : Nat → Value} {d : Nat} {st : List Value} {M : am_M} {l0 : Option Value} {a : Nat} {v : Value} : am_run G d K_Sp_init (50, [l0], v :: .ref a :: st, M) = am_km G d K_Sp_init 53 [l0] st (am_pf M a 5 6 (am_fty 5 6) v) := am_run_km (x := (.putfield 31, 3, 5, 6, 1090, 0)) (by decide +kernel) rfl
theorem r_Sp_init_53 {G : Nat → Value} {d : Nat} {M : am_M} {l0 : Option Value} : am_run G d K_Sp_init (53, [l0], [], M) = some (none, M) := am_run_ret (x := (.return_, 1, 0, 0, 0, 0)) (by decide +kernel) rfl
theorem r_Ta_append_0 {G : Nat → Value} {d : Nat} {st : List Value} {M : am_M} {l1 : Option Value} {v : Value} (hv : am_isr v = true) : am_run G d K_Ta_append (0, [some v, l1], st, M) = am_run G d K_Ta_append (1, [some v, l1], v :: st, M) := by
  rcases am_isr_cases hv with ⟨q, rfl⟩ | rfl
  · exact am_run_next (x := (.aload_n 0, 1, 0, 0, 0, 0)) (by decide +kernel) rfl
  · exact am_run_next (x := (.aload_n 0, 1, 0, 0, 0, 0)) (by decide +kernel) rfl
theorem r_Ta_append_1 {G : Nat → Value} {d : Nat} {st : List Value} {M : am_M} {l0 l1 : Option Value} {a : Nat} : am_run G d K_Ta_append (1, [l0, l1], .ref a :: st, M) = am_kf G d K_Ta_append 4 [l0, l1] st M (am_fld M a 7 1) := am_run_kf (x := (.getfield 18, 3, 7, 1, 1046, 0)) (by decide +kernel) rfl
theorem r_Ta_append_4 {G : Nat → Value} {d : Nat} {st : List Value} {M : am_M} {l1 : Option Value} {v : Value} (hv : am_isr v = true) : am_run G d K_Ta_append (4, [some v, l1], st, M) = am_run G d K_Ta_append (5, [some v, l1], v :: st, M) := by
  rcases am_isr_cases hv with ⟨q, rfl⟩ | rfl
  · exact am_run_next (x := (.aload_n 0, 1, 0, 0, 0, 0)) (by decide +kernel) rfl
  · exact am_run_next (x := (.aload_n 0, 1, 0, 0, 0, 0)) (by decide +kernel) rfl
theorem r_Ta_append_5 {G : Nat → Value} {d : Nat} {st : List Value} {M : am_M} {l0 l1 : Option Value} {a : Nat} : am_run G d K_Ta_append (5, [l0, l1], .ref a :: st, M) = am_kf G d K_Ta_append 8 [l0, l1] st M (am_fld M a 7 0) := am_run_kf (x := (.getfield 9, 3, 7, 0, 1045, 0)) (by decide +kernel) rfl
theorem r_Ta_append_8 {G : Nat → Value} {d : Nat} {st : List Value} {M : am_M} {l0 l1 : Option Value} {a : Nat} : am_run G d K_Ta_append (8, [l0, l1], .ref a :: st, M) = am_kn G d K_Ta_append 9 [l0, l1] st M (am_len M a) := am_run_kn (x := (.arraylength, 1, 0, 0, 0, 0)) (by decide +kernel) rfl
theorem r_Ta_append_9 {G : Nat → Value} {d : Nat} {st : List Value} {M : am_M} {l0 l1 : Option Value} {a b : Int32} : am_run G d K_Ta_append (9, [l0, l1], .int b :: .int a :: st, M) = if a < b then am_run G d K_Ta_append (13, [l0, l1], st, M) else am_run G d K_Ta_append (12, [l0, l1], st, M) := by
  split
  · next h => exact am_run_next (x := (.if_icmp .lt 4, 3, 0, 0, 0, 0)) (by decide +kernel) (am_br_t (decide_eq_true h) (by decide))
  · next h => exact am_run_next (x := (.if_icmp .lt 4, 3, 0, 0, 0, 0)) (by decide +kernel) (am_br_f (decide_eq_false h) (by decide))
theorem r_Ta_append_12 {G : Nat → Value} {d : Nat} {M : am_M} {l0 l1 : Option Value} : am_run G d K_Ta_append (12, [l0, l1], [], M) = some (none, M) := am_run_ret (x := (.return_, 1, 0, 0, 0, 0)) (by decide +kernel) rfl
theorem r_Ta_append_13 {G : Nat → Value} {d : Nat} {st : List Value} {M : am_M} {l1 : Option Value} {v : Value} (hv : am_isr v = true) : am_run G d K_Ta_append (13, [some v, l1], st, M) = am_run G d K_Ta_append (14, [some v, l1], v :: st, M) := by
  rcases am_isr_cases hv with ⟨q, rfl⟩ | rfl
  · exact am_run_next (x := (.aload_n 0, 1, 0, 0, 0, 0)) (by decide +kernel) rfl
  · exact am_run_next (x := (.aload_n 0, 1, 0, 0, 0, 0)) (by decide +kernel) rfl
theorem r_Ta_append_14 {G : Nat → Value} {d : Nat} {st : List Value} {M : am_M} {l0 l1 : Option Value} {a : Nat} : am_run G d K_Ta_append (14, [l0, l1], .ref a :: st, M) = am_kf G d K_Ta_append 17 [l0, l1] st M (am_fld M a 7 0) := am_run_kf (x := (.getfield 9, 3, 7, 0, 1045, 0)) (by decide +kernel) rfl
theorem r_Ta_append_17 {G : Nat → Value} {d : Nat} {st : List Value} {M : am_M} {l1 : Option Value} {v : Value} (hv : am_isr v = true) : am_run G d K_Ta_append (17, [some v, l1], st, M) = am_run G d K_Ta_append (18, [some v, l1], v :: st, M) := by
  rcases am_isr_cases hv with ⟨q, rfl⟩ | rfl
  · exact am_run_next (x := (.aload_n 0, 1, 0, 0, 0, 0)) (by decide +kernel) rfl
  · exact am_run_next (x := (.aload_n 0, 1, 0, 0, 0, 0)) (by decide +kernel) rfl
theorem r_Ta_append_18 {G : Nat → Value} {d : Nat} {st : List Value} {M : am_M} {l0 l1 : Option Value} {a : Nat} : am_run G d K_Ta_append (18, [l0, l1], .ref a :: st, M) = am_kf G d K_Ta_append 21 [l0, l1] st M (am_fld M a 7 1) := am_run_kf (x := (.getfield 18, 3, 7, 1, 1046, 0)) (by decide +kernel) rfl
theorem r_Ta_append_21 {G : Nat → Value} {d : Nat} {st : List Value} {M : am_M} {l0 : Option Value} {v : Int32} : am_run G d K_Ta_append (21, [l0, some (.int v)], st, M) = am_run G d K_Ta_append (22, [l0, some (.int v)], .int v :: st, M) := am_run_next (x := (.iload_n 1, 1, 0, 0, 0, 0)) (by decide +kernel) rfl
theorem r_Ta_append_22 {G : Nat → Value} {d : Nat} {st : List Value} {M : am_M} {l0 l1 : Option Value} {a : Nat} {i x : Int32} : am_run G d K_Ta_append (22, [l0, l1], .int x :: .int i :: .ref a :: st, M) = am_km G d K_Ta_append 23 [l0, l1] st (am_pi M a i x) := am_run_km (x := (.iastore, 1, 0, 0, 0, 0)) (by decide +kernel) rfl
theorem r_Ta_append_23 {G : Nat → Value} {d : Nat} {st : List Value} {M : am_M} {l1 : Option Value} {v : Value} (hv : am_isr v = true) : am_run G d K_Ta_append (23, [some v, l1], st, M) = am_run G d K_Ta_append (24, [some v, l1], v :: st, M) := by
  rcases am_isr_cases hv with ⟨q, rfl⟩ | rfl
  · exact am_run_next (x := (.aload_n 0, 1, 0, 0, 0, 0)) (by decide +kernel) rfl
  · exact am_run_next (x := (.aload_n 0, 1, 0, 0, 0, 0)) (by decide +kernel) rfl
theorem r_Ta_append_24 {G : Nat → Value} {d : Nat} {st : List Value} {M : am_M} {l0 l1 : Option Value} {v : Value} (hv : v.category = 1) : am_run G d K_Ta_append (24, [l0, l1], v :: st, M) = am_run G d K_Ta_append (25, [l0, l1], v :: v :: st, M) := am_run_next (x := (.dup, 1, 0, 0, 0, 0)) (by decide +kernel) (if_pos hv)
theorem r_Ta_append_25 {G : Nat → Value} {d : Nat} {st : List Value} {M : am_M} {l0 l1 : Option Value} {a : Nat} : am_run G d K_Ta_append (25, [l0, l1], .ref a :: st, M) = am_kf G d K_Ta_append 28 [l0, l1] st M (am_fld M a 7 1) := am_run_kf (x := (.getfield 18, 3, 7, 1, 1046, 0)) (by decide +kernel) rfl
theorem r_Ta_append_28 {G : Nat → Value} {d : Nat} {st : List Value} {M : am_M} {l0 l1 : Option Value} : am_run G d K_Ta_append (28, [l0, l1], st, M) = am_run G d K_Ta_append (29, [l0, l1], .int 1 :: st, M) := am_run_next (x := (.iconst 1, 1, 0, 0, 0, 0)) (by decide +kernel) rfl
theorem r_Ta_append_29 {G : Nat → Value} {d : Nat} {st : List Value} {M : am_M} {l0 l1 : Option Value} {a b : Int32} : am_run G d K_Ta_append (29, [l0, l1], .int b :: .int a :: st, M) = am_run G d K_Ta_append (30, [l0, l1], .int (a + b) :: st, M) := am_run_next (x := (.iadd, 1, 0, 0, 0, 0)) (by decide +kernel) rfl
theorem r_Ta_append_30 {G : Nat → Value} {d : Nat} {st : List Value} {M : am_M} {l0 l1 : Option Value} {a : Nat} {v : Value} : am_run G d K_Ta_append (30, [l0, l1], v :: .ref a :: st, M) = am_km G d K_Ta_append 33 [l0, l1] st (am_pf M a 7 1 .int v) := am_run_km (x := (.putfield 18, 3, 7, 1, 1046, 0)) (by decide +kernel) rfl
theorem r_Ta_append_33 {G : Nat → Value} {d : Nat} {M : am_M} {l0 l1 : Option Value} : am_run G d K_Ta_append (33, [l0, l1], [], M) = some (none, M) := am_run_ret (x := (.return_, 1, 0, 0, 0, 0)) (by decide +kernel) rfl
theorem r_Ta_read_0 {G : Nat → Value} {d : Nat} {st : List Value} {M : am_M} {l1 l2 l3 : Option Value} {v : Value} (hv : am_isr v = true) : am_run G d K_Ta_read (0, [some v, l1, l2, l3], st, M) = am_run G d K_Ta_read (1, [some v, l1, l2, l3], v :: st, M) := by
  rcases am_isr_cases hv with ⟨q, rfl⟩ | rfl
  · exact am_run_next (x := (.aload_n 0, 1, 0, 0, 0, 0)) (by decide +kernel) rfl
  · exact am_run_next (x := (.aload_n 0, 1, 0, 0, 0, 0)) (by decide +kernel) rfl
theorem r_Ta_read_1 {G : Nat → Value} {d : Nat} {st : List Value} {M : am_M} {l0 l1 l2 l3 : Option Value} : am_run G d K_Ta_read (1, [l0, l1, l2, l3], st, M) = am_run G d K_Ta_read (2, [l0, l1, l2, l3], .int 0 :: st, M) := am_run_next (x := (.iconst 0, 1, 0, 0, 0, 0)) (by decide +kernel) rfl
theorem r_Ta_read_2 {G : Nat → Value} {d : Nat} {st : List Value} {M : am_M} {l0 l1 l2 l3 : Option Value} {a : Nat} {v : Value} : am_run G d K_Ta_read (2, [l0, l1, l2, l3], v :: .ref a :: st, M) = am_km G d K_Ta_read 5 [l0, l1, l2, l3] st (am_pf M a 7 2 .int v) := am_run_km (x := (.putfield 22, 3, 7, 2, 1048, 0)) (by decide +kernel) rfl
theorem r_Ta_read_5 {G : Nat → Value} {d : Nat} {st : List Value} {M : am_M} {l1 l2 l3 : Option Value} {v : Value} (hv : am_isr v = true) : am_run G d K_Ta_read (5, [some v, l1, l2, l3], st, M) = am_run G d K_Ta_read (6, [some v, l1, l2, l3], v :: st, M) := by
  rcases am_isr_cases hv with ⟨q, rfl⟩ | rfl
  · exact am_run_next (x := (.aload_n 0, 1, 0, 0, 0, 0)) (by decide +kernel) rfl
  · exact am_run_next (x := (.aload_n 0, 1, 0, 0, 0, 0)) (by decide +kernel) rfl
theorem r_Ta_read_6 {G : Nat → Value} {d : Nat} {st : List Value} {M : am_M} {l0 l1 l2 l3 : Option Value} {q : Nat} (hq : am_cls M q = some 7) (h8 : am_sw st ≤ 8) : am_run G d K_Ta_read (6, [l0, l1, l2, l3], .ref q :: st, M) = am_k G d K_Ta_read 9 [l0, l1, l2, l3] st (am_ex G d K_Ta_step [.ref q] M) := am_run_iv (i := 25) (n := 0) (pl := 1180) (Bs := []) (z := K_Ta_step) (by decide +kernel) hq h8 rfl (Nat.le_of_ble_eq_true rfl) rfl
theorem r_Ta_read_9 {G : Nat → Value} {d : Nat} {st : List Value} {M : am_M} {l1 l2 l3 : Option Value} {v : Value} (hv : am_isr v = true) : am_run G d K_Ta_read (9, [some v, l1, l2, l3], st, M) = am_run G d K_Ta_read (10, [some v, l1, l2, l3], v :: st, M) := by
  rcases am_isr_cases hv with ⟨q, rfl⟩ | rfl
  · exact am_run_next (x := (.aload_n 0, 1, 0, 0, 0, 0)) (by decide +kernel) rfl
  · exact am_run_next (x := (.aload_n 0, 1, 0, 0, 0, 0)) (by decide +kernel) rfl
theorem r_Ta_read_10 {G : Nat → Value} {d : Nat} {st : List Value} {M : am_M} {l0 l1 l2 l3 : Option Value} : am_run G d K_Ta_read (10, [l0, l1, l2, l3], st, M) = am_run G d K_Ta_read (12, [l0, l1, l2, l3], .int 6 :: st, M) := am_run_next (x := (.bipush 6, 2, 0, 0, 0, 0)) (by decide +kernel) rfl
theorem r_Ta_read_12 {G : Nat → Value} {d : Nat} {st : List Value} {M : am_M} {l0 l1 l2 l3 : Option Value} {q : Nat} {a0 : Int32} (hq : am_cls M q = some 7) (h8 : am_sw st ≤ 8) : am_run G d K_Ta_read (12, [l0, l1, l2, l3], .int a0 :: .ref q :: st, M) = am_k G d K_Ta_read 15 [l0, l1, l2, l3] st (am_ex G d K_Ta_readPart [.ref q, .int a0] M) := am_run_iv (i := 28) (n := 1) (pl := 2042) (Bs := [.int a0]) (z := K_Ta_readPart) (by decide +kernel) hq h8 rfl (Nat.le_of_ble_eq_true rfl) rfl
theorem r_Ta_read_15 {G : Nat → Value} {d : Nat} {st : List Value} {M : am_M} {l0 l1 l2 l3 : Option Value} {v : Value} (hv : am_isr v = true) (hc : am_c1 l0 = true) : am_run G d K_Ta_read (15, [l0, l1, l2, l3], v :: st, M) = am_run G d K_Ta_read (16, [l0, some v, l2, l3], st, M) := by
  rcases am_isr_cases hv with ⟨q1, rfl⟩ | rfl
  · rcases am_c1_cases hc with rfl | ⟨q, rfl⟩ | ⟨q, rfl⟩ | rfl
    · exact am_run_next (x := (.astore_n 1, 1, 0, 0, 0, 0)) (by decide +kernel) rfl
    · exact am_run_next (x := (.astore_n 1, 1, 0, 0, 0, 0)) (by decide +kernel) rfl
    · exact am_run_next (x := (.astore_n 1, 1, 0, 0, 0, 0)) (by decide +kernel) rfl
    · exact am_run_next (x := (.astore_n 1, 1, 0, 0, 0, 0)) (by decide +kernel) rfl
  · rcases am_c1_cases hc with rfl | ⟨q, rfl⟩ | ⟨q, rfl⟩ | rfl
    · exact am_run_next (x := (.astore_n 1, 1, 0, 0, 0, 0)) (by decide +kernel) rfl
    · exact am_run_next (x := (.astore_n 1, 1, 0, 0, 0, 0)) (by decide +kernel) rfl
    · exact am_run_next (x := (.astore_n 1, 1, 0, 0, 0, 0)) (by decide +kernel) rfl
    · exact am_run_next (x := (.astore_n 1, 1, 0, 0, 0, 0)) (by decide +kernel) rfl
theorem r_Ta_read_15_k {G : Nat → Value} {d : Nat} {st : List Value} {M : am_M} {l1 l2 l3 : Option Value} {v : Value} {z : Int64} (hv : am_isr v = true) : am_run G d K_Ta_read (15, [some (.long z), l1, l2, l3], v :: st, M) = am_run G d K_Ta_read (16, [none, some v, l2, l3], st, M) := by
  rcases am_isr_cases hv with ⟨q, rfl⟩ | rfl
  · exact am_run_next (x := (.astore_n 1, 1, 0, 0, 0, 0)) (by decide +kernel) rfl
  · exact am_run_next (x := (.astore_n 1, 1, 0, 0, 0, 0)) (by decide +kernel) rfl
theorem r_Ta_read_16 {G : Nat → Value} {d : Nat} {st : List Value} {M : am_M} {l0 l2 l3 : Option Value} {v : Value} (hv : am_isr v = true) : am_run G d K_Ta_read (16, [l0, some v, l2, l3], st, M) = am_run G d K_Ta_read (17, [l0, some v, l2, l3], v :: st, M) := by
  rcases am_isr_cases hv with ⟨q, rfl⟩ | rfl
  · exact am_run_next (x := (.aload_n 1, 1, 0, 0, 0, 0)) (by decide +kernel) rfl
  · exact am_run_next (x := (.aload_n 1, 1, 0, 0, 0, 0)) (by decide +kernel) rfl
theorem r_Ta_read_17 {G : Nat → Value} {d : Nat} {st : List Value} {M : am_M} {l0 l1 l2 l3 : Option Value} {v : Value} (hv : am_isr v = true) : am_run G d K_Ta_read (17, [l0, l1, l2, l3], v :: st, M) = if ¬ v = .null then am_run G d K_Ta_read (24, [l0, l1, l2, l3], st, M) else am_run G d K_Ta_read (20, [l0, l1, l2, l3], st, M) := by
  split
  · next h => exact am_run_next (x := (.ifnonnull 7, 3, 0, 0, 0, 0)) (by decide +kernel) ((if_pos hv).trans (am_br_t (decide_eq_true h) (by decide)))
  · next h => exact am_run_next (x := (.ifnonnull 7, 3, 0, 0, 0, 0)) (by decide +kernel) ((if_pos hv).trans (am_br_f (decide_eq_false h) (by decide)))
theorem r_Ta_read_20 {G : Nat → Value} {d : Nat} {st : List Value} {M : am_M} {l0 l1 l2 l3 : Option Value} : am_run G d K_Ta_read (20, [l0, l1, l2, l3], st, M) = am_run G d K_Ta_read (21, [l0, l1, l2, l3], .null :: st, M) := am_run_next (x := (.aconst_null, 1, 0, 0, 0, 0)) (by decide +kernel) rfl
theorem r_Ta_read_21 {G : Nat → Value} {d : Nat} {st : List Value} {M : am_M} {l0 l1 l2 l3 : Option Value} : am_run G d K_Ta_read (21, [l0, l1, l2, l3], st, M) = am_run G d K_Ta_read (30, [l0, l1, l2, l3], st, M) := am_run_next (x := (.goto 9, 3, 0, 0, 0, 0)) (by decide +kernel) rfl
theorem r_Ta_read_24 {G : Nat → Value} {d : Nat} {st : List Value} {M : am_M} {l1 l2 l3 : Option Value} {v : Value} (hv : am_isr v = true) : am_run G d K_Ta_read (24, [some v, l1, l2, l3], st, M) = am_run G d K_Ta_read (25, [some v, l1, l2, l3], v :: st, M) := by
  rcases am_isr_cases hv with ⟨q, rfl⟩ | rfl
  · exact am_run_next (x := (.aload_n 0, 1, 0, 0, 0, 0)) (by decide +kernel) rfl
  · exact am_run_next (x := (.aload_n 0, 1, 0, 0, 0, 0)) (by decide +kernel) rfl
theorem r_Ta_read_25 {G : Nat → Value} {d : Nat} {st : List Value} {M : am_M} {l0 l1 l2 l3 : Option Value} : am_run G d K_Ta_read (25, [l0, l1, l2, l3], st, M) = am_run G d K_Ta_read (27, [l0, l1, l2, l3], .int 7 :: st, M) := am_run_next (x := (.bipush 7, 2, 0, 0, 0, 0)) (by decide +kernel) rfl
theorem r_Ta_read_27 {G : Nat → Value} {d : Nat} {st : List Value} {M : am_M} {l0 l1 l2 l3 : Option Value} {q : Nat} {a0 : Int32} (hq : am_cls M q = some 7) (h8 : am_sw st ≤ 8) : am_run G d K_Ta_read (27, [l0, l1, l2, l3], .int a0 :: .ref q :: st, M) = am_k G d K_Ta_read 30 [l0, l1, l2, l3] st (am_ex G d K_Ta_readPart [.ref q, .int a0] M) := am_run_iv (i := 28) (n := 1) (pl := 2042) (Bs := [.int a0]) (z := K_Ta_readPart) (by decide +kernel) hq h8 rfl (Nat.le_of_ble_eq_true rfl) rfl
theorem r_Ta_read_30 {G : Nat → Value} {d : Nat} {st : List Value} {M : am_M} {l0 l1 l2 l3 : Option Value} {v : Value} (hv : am_isr v = true) (hc : am_c1 l1 = true) : am_run G d K_Ta_read (30, [l0, l1, l2, l3], v :: st, M) = am_run G d K_Ta_read (31, [l0, l1, some v, l3], st, M) := by
  rcases am_isr_cases hv with ⟨q1, rfl⟩ | rfl
  · rcases am_c1_cases hc with rfl | ⟨q, rfl⟩ | ⟨q, rfl⟩ | rfl
    · exact am_run_next (x := (.astore_n 2, 1, 0, 0, 0, 0)) (by decide +kernel) rfl
    · exact am_run_next (x := (.astore_n 2, 1, 0, 0, 0, 0)) (by decide +kernel) rfl
    · exact am_run_next (x := (.astore_n 2, 1, 0, 0, 0, 0)) (by decide +kernel) rfl
    · exact am_run_next (x := (.astore_n 2, 1, 0, 0, 0, 0)) (by decide +kernel) rfl
  · rcases am_c1_cases hc with rfl | ⟨q, rfl⟩ | ⟨q, rfl⟩ | rfl
    · exact am_run_next (x := (.astore_n 2, 1, 0, 0, 0, 0)) (by decide +kernel) rfl
    · exact am_run_next (x := (.astore_n 2, 1, 0, 0, 0, 0)) (by decide +kernel) rfl
    · exact am_run_next (x := (.astore_n 2, 1, 0, 0, 0, 0)) (by decide +kernel) rfl
    · exact am_run_next (x := (.astore_n 2, 1, 0, 0, 0, 0)) (by decide +kernel) rfl
theorem r_Ta_read_30_k {G : Nat → Value} {d : Nat} {st : List Value} {M : am_M} {l0 l2 l3 : Option Value} {v : Value} {z : Int64} (hv : am_isr v = true) : am_run G d K_Ta_read (30, [l0, some (.long z), l2, l3], v :: st, M) = am_run G d K_Ta_read (31, [l0, none, some v, l3], st, M) := by
  rcases am_isr_cases hv with ⟨q, rfl⟩ | rfl
  · exact am_run_next (x := (.astore_n 2, 1, 0, 0, 0, 0)) (by decide +kernel) rfl
  · exact am_run_next (x := (.astore_n 2, 1, 0, 0, 0, 0)) (by decide +kernel) rfl
theorem r_Ta_read_31 {G : Nat → Value} {d : Nat} {st : List Value} {M : am_M} {l1 l2 l3 : Option Value} {v : Value} (hv : am_isr v = true) : am_run G d K_Ta_read (31, [some v, l1, l2, l3], st, M) = am_run G d K_Ta_read (32, [some v, l1, l2, l3], v :: st, M) := by
  rcases am_isr_cases hv with ⟨q, rfl⟩ | rfl
  · exact am_run_next (x := (.aload_n 0, 1, 0, 0, 0, 0)) (by decide +kernel) rfl
  · exact am_run_next (x := (.aload_n 0, 1, 0, 0, 0, 0)) (by decide +kernel) rfl
theorem r_Ta_read_32 {G : Nat → Value} {d : Nat} {st : List Value} {M : am_M} {l1 l2 l3 : Option Value} {v : Value} (hv : am_isr v = true) : am_run G d K_Ta_read (32, [some v, l1, l2, l3], st, M) = am_run G d K_Ta_read (33, [some v, l1, l2, l3], v :: st, M) := by
  rcases am_isr_cases hv with ⟨q, rfl⟩ | rfl
  · exact am_run_next (x := (.aload_n 0, 1, 0, 0, 0, 0)) (by decide +kernel) rfl
  · exact am_run_next (x := (.aload_n 0, 1, 0, 0, 0, 0)) (by decide +kernel) rfl
theorem r_Ta_read_33 {G : Nat → Value} {d : Nat} {st : List Value} {M : am_M} {l0 l1 l2 l3 : Option Value} {a : Nat} : am_run G d K_Ta_read (33, [l0, l1, l2, l3], .ref a :: st, M) = am_kf G d K_Ta_read 36 [l0, l1, l2, l3] st M (am_fld M a 7 4) := am_run_kf (x := (.getfield 32, 3, 7, 4, 1050, 0)) (by decide +kernel) rfl
theorem r_Ta_read_36 {G : Nat → Value} {d : Nat} {st : List Value} {M : am_M} {l0 l1 l2 l3 : Option Value} {a : Nat} {v : Value} : am_run G d K_Ta_read (36, [l0, l1, l2, l3], v :: .ref a :: st, M) = am_km G d K_Ta_read 39 [l0, l1, l2, l3] st (am_pf M a 7 6 .int v) := am_run_km (x := (.putfield 35, 3, 7, 6, 1052, 0)) (by decide +kernel) rfl
theorem r_Ta_read_39 {G : Nat → Value} {d : Nat} {st : List Value} {M : am_M} {l1 l2 l3 : Option Value} {v : Value} (hv : am_isr v = true) : am_run G d K_Ta_read (39, [some v, l1, l2, l3], st, M) = am_run G d K_Ta_read (40, [some v, l1, l2, l3], v :: st, M) := by
  rcases am_isr_cases hv with ⟨q, rfl⟩ | rfl
  · exact am_run_next (x := (.aload_n 0, 1, 0, 0, 0, 0)) (by decide +kernel) rfl
  · exact am_run_next (x := (.aload_n 0, 1, 0, 0, 0, 0)) (by decide +kernel) rfl
theorem r_Ta_read_40 {G : Nat → Value} {d : Nat} {st : List Value} {M : am_M} {l0 l1 l2 l3 : Option Value} {a : Nat} : am_run G d K_Ta_read (40, [l0, l1, l2, l3], .ref a :: st, M) = am_kf G d K_Ta_read 43 [l0, l1, l2, l3] st M (am_fld M a 7 3) := am_run_kf (x := (.getfield 38, 3, 7, 3, 1049, 0)) (by decide +kernel) rfl
theorem r_Ta_read_43 {G : Nat → Value} {d : Nat} {st : List Value} {M : am_M} {l0 l1 l2 l3 : Option Value} : am_run G d K_Ta_read (43, [l0, l1, l2, l3], st, M) = am_run G d K_Ta_read (44, [l0, l1, l2, l3], .int (-1) :: st, M) := am_run_next (x := (.iconst (-1), 1, 0, 0, 0, 0)) (by decide +kernel) rfl
theorem r_Ta_read_44 {G : Nat → Value} {d : Nat} {st : List Value} {M : am_M} {l0 l1 l2 l3 : Option Value} {a b : Int32} : am_run G d K_Ta_read (44, [l0, l1, l2, l3], .int b :: .int a :: st, M) = if ¬ a = b then am_run G d K_Ta_read (51, [l0, l1, l2, l3], st, M) else am_run G d K_Ta_read (47, [l0, l1, l2, l3], st, M) := by
  split
  · next h => exact am_run_next (x := (.if_icmp .ne 7, 3, 0, 0, 0, 0)) (by decide +kernel) (am_br_t (decide_eq_true h) (by decide))
  · next h => exact am_run_next (x := (.if_icmp .ne 7, 3, 0, 0, 0, 0)) (by decide +kernel) (am_br_f (decide_eq_false h) (by decide))
theorem r_Ta_read_47 {G : Nat → Value} {d : Nat} {st : List Value} {M : am_M} {l0 l1 l2 l3 : Option Value} : am_run G d K_Ta_read (47, [l0, l1, l2, l3], st, M) = am_run G d K_Ta_read (48, [l0, l1, l2, l3], .int 1 :: st, M) := am_run_next (x := (.iconst 1, 1, 0, 0, 0, 0)) (by decide +kernel) rfl
theorem r_Ta_read_48 {G : Nat → Value} {d : Nat} {st : List Value} {M : am_M} {l0 l1 l2 l3 : Option Value} : am_run G d K_Ta_read (48, [l0, l1, l2, l3], st, M) = am_run G d K_Ta_read (52, [l0, l1, l2, l3], st, M) := am_run_next (x := (.goto 4, 3, 0, 0, 0, 0)) (by decide +kernel) rfl
theorem r_Ta_read_51 {G : Nat → Value} {d : Nat} {st : List Value} {M : am_M} {l0 l1 l2 l3 : Option Value} : am_run G d K_Ta_read (51, [l0, l1, l2, l3], st, M) = am_run G d K_Ta_read (52, [l0, l1, l2, l3], .int 0 :: st, M) := am_run_next (x := (.iconst 0, 1, 0, 0, 0, 0)) (by decide +kernel) rfl
theorem r_Ta_read_52 {G : Nat → Value} {d : Nat} {st : List Value} {M : am_M} {l0 l1 l2 l3 : Option Value} {v : Int32} (hc : am_c1 l2 = true) : am_run G d K_Ta_read (52, [l0, l1, l2, l3], .int v :: st, M) = am_run G d K_Ta_read (53, [l0, l1, l2, some (.int v)], st, M) := by
  rcases am_c1_cases hc with rfl | ⟨q, rfl⟩ | ⟨q, rfl⟩ | rfl
  · exact am_run_next (x := (.istore_n 3, 1, 0, 0, 0, 0)) (by decide +kernel) rfl
  · exact am_run_next (x := (.istore_n 3, 1, 0, 0, 0, 0)) (by decide +kernel) rfl
  · exact am_run_next (x := (.istore_n 3, 1, 0, 0, 0, 0)) (by decide +kernel) rfl
  · exact am_run_next (x := (.istore_n 3, 1, 0, 0, 0, 0)) (by decide +kernel) rfl
theorem r_Ta_read_52_k {G : Nat → Value} {d : Nat} {st : List Value} {M : am_M} {l0 l1 l3 : Option Value} {v : Int32} {z : Int64} : am_run G d K_Ta_read (52, [l0, l1, some (.long z), l3], .int v :: st, M) = am_run G d K_Ta_read (53, [l0, l1, none, some (.int v)], st, M) := am_run_next (x := (.istore_n 3, 1, 0, 0, 0, 0)) (by decide +kernel) rfl
theorem r_Ta_read_53 {G : Nat → Value} {d : Nat} {st : List Value} {M : am_M} {l1 l2 l3 : Option Value} {v : Value} (hv : am_isr v = true) : am_run G d K_Ta_read (53, [some v, l1, l2, l3], st, M) = am_run G d K_Ta_read (54, [some v, l1, l2, l3], v :: st, M) := by
  rcases am_isr_cases hv with ⟨q, rfl⟩ | rfl
  · exact am_run_next (x := (.aload_n 0, 1, 0, 0, 0, 0)) (by decide +kernel) rfl
  · exact am_run_next (x := (.aload_n 0, 1, 0, 0, 0, 0)) (by decide +kernel) rfl
theorem r_Ta_read_54 {G : Nat → Value} {d : Nat} {st : List Value} {M : am_M} {l0 l1 l2 l3 : Option Value} : am_run G d K_Ta_read (54, [l0, l1, l2, l3], st, M) = am_run G d K_Ta_read (55, [l0, l1, l2, l3], .int 0 :: st, M) := am_run_next (x := (.iconst 0, 1, 0, 0, 0, 0)) (by decide +kernel) rfl
theorem r_Ta_read_55 {G : Nat → Value} {d : Nat} {st : List Value} {M : am_M} {l0 l1 l2 l3 : Option Value} {a : Nat} {v : Value} : am_run G d K_Ta_read (55, [l0, l1, l2, l3], v :: .ref a :: st, M) = am_km G d K_Ta_read 58 [l0, l1, l2, l3] st (am_pf M a 7 1 .int v) := am_run_km (x := (.putfield 18, 3, 7, 1, 1046, 0)) (by decide +kernel) rfl
theorem r_Ta_read_58 {G : Nat → Value} {d : Nat} {st : List Value} {M : am_M} {l0 l1 l3 : Option Value} {v : Value} (hv : am_isr v = true) : am_run G d K_Ta_read (58, [l0, l1, some v, l3], st, M) = am_run G d K_Ta_read (59, [l0, l1, some v, l3], v :: st, M) := by
  rcases am_isr_cases hv with ⟨q, rfl⟩ | rfl
  · exact am_run_next (x := (.aload_n 2, 1, 0, 0, 0, 0)) (by decide +kernel) rfl
  · exact am_run_next (x := (.aload_n 2, 1, 0, 0, 0, 0)) (by decide +kernel) rfl
theorem r_Ta_read_59 {G : Nat → Value} {d : Nat} {st : List Value} {M : am_M} {l0 l1 l2 l3 : Option Value} {v : Value} (hv : am_isr v = true) : am_run G d K_Ta_read (59, [l0, l1, l2, l3], v :: st, M) = if v = .null then am_run G d K_Ta_read (78, [l0, l1, l2, l3], st, M) else am_run G d K_Ta_read (62, [l0, l1, l2, l3], st, M) := by
  split
  · next h => exact am_run_next (x := (.ifnull 19, 3, 0, 0, 0, 0)) (by decide +kernel) ((if_pos hv).trans (am_br_t (decide_eq_true h) (by decide)))
  · next h => exact am_run_next (x := (.ifnull 19, 3, 0, 0, 0, 0)) (by decide +kernel) ((if_pos hv).trans (am_br_f (decide_eq_false h) (by decide)))
theorem r_Ta_read_62 {G : Nat → Value} {d : Nat} {st : List Value} {M : am_M} {l0 l1 l2 : Option Value} {v : Int32} : am_run G d K_Ta_read (62, [l0, l1, l2, some (.int v)], st, M) = am_run G d K_Ta_read (63, [l0, l1, l2, some (.int v)], .int v :: st, M) := am_run_next (x := (.iload_n 3, 1, 0, 0, 0, 0)) (by decide +kernel) rfl
theorem r_Ta_read_63 {G : Nat → Value} {d : Nat} {st : List Value} {M : am_M} {l0 l1 l2 l3 : Option Value} {a : Int32} : am_run G d K_Ta_read (63, [l0, l1, l2, l3], .int a :: st, M) = if a = 0 then am_run G d K_Ta_read (78, [l0, l1, l2, l3], st, M) else am_run G d K_Ta_read (66, [l0, l1, l2, l3], st, M) := by
  split
  · next h => exact am_run_next (x := (.ifCond .eq 15, 3, 0, 0, 0, 0)) (by decide +kernel) (am_br_t (decide_eq_true h) (by decide))
  · next h => exact am_run_next (x := (.ifCond .eq 15, 3, 0, 0, 0, 0)) (by decide +kernel) (am_br_f (decide_eq_false h) (by decide))
theorem r_Ta_read_66 {G : Nat → Value} {d : Nat} {st : List Value} {M : am_M} {l0 l1 l2 l3 : Option Value} : am_run G d K_Ta_read (66, [l0, l1, l2, l3], st, M) = am_run G d K_Ta_read (69, [l0, l1, l2, l3], .ref M.1 :: st, am_add M (.inr (8, [.null, .null, .null]))) := am_run_next (x := (.new 41, 3, 8, 0, 2088, 0)) (by decide +kernel) rfl
theorem r_Ta_read_69 {G : Nat → Value} {d : Nat} {st : List Value} {M : am_M} {l0 l1 l2 l3 : Option Value} {v : Value} (hv : v.category = 1) : am_run G d K_Ta_read (69, [l0, l1, l2, l3], v :: st, M) = am_run G d K_Ta_read (70, [l0, l1, l2, l3], v :: v :: st, M) := am_run_next (x := (.dup, 1, 0, 0, 0, 0)) (by decide +kernel) (if_pos hv)
theorem r_Ta_read_70 {G : Nat → Value} {d : Nat} {st : List Value} {M : am_M} {l0 l2 l3 : Option Value} {v : Value} (hv : am_isr v = true) : am_run G d K_Ta_read (70, [l0, some v, l2, l3], st, M) = am_run G d K_Ta_read (71, [l0, some v, l2, l3], v :: st, M) := by
  rcases am_isr_cases hv with ⟨q, rfl⟩ | rfl
  · exact am_run_next (x := (.aload_n 1, 1, 0, 0, 0, 0)) (by decide +kernel) rfl
  · exact am_run_next (x := (.aload_n 1, 1, 0, 0, 0, 0)) (by decide +kernel) rfl
theorem r_Ta_read_71 {G : Nat → Value} {d : Nat} {st : List Value} {M : am_M} {l0 l1 l3 : Option Value} {v : Value} (hv : am_isr v = true) : am_run G d K_Ta_read (71, [l0, l1, some v, l3], st, M) = am_run G d K_Ta_read (72, [l0, l1, some v, l3], v :: st, M) := by
  rcases am_isr_cases hv with ⟨q, rfl⟩ | rfl
  · exact am_run_next (x := (.aload_n 2, 1, 0, 0, 0, 0)) (by decide +kernel) rfl
  · exact am_run_next (x := (.aload_n 2, 1, 0, 0, 0, 0)) (by decide +kernel) rfl
theorem r_Ta_read_72 {G : Nat → Value} {d : Nat} {st : List Value} {M : am_M} {l0 l1 l2 l3 : Option Value} {q : Nat} {a0 : Value} {a1 : Value} (h0 : am_isr a0 = true) (h1 : am_isr a1 = true) (h8 : am_sw st ≤ 8) : am_run G d K_Ta_read (72, [l0, l1, l2, l3], a1 :: a0 :: .ref q :: st, M) = am_k G d K_Ta_read 75 [l0, l1, l2, l3] st (am_ex G d K_Te_init [.ref q, a0, a1] M) := by
  have he : (am_exp [.ref q, a0, a1]).length ≤ am_mL K_Te_init := by
    rcases am_isr_cases h0 with ⟨z0, rfl⟩ | rfl <;> rcases am_isr_cases h1 with ⟨z1, rfl⟩ | rfl <;> exact Nat.le_of_ble_eq_true rfl
  exact am_run_ip (i := 43) (n := 2) (pl := 2090) (Bs := [a0, a1]) (z := K_Te_init) (v := 2) (by decide) (by decide +kernel) h8 rfl he rfl
theorem r_Ta_read_75 {G : Nat → Value} {d : Nat} {st : List Value} {M : am_M} {l0 l1 l2 l3 : Option Value} : am_run G d K_Ta_read (75, [l0, l1, l2, l3], st, M) = am_run G d K_Ta_read (79, [l0, l1, l2, l3], st, M) := am_run_next (x := (.goto 4, 3, 0, 0, 0, 0)) (by decide +kernel) rfl
theorem r_Ta_read_78 {G : Nat → Value} {d : Nat} {st : List Value} {M : am_M} {l0 l1 l2 l3 : Option Value} : am_run G d K_Ta_read (78, [l0, l1, l2, l3], st, M) = am_run G d K_Ta_read (79, [l0, l1, l2, l3], .null :: st, M) := am_run_next (x := (.aconst_null, 1, 0, 0, 0, 0)) (by decide +kernel) rfl
theorem r_Ta_read_79 {G : Nat → Value} {d : Nat} {M : am_M} {l0 l1 l2 l3 : Option Value} {v : Value} (hv : am_isr v = true) : am_run G d K_Ta_read (79, [l0, l1, l2, l3], [v], M) = some (some v, M) := am_run_ret (x := (.areturn, 1, 0, 0, 0, 0)) (by decide +kernel) (if_pos ⟨hv, rfl⟩)
theorem r_Ta_step_0 {G : Nat → Value} {d : Nat} {st : List Value} {M : am_M} {l1 : Option Value} {v : Value} (hv : am_isr v = true) : am_run G d K_Ta_step (0, [some v, l1], st, M) = am_run G d K_Ta_step (1, [some v, l1], v :: st, M) := by
  rcases am_isr_cases hv with ⟨q, rfl⟩ | rfl
  · exact am_run_next (x := (.aload_n 0, 1, 0, 0, 0, 0)) (by decide +kernel) rfl
  · exact am_run_next (x := (.aload_n 0, 1, 0, 0, 0, 0)) (by decide +kernel) rfl
theorem r_Ta_step_1 {G : Nat → Value} {d : Nat} {st : List Value} {M : am_M} {l0 l1 : Option Value} {a : Nat} : am_run G d K_Ta_step (1, [l0, l1], .ref a :: st, M) = am_kf G d K_Ta_step 4 [l0, l1] st M (am_fld M a 7 2) := am_run_kf (x := (.getfield 22, 3, 7, 2, 1048, 0)) (by decide +kernel) rfl
theorem r_Ta_step_4 {G : Nat → Value} {d : Nat} {st : List Value} {M : am_M} {l1 : Option Value} {v : Value} (hv : am_isr v = true) : am_run G d K_Ta_step (4, [some v, l1], st, M) = am_run G d K_Ta_step (5, [some v, l1], v :: st, M) := by
  rcases am_isr_cases hv with ⟨q, rfl⟩ | rfl
  · exact am_run_next (x := (.aload_n 0, 1, 0, 0, 0, 0)) (by decide +kernel) rfl
  · exact am_run_next (x := (.aload_n 0, 1, 0, 0, 0, 0)) (by decide +kernel) rfl
theorem r_Ta_step_5 {G : Nat → Value} {d : Nat} {st : List Value} {M : am_M} {l0 l1 : Option Value} {a : Nat} : am_run G d K_Ta_step (5, [l0, l1], .ref a :: st, M) = am_kf G d K_Ta_step 8 [l0, l1] st M (am_fld M a 7 1) := am_run_kf (x := (.getfield 18, 3, 7, 1, 1046, 0)) (by decide +kernel) rfl
theorem r_Ta_step_8 {G : Nat → Value} {d : Nat} {st : List Value} {M : am_M} {l0 l1 : Option Value} {a b : Int32} : am_run G d K_Ta_step (8, [l0, l1], .int b :: .int a :: st, M) = if b ≤ a then am_run G d K_Ta_step (50, [l0, l1], st, M) else am_run G d K_Ta_step (11, [l0, l1], st, M) := by
  split
  · next h => exact am_run_next (x := (.if_icmp .ge 42, 3, 0, 0, 0, 0)) (by decide +kernel) (am_br_t (decide_eq_true h) (by decide))
  · next h => exact am_run_next (x := (.if_icmp .ge 42, 3, 0, 0, 0, 0)) (by decide +kernel) (am_br_f (decide_eq_false h) (by decide))
theorem r_Ta_step_11 {G : Nat → Value} {d : Nat} {st : List Value} {M : am_M} {l1 : Option Value} {v : Value} (hv : am_isr v = true) : am_run G d K_Ta_step (11, [some v, l1], st, M) = am_run G d K_Ta_step (12, [some v, l1], v :: st, M) := by
  rcases am_isr_cases hv with ⟨q, rfl⟩ | rfl
  · exact am_run_next (x := (.aload_n 0, 1, 0, 0, 0, 0)) (by decide +kernel) rfl
  · exact am_run_next (x := (.aload_n 0, 1, 0, 0, 0, 0)) (by decide +kernel) rfl
theorem r_Ta_step_12 {G : Nat → Value} {d : Nat} {st : List Value} {M : am_M} {l1 : Option Value} {v : Value} (hv : am_isr v = true) : am_run G d K_Ta_step (12, [some v, l1], st, M) = am_run G d K_Ta_step (13, [some v, l1], v :: st, M) := by
  rcases am_isr_cases hv with ⟨q, rfl⟩ | rfl
  · exact am_run_next (x := (.aload_n 0, 1, 0, 0, 0, 0)) (by decide +kernel) rfl
  · exact am_run_next (x := (.aload_n 0, 1, 0, 0, 0, 0)) (by decide +kernel) rfl
theorem r_Ta_step_13 {G : Nat → Value} {d : Nat} {st : List Value} {M : am_M} {l0 l1 : Option Value} {a : Nat} : am_run G d K_Ta_step (13, [l0, l1], .ref a :: st, M) = am_kf G d K_Ta_step 16 [l0, l1] st M (am_fld M a 7 2) := am_run_kf (x := (.getfield 22, 3, 7, 2, 1048, 0)) (by decide +kernel) rfl
theorem r_Ta_step_16 {G : Nat → Value} {d : Nat} {st : List Value} {M : am_M} {l0 l1 : Option Value} {q : Nat} {a0 : Int32} (hq : am_cls M q = some 7) (h8 : am_sw st ≤ 8) : am_run G d K_Ta_step (16, [l0, l1], .int a0 :: .ref q :: st, M) = am_k G d K_Ta_step 19 [l0, l1] st (am_ex G d K_Ta_byteAt [.ref q, .int a0] M) := am_run_iv (i := 81) (n := 1) (pl := 1184) (Bs := [.int a0]) (z := K_Ta_byteAt) (by decide +kernel) hq h8 rfl (Nat.le_of_ble_eq_true rfl) rfl
theorem r_Ta_step_19 {G : Nat → Value} {d : Nat} {st : List Value} {M : am_M} {l0 l1 : Option Value} : am_run G d K_Ta_step (19, [l0, l1], st, M) = am_run G d K_Ta_step (21, [l0, l1], .int 32 :: st, M) := am_run_next (x := (.bipush 32, 2, 0, 0, 0, 0)) (by decide +kernel) rfl
theorem r_Ta_step_21 {G : Nat → Value} {d : Nat} {st : List Value} {M : am_M} {l0 l1 : Option Value} {a b : Int32} : am_run G d K_Ta_step (21, [l0, l1], .int b :: .int a :: st, M) = if a = b then am_run G d K_Ta_step (37, [l0, l1], st, M) else am_run G d K_Ta_step (24, [l0, l1], st, M) := by
  split
  · next h => exact am_run_next (x := (.if_icmp .eq 16, 3, 0, 0, 0, 0)) (by decide +kernel) (am_br_t (decide_eq_true h) (by decide))
  · next h => exact am_run_next (x := (.if_icmp .eq 16, 3, 0, 0, 0, 0)) (by decide +kernel) (am_br_f (decide_eq_false h) (by decide))
theorem r_Ta_step_24 {G : Nat → Value} {d : Nat} {st : List Value} {M : am_M} {l1 : Option Value} {v : Value} (hv : am_isr v = true) : am_run G d K_Ta_step (24, [some v, l1], st, M) = am_run G d K_Ta_step (25, [some v, l1], v :: st, M) := by
  rcases am_isr_cases hv with ⟨q, rfl⟩ | rfl
  · exact am_run_next (x := (.aload_n 0, 1, 0, 0, 0, 0)) (by decide +kernel) rfl
  · exact am_run_next (x := (.aload_n 0, 1, 0, 0, 0, 0)) (by decide +kernel) rfl
theorem r_Ta_step_25 {G : Nat → Value} {d : Nat} {st : List Value} {M : am_M} {l1 : Option Value} {v : Value} (hv : am_isr v = true) : am_run G d K_Ta_step (25, [some v, l1], st, M) = am_run G d K_Ta_step (26, [some v, l1], v :: st, M) := by
  rcases am_isr_cases hv with ⟨q, rfl⟩ | rfl
  · exact am_run_next (x := (.aload_n 0, 1, 0, 0, 0, 0)) (by decide +kernel) rfl
  · exact am_run_next (x := (.aload_n 0, 1, 0, 0, 0, 0)) (by decide +kernel) rfl
theorem r_Ta_step_26 {G : Nat → Value} {d : Nat} {st : List Value} {M : am_M} {l0 l1 : Option Value} {a : Nat} : am_run G d K_Ta_step (26, [l0, l1], .ref a :: st, M) = am_kf G d K_Ta_step 29 [l0, l1] st M (am_fld M a 7 2) := am_run_kf (x := (.getfield 22, 3, 7, 2, 1048, 0)) (by decide +kernel) rfl
theorem r_Ta_step_29 {G : Nat → Value} {d : Nat} {st : List Value} {M : am_M} {l0 l1 : Option Value} {q : Nat} {a0 : Int32} (hq : am_cls M q = some 7) (h8 : am_sw st ≤ 8) : am_run G d K_Ta_step (29, [l0, l1], .int a0 :: .ref q :: st, M) = am_k G d K_Ta_step 32 [l0, l1] st (am_ex G d K_Ta_byteAt [.ref q, .int a0] M) := am_run_iv (i := 81) (n := 1) (pl := 1184) (Bs := [.int a0]) (z := K_Ta_byteAt) (by decide +kernel) hq h8 rfl (Nat.le_of_ble_eq_true rfl) rfl
theorem r_Ta_step_32 {G : Nat → Value} {d : Nat} {st : List Value} {M : am_M} {l0 l1 : Option Value} : am_run G d K_Ta_step (32, [l0, l1], st, M) = am_run G d K_Ta_step (34, [l0, l1], .int 10 :: st, M) := am_run_next (x := (.bipush 10, 2, 0, 0, 0, 0)) (by decide +kernel) rfl
theorem r_Ta_step_34 {G : Nat → Value} {d : Nat} {st : List Value} {M : am_M} {l0 l1 : Option Value} {a b : Int32} : am_run G d K_Ta_step (34, [l0, l1], .int b :: .int a :: st, M) = if ¬ a = b then am_run G d K_Ta_step (50, [l0, l1], st, M) else am_run G d K_Ta_step (37, [l0, l1], st, M) := by
  split
  · next h => exact am_run_next (x := (.if_icmp .ne 16, 3, 0, 0, 0, 0)) (by decide +kernel) (am_br_t (decide_eq_true h) (by decide))
  · next h => exact am_run_next (x := (.if_icmp .ne 16, 3, 0, 0, 0, 0)) (by decide +kernel) (am_br_f (decide_eq_false h) (by decide))
theorem r_Ta_step_37 {G : Nat → Value} {d : Nat} {st : List Value} {M : am_M} {l1 : Option Value} {v : Value} (hv : am_isr v = true) : am_run G d K_Ta_step (37, [some v, l1], st, M) = am_run G d K_Ta_step (38, [some v, l1], v :: st, M) := by
  rcases am_isr_cases hv with ⟨q, rfl⟩ | rfl
  · exact am_run_next (x := (.aload_n 0, 1, 0, 0, 0, 0)) (by decide +kernel) rfl
  · exact am_run_next (x := (.aload_n 0, 1, 0, 0, 0, 0)) (by decide +kernel) rfl
theorem r_Ta_step_38 {G : Nat → Value} {d : Nat} {st : List Value} {M : am_M} {l0 l1 : Option Value} {v : Value} (hv : v.category = 1) : am_run G d K_Ta_step (38, [l0, l1], v :: st, M) = am_run G d K_Ta_step (39, [l0, l1], v :: v :: st, M) := am_run_next (x := (.dup, 1, 0, 0, 0, 0)) (by decide +kernel) (if_pos hv)
theorem r_Ta_step_39 {G : Nat → Value} {d : Nat} {st : List Value} {M : am_M} {l0 l1 : Option Value} {a : Nat} : am_run G d K_Ta_step (39, [l0, l1], .ref a :: st, M) = am_kf G d K_Ta_step 42 [l0, l1] st M (am_fld M a 7 2) := am_run_kf (x := (.getfield 22, 3, 7, 2, 1048, 0)) (by decide +kernel) rfl
theorem r_Ta_step_42 {G : Nat → Value} {d : Nat} {st : List Value} {M : am_M} {l0 l1 : Option Value} : am_run G d K_Ta_step (42, [l0, l1], st, M) = am_run G d K_Ta_step (43, [l0, l1], .int 1 :: st, M) := am_run_next (x := (.iconst 1, 1, 0, 0, 0, 0)) (by decide +kernel) rfl
theorem r_Ta_step_43 {G : Nat → Value} {d : Nat} {st : List Value} {M : am_M} {l0 l1 : Option Value} {a b : Int32} : am_run G d K_Ta_step (43, [l0, l1], .int b :: .int a :: st, M) = am_run G d K_Ta_step (44, [l0, l1], .int (a + b) :: st, M) := am_run_next (x := (.iadd, 1, 0, 0, 0, 0)) (by decide +kernel) rfl
theorem r_Ta_step_44 {G : Nat → Value} {d : Nat} {st : List Value} {M : am_M} {l0 l1 : Option Value} {a : Nat} {v : Value} : am_run G d K_Ta_step (44, [l0, l1], v :: .ref a :: st, M) = am_km G d K_Ta_step 47 [l0, l1] st (am_pf M a 7 2 .int v) := am_run_km (x := (.putfield 22, 3, 7, 2, 1048, 0)) (by decide +kernel) rfl
theorem r_Ta_step_47 {G : Nat → Value} {d : Nat} {st : List Value} {M : am_M} {l0 l1 : Option Value} : am_run G d K_Ta_step (47, [l0, l1], st, M) = am_run G d K_Ta_step (0, [l0, l1], st, M) := am_run_next (x := (.goto (-47), 3, 0, 0, 0, 0)) (by decide +kernel) rfl
theorem r_Ta_step_50 {G : Nat → Value} {d : Nat} {st : List Value} {M : am_M} {l1 : Option Value} {v : Value} (hv : am_isr v = true) : am_run G d K_Ta_step (50, [some v, l1], st, M) = am_run G d K_Ta_step (51, [some v, l1], v :: st, M) := by
  rcases am_isr_cases hv with ⟨q, rfl⟩ | rfl
  · exact am_run_next (x := (.aload_n 0, 1, 0, 0, 0, 0)) (by decide +kernel) rfl
  · exact am_run_next (x := (.aload_n 0, 1, 0, 0, 0, 0)) (by decide +kernel) rfl
theorem r_Ta_step_51 {G : Nat → Value} {d : Nat} {st : List Value} {M : am_M} {l1 : Option Value} {v : Value} (hv : am_isr v = true) : am_run G d K_Ta_step (51, [some v, l1], st, M) = am_run G d K_Ta_step (52, [some v, l1], v :: st, M) := by
  rcases am_isr_cases hv with ⟨q, rfl⟩ | rfl
  · exact am_run_next (x := (.aload_n 0, 1, 0, 0, 0, 0)) (by decide +kernel) rfl
  · exact am_run_next (x := (.aload_n 0, 1, 0, 0, 0, 0)) (by decide +kernel) rfl
theorem r_Ta_step_52 {G : Nat → Value} {d : Nat} {st : List Value} {M : am_M} {l0 l1 : Option Value} {a : Nat} : am_run G d K_Ta_step (52, [l0, l1], .ref a :: st, M) = am_kf G d K_Ta_step 55 [l0, l1] st M (am_fld M a 7 2) := am_run_kf (x := (.getfield 22, 3, 7, 2, 1048, 0)) (by decide +kernel) rfl
theorem r_Ta_step_55 {G : Nat → Value} {d : Nat} {st : List Value} {M : am_M} {l0 l1 : Option Value} {a : Nat} {v : Value} : am_run G d K_Ta_step (55, [l0, l1], v :: .ref a :: st, M) = am_km G d K_Ta_step 58 [l0, l1] st (am_pf M a 7 4 .int v) := am_run_km (x := (.putfield 32, 3, 7, 4, 1050, 0)) (by decide +kernel) rfl
theorem r_Ta_step_58 {G : Nat → Value} {d : Nat} {st : List Value} {M : am_M} {l1 : Option Value} {v : Value} (hv : am_isr v = true) : am_run G d K_Ta_step (58, [some v, l1], st, M) = am_run G d K_Ta_step (59, [some v, l1], v :: st, M) := by
  rcases am_isr_cases hv with ⟨q, rfl⟩ | rfl
  · exact am_run_next (x := (.aload_n 0, 1, 0, 0, 0, 0)) (by decide +kernel) rfl
  · exact am_run_next (x := (.aload_n 0, 1, 0, 0, 0, 0)) (by decide +kernel) rfl
theorem r_Ta_step_59 {G : Nat → Value} {d : Nat} {st : List Value} {M : am_M} {l1 : Option Value} {v : Value} (hv : am_isr v = true) : am_run G d K_Ta_step (59, [some v, l1], st, M) = am_run G d K_Ta_step (60, [some v, l1], v :: st, M) := by
  rcases am_isr_cases hv with ⟨q, rfl⟩ | rfl
  · exact am_run_next (x := (.aload_n 0, 1, 0, 0, 0, 0)) (by decide +kernel) rfl
  · exact am_run_next (x := (.aload_n 0, 1, 0, 0, 0, 0)) (by decide +kernel) rfl
theorem r_Ta_step_60 {G : Nat → Value} {d : Nat} {st : List Value} {M : am_M} {l0 l1 : Option Value} {a : Nat} : am_run G d K_Ta_step (60, [l0, l1], .ref a :: st, M) = am_kf G d K_Ta_step 63 [l0, l1] st M (am_fld M a 7 2) := am_run_kf (x := (.getfield 22, 3, 7, 2, 1048, 0)) (by decide +kernel) rfl
theorem r_Ta_step_63 {G : Nat → Value} {d : Nat} {st : List Value} {M : am_M} {l0 l1 : Option Value} {q : Nat} {a0 : Int32} (hq : am_cls M q = some 7) (h8 : am_sw st ≤ 8) : am_run G d K_Ta_step (63, [l0, l1], .int a0 :: .ref q :: st, M) = am_k G d K_Ta_step 66 [l0, l1] st (am_ex G d K_Ta_byteAt [.ref q, .int a0] M) := am_run_iv (i := 81) (n := 1) (pl := 1184) (Bs := [.int a0]) (z := K_Ta_byteAt) (by decide +kernel) hq h8 rfl (Nat.le_of_ble_eq_true rfl) rfl
theorem r_Ta_step_66 {G : Nat → Value} {d : Nat} {st : List Value} {M : am_M} {l0 l1 : Option Value} {v : Int32} (hc : am_c1 l0 = true) : am_run G d K_Ta_step (66, [l0, l1], .int v :: st, M) = am_run G d K_Ta_step (67, [l0, some (.int v)], st, M) := by
  rcases am_c1_cases hc with rfl | ⟨q, rfl⟩ | ⟨q, rfl⟩ | rfl
  · exact am_run_next (x := (.istore_n 1, 1, 0, 0, 0, 0)) (by decide +kernel) rfl
  · exact am_run_next (x := (.istore_n 1, 1, 0, 0, 0, 0)) (by decide +kernel) rfl
  · exact am_run_next (x := (.istore_n 1, 1, 0, 0, 0, 0)) (by decide +kernel) rfl
  · exact am_run_next (x := (.istore_n 1, 1, 0, 0, 0, 0)) (by decide +kernel) rfl
theorem r_Ta_step_66_k {G : Nat → Value} {d : Nat} {st : List Value} {M : am_M} {l1 : Option Value} {v : Int32} {z : Int64} : am_run G d K_Ta_step (66, [some (.long z), l1], .int v :: st, M) = am_run G d K_Ta_step (67, [none, some (.int v)], st, M) := am_run_next (x := (.istore_n 1, 1, 0, 0, 0, 0)) (by decide +kernel) rfl
theorem r_Ta_step_67 {G : Nat → Value} {d : Nat} {st : List Value} {M : am_M} {l1 : Option Value} {v : Value} (hv : am_isr v = true) : am_run G d K_Ta_step (67, [some v, l1], st, M) = am_run G d K_Ta_step (68, [some v, l1], v :: st, M) := by
  rcases am_isr_cases hv with ⟨q, rfl⟩ | rfl
  · exact am_run_next (x := (.aload_n 0, 1, 0, 0, 0, 0)) (by decide +kernel) rfl
  · exact am_run_next (x := (.aload_n 0, 1, 0, 0, 0, 0)) (by decide +kernel) rfl
theorem r_Ta_step_68 {G : Nat → Value} {d : Nat} {st : List Value} {M : am_M} {l0 l1 : Option Value} {a : Nat} : am_run G d K_Ta_step (68, [l0, l1], .ref a :: st, M) = am_kf G d K_Ta_step 71 [l0, l1] st M (am_fld M a 7 2) := am_run_kf (x := (.getfield 22, 3, 7, 2, 1048, 0)) (by decide +kernel) rfl
theorem r_Ta_step_71 {G : Nat → Value} {d : Nat} {st : List Value} {M : am_M} {l1 : Option Value} {v : Value} (hv : am_isr v = true) : am_run G d K_Ta_step (71, [some v, l1], st, M) = am_run G d K_Ta_step (72, [some v, l1], v :: st, M) := by
  rcases am_isr_cases hv with ⟨q, rfl⟩ | rfl
  · exact am_run_next (x := (.aload_n 0, 1, 0, 0, 0, 0)) (by decide +kernel) rfl
  · exact am_run_next (x := (.aload_n 0, 1, 0, 0, 0, 0)) (by decide +kernel) rfl
theorem r_Ta_step_72 {G : Nat → Value} {d : Nat} {st : List Value} {M : am_M} {l0 l1 : Option Value} {a : Nat} : am_run G d K_Ta_step (72, [l0, l1], .ref a :: st, M) = am_kf G d K_Ta_step 75 [l0, l1] st M (am_fld M a 7 1) := am_run_kf (x := (.getfield 18, 3, 7, 1, 1046, 0)) (by decide +kernel) rfl
theorem r_Ta_step_75 {G : Nat → Value} {d : Nat} {st : List Value} {M : am_M} {l0 l1 : Option Value} {a b : Int32} : am_run G d K_Ta_step (75, [l0, l1], .int b :: .int a :: st, M) = if a < b then am_run G d K_Ta_step (86, [l0, l1], st, M) else am_run G d K_Ta_step (78, [l0, l1], st, M) := by
  split
  · next h => exact am_run_next (x := (.if_icmp .lt 11, 3, 0, 0, 0, 0)) (by decide +kernel) (am_br_t (decide_eq_true h) (by decide))
  · next h => exact am_run_next (x := (.if_icmp .lt 11, 3, 0, 0, 0, 0)) (by decide +kernel) (am_br_f (decide_eq_false h) (by decide))
theorem r_Ta_step_78 {G : Nat → Value} {d : Nat} {st : List Value} {M : am_M} {l1 : Option Value} {v : Value} (hv : am_isr v = true) : am_run G d K_Ta_step (78, [some v, l1], st, M) = am_run G d K_Ta_step (79, [some v, l1], v :: st, M) := by
  rcases am_isr_cases hv with ⟨q, rfl⟩ | rfl
  · exact am_run_next (x := (.aload_n 0, 1, 0, 0, 0, 0)) (by decide +kernel) rfl
  · exact am_run_next (x := (.aload_n 0, 1, 0, 0, 0, 0)) (by decide +kernel) rfl
theorem r_Ta_step_79 {G : Nat → Value} {d : Nat} {st : List Value} {M : am_M} {l0 l1 : Option Value} : am_run G d K_Ta_step (79, [l0, l1], st, M) = am_run G d K_Ta_step (80, [l0, l1], .int (-1) :: st, M) := am_run_next (x := (.iconst (-1), 1, 0, 0, 0, 0)) (by decide +kernel) rfl
theorem r_Ta_step_80 {G : Nat → Value} {d : Nat} {st : List Value} {M : am_M} {l0 l1 : Option Value} {a : Nat} {v : Value} : am_run G d K_Ta_step (80, [l0, l1], v :: .ref a :: st, M) = am_km G d K_Ta_step 83 [l0, l1] st (am_pf M a 7 3 .int v) := am_run_km (x := (.putfield 38, 3, 7, 3, 1049, 0)) (by decide +kernel) rfl
theorem r_Ta_step_83 {G : Nat → Value} {d : Nat} {st : List Value} {M : am_M} {l0 l1 : Option Value} : am_run G d K_Ta_step (83, [l0, l1], st, M) = am_run G d K_Ta_step (144, [l0, l1], st, M) := am_run_next (x := (.goto 61, 3, 0, 0, 0, 0)) (by decide +kernel) rfl
theorem r_Ta_step_86 {G : Nat → Value} {d : Nat} {st : List Value} {M : am_M} {l0 : Option Value} {v : Int32} : am_run G d K_Ta_step (86, [l0, some (.int v)], st, M) = am_run G d K_Ta_step (87, [l0, some (.int v)], .int v :: st, M) := am_run_next (x := (.iload_n 1, 1, 0, 0, 0, 0)) (by decide +kernel) rfl
theorem r_Ta_step_87 {G : Nat → Value} {d : Nat} {st : List Value} {M : am_M} {l0 l1 : Option Value} {a0 : Int32} (h8 : am_sw st ≤ 8) : am_run G d K_Ta_step (87, [l0, l1], .int a0 :: st, M) = am_k G d K_Ta_step 90 [l0, l1] st (am_ex G d K_Ta_isLetter [.int a0] M) := am_run_is (i := 85) (n := 1) (pl := 1188) (Bs := [.int a0]) (z := K_Ta_isLetter) (v := 1) (by decide) (by decide) (by decide +kernel) h8 rfl (Nat.le_of_ble_eq_true rfl) rfl
theorem r_Ta_step_90 {G : Nat → Value} {d : Nat} {st : List Value} {M : am_M} {l0 l1 : Option Value} {a : Int32} : am_run G d K_Ta_step (90, [l0, l1], .int a :: st, M) = if a = 0 then am_run G d K_Ta_step (100, [l0, l1], st, M) else am_run G d K_Ta_step (93, [l0, l1], st, M) := by
  split
  · next h => exact am_run_next (x := (.ifCond .eq 10, 3, 0, 0, 0, 0)) (by decide +kernel) (am_br_t (decide_eq_true h) (by decide))
  · next h => exact am_run_next (x := (.ifCond .eq 10, 3, 0, 0, 0, 0)) (by decide +kernel) (am_br_f (decide_eq_false h) (by decide))
theorem r_Ta_step_93 {G : Nat → Value} {d : Nat} {st : List Value} {M : am_M} {l1 : Option Value} {v : Value} (hv : am_isr v = true) : am_run G d K_Ta_step (93, [some v, l1], st, M) = am_run G d K_Ta_step (94, [some v, l1], v :: st, M) := by
  rcases am_isr_cases hv with ⟨q, rfl⟩ | rfl
  · exact am_run_next (x := (.aload_n 0, 1, 0, 0, 0, 0)) (by decide +kernel) rfl
  · exact am_run_next (x := (.aload_n 0, 1, 0, 0, 0, 0)) (by decide +kernel) rfl
theorem r_Ta_step_94 {G : Nat → Value} {d : Nat} {st : List Value} {M : am_M} {l0 l1 : Option Value} {q : Nat} (hq : am_cls M q = some 7) (h8 : am_sw st ≤ 8) : am_run G d K_Ta_step (94, [l0, l1], .ref q :: st, M) = am_k G d K_Ta_step 97 [l0, l1] st (am_ex G d K_Ta_readWord [.ref q] M) := am_run_iv (i := 88) (n := 0) (pl := 1191) (Bs := []) (z := K_Ta_readWord) (by decide +kernel) hq h8 rfl (Nat.le_of_ble_eq_true rfl) rfl
theorem r_Ta_step_97 {G : Nat → Value} {d : Nat} {st : List Value} {M : am_M} {l0 l1 : Option Value} : am_run G d K_Ta_step (97, [l0, l1], st, M) = am_run G d K_Ta_step (144, [l0, l1], st, M) := am_run_next (x := (.goto 47, 3, 0, 0, 0, 0)) (by decide +kernel) rfl
theorem r_Ta_step_100 {G : Nat → Value} {d : Nat} {st : List Value} {M : am_M} {l0 : Option Value} {v : Int32} : am_run G d K_Ta_step (100, [l0, some (.int v)], st, M) = am_run G d K_Ta_step (101, [l0, some (.int v)], .int v :: st, M) := am_run_next (x := (.iload_n 1, 1, 0, 0, 0, 0)) (by decide +kernel) rfl
theorem r_Ta_step_101 {G : Nat → Value} {d : Nat} {st : List Value} {M : am_M} {l0 l1 : Option Value} {a0 : Int32} (h8 : am_sw st ≤ 8) : am_run G d K_Ta_step (101, [l0, l1], .int a0 :: st, M) = am_k G d K_Ta_step 104 [l0, l1] st (am_ex G d K_Ta_isDigit [.int a0] M) := am_run_is (i := 91) (n := 1) (pl := 1215) (Bs := [.int a0]) (z := K_Ta_isDigit) (v := 1) (by decide) (by decide) (by decide +kernel) h8 rfl (Nat.le_of_ble_eq_true rfl) rfl
theorem r_Ta_step_104 {G : Nat → Value} {d : Nat} {st : List Value} {M : am_M} {l0 l1 : Option Value} {a : Int32} : am_run G d K_Ta_step (104, [l0, l1], .int a :: st, M) = if a = 0 then am_run G d K_Ta_step (114, [l0, l1], st, M) else am_run G d K_Ta_step (107, [l0, l1], st, M) := by
  split
  · next h => exact am_run_next (x := (.ifCond .eq 10, 3, 0, 0, 0, 0)) (by decide +kernel) (am_br_t (decide_eq_true h) (by decide))
  · next h => exact am_run_next (x := (.ifCond .eq 10, 3, 0, 0, 0, 0)) (by decide +kernel) (am_br_f (decide_eq_false h) (by decide))
theorem r_Ta_step_107 {G : Nat → Value} {d : Nat} {st : List Value} {M : am_M} {l1 : Option Value} {v : Value} (hv : am_isr v = true) : am_run G d K_Ta_step (107, [some v, l1], st, M) = am_run G d K_Ta_step (108, [some v, l1], v :: st, M) := by
  rcases am_isr_cases hv with ⟨q, rfl⟩ | rfl
  · exact am_run_next (x := (.aload_n 0, 1, 0, 0, 0, 0)) (by decide +kernel) rfl
  · exact am_run_next (x := (.aload_n 0, 1, 0, 0, 0, 0)) (by decide +kernel) rfl
theorem r_Ta_step_108 {G : Nat → Value} {d : Nat} {st : List Value} {M : am_M} {l0 l1 : Option Value} {q : Nat} (hq : am_cls M q = some 7) (h8 : am_sw st ≤ 8) : am_run G d K_Ta_step (108, [l0, l1], .ref q :: st, M) = am_k G d K_Ta_step 111 [l0, l1] st (am_ex G d K_Ta_readNumber [.ref q] M) := am_run_iv (i := 94) (n := 0) (pl := 1218) (Bs := []) (z := K_Ta_readNumber) (by decide +kernel) hq h8 rfl (Nat.le_of_ble_eq_true rfl) rfl
theorem r_Ta_step_111 {G : Nat → Value} {d : Nat} {st : List Value} {M : am_M} {l0 l1 : Option Value} : am_run G d K_Ta_step (111, [l0, l1], st, M) = am_run G d K_Ta_step (144, [l0, l1], st, M) := am_run_next (x := (.goto 33, 3, 0, 0, 0, 0)) (by decide +kernel) rfl
theorem r_Ta_step_114 {G : Nat → Value} {d : Nat} {st : List Value} {M : am_M} {l1 : Option Value} {v : Value} (hv : am_isr v = true) : am_run G d K_Ta_step (114, [some v, l1], st, M) = am_run G d K_Ta_step (115, [some v, l1], v :: st, M) := by
  rcases am_isr_cases hv with ⟨q, rfl⟩ | rfl
  · exact am_run_next (x := (.aload_n 0, 1, 0, 0, 0, 0)) (by decide +kernel) rfl
  · exact am_run_next (x := (.aload_n 0, 1, 0, 0, 0, 0)) (by decide +kernel) rfl
theorem r_Ta_step_115 {G : Nat → Value} {d : Nat} {st : List Value} {M : am_M} {l0 l1 : Option Value} {v : Value} (hv : v.category = 1) : am_run G d K_Ta_step (115, [l0, l1], v :: st, M) = am_run G d K_Ta_step (116, [l0, l1], v :: v :: st, M) := am_run_next (x := (.dup, 1, 0, 0, 0, 0)) (by decide +kernel) (if_pos hv)
theorem r_Ta_step_116 {G : Nat → Value} {d : Nat} {st : List Value} {M : am_M} {l0 l1 : Option Value} {a : Nat} : am_run G d K_Ta_step (116, [l0, l1], .ref a :: st, M) = am_kf G d K_Ta_step 119 [l0, l1] st M (am_fld M a 7 2) := am_run_kf (x := (.getfield 22, 3, 7, 2, 1048, 0)) (by decide +kernel) rfl
theorem r_Ta_step_119 {G : Nat → Value} {d : Nat} {st : List Value} {M : am_M} {l0 l1 : Option Value} : am_run G d K_Ta_step (119, [l0, l1], st, M) = am_run G d K_Ta_step (120, [l0, l1], .int 1 :: st, M) := am_run_next (x := (.iconst 1, 1, 0, 0, 0, 0)) (by decide +kernel) rfl
theorem r_Ta_step_120 {G : Nat → Value} {d : Nat} {st : List Value} {M : am_M} {l0 l1 : Option Value} {a b : Int32} : am_run G d K_Ta_step (120, [l0, l1], .int b :: .int a :: st, M) = am_run G d K_Ta_step (121, [l0, l1], .int (a + b) :: st, M) := am_run_next (x := (.iadd, 1, 0, 0, 0, 0)) (by decide +kernel) rfl
theorem r_Ta_step_121 {G : Nat → Value} {d : Nat} {st : List Value} {M : am_M} {l0 l1 : Option Value} {a : Nat} {v : Value} : am_run G d K_Ta_step (121, [l0, l1], v :: .ref a :: st, M) = am_km G d K_Ta_step 124 [l0, l1] st (am_pf M a 7 2 .int v) := am_run_km (x := (.putfield 22, 3, 7, 2, 1048, 0)) (by decide +kernel) rfl
theorem r_Ta_step_124 {G : Nat → Value} {d : Nat} {st : List Value} {M : am_M} {l1 : Option Value} {v : Value} (hv : am_isr v = true) : am_run G d K_Ta_step (124, [some v, l1], st, M) = am_run G d K_Ta_step (125, [some v, l1], v :: st, M) := by
  rcases am_isr_cases hv with ⟨q, rfl⟩ | rfl
  · exact am_run_next (x := (.aload_n 0, 1, 0, 0, 0, 0)) (by decide +kernel) rfl
  · exact am_run_next (x := (.aload_n 0, 1, 0, 0, 0, 0)) (by decide +kernel) rfl
theorem r_Ta_step_125 {G : Nat → Value} {d : Nat} {st : List Value} {M : am_M} {l0 l1 : Option Value} : am_run G d K_Ta_step (125, [l0, l1], st, M) = am_run G d K_Ta_step (127, [l0, l1], G 22 :: st, M) := am_run_next (x := (.ldc 97, 2, 1, 22, 1222, 0)) (by decide +kernel) rfl
theorem r_Ta_step_127 {G : Nat → Value} {d : Nat} {st : List Value} {M : am_M} {l0 : Option Value} {v : Int32} : am_run G d K_Ta_step (127, [l0, some (.int v)], st, M) = am_run G d K_Ta_step (128, [l0, some (.int v)], .int v :: st, M) := am_run_next (x := (.iload_n 1, 1, 0, 0, 0, 0)) (by decide +kernel) rfl
theorem r_Ta_step_128 {G : Nat → Value} {d : Nat} {st : List Value} {M : am_M} {l0 l1 : Option Value} {a : Int32} : am_run G d K_Ta_step (128, [l0, l1], .int a :: st, M) = am_run G d K_Ta_step (129, [l0, l1], .int (a.toUInt32 % 65536).toInt32 :: st, M) := am_run_next (x := (.i2c, 1, 0, 0, 0, 0)) (by decide +kernel) rfl
theorem r_Ta_step_129 {G : Nat → Value} {d : Nat} {st : List Value} {M : am_M} {l0 l1 : Option Value} {q : Nat} {a0 : Int32} (hq : am_cls M q = some 11) (h8 : am_sw st ≤ 8) : am_run G d K_Ta_step (129, [l0, l1], .int a0 :: .ref q :: st, M) = am_k G d K_Ta_step 132 [l0, l1] st (am_ex G d K_Js_indexOf [.ref q, .int a0] M) := am_run_iv (i := 99) (n := 1) (pl := 1223) (Bs := [.int a0]) (z := K_Js_indexOf) (by decide +kernel) hq h8 rfl (Nat.le_of_ble_eq_true rfl) rfl
theorem r_Ta_step_132 {G : Nat → Value} {d : Nat} {st : List Value} {M : am_M} {l0 l1 : Option Value} {a : Int32} : am_run G d K_Ta_step (132, [l0, l1], .int a :: st, M) = if a < 0 then am_run G d K_Ta_step (139, [l0, l1], st, M) else am_run G d K_Ta_step (135, [l0, l1], st, M) := by
  split
  · next h => exact am_run_next (x := (.ifCond .lt 7, 3, 0, 0, 0, 0)) (by decide +kernel) (am_br_t (decide_eq_true h) (by decide))
  · next h => exact am_run_next (x := (.ifCond .lt 7, 3, 0, 0, 0, 0)) (by decide +kernel) (am_br_f (decide_eq_false h) (by decide))
theorem r_Ta_step_135 {G : Nat → Value} {d : Nat} {st : List Value} {M : am_M} {l0 : Option Value} {v : Int32} : am_run G d K_Ta_step (135, [l0, some (.int v)], st, M) = am_run G d K_Ta_step (136, [l0, some (.int v)], .int v :: st, M) := am_run_next (x := (.iload_n 1, 1, 0, 0, 0, 0)) (by decide +kernel) rfl
theorem r_Ta_step_136 {G : Nat → Value} {d : Nat} {st : List Value} {M : am_M} {l0 l1 : Option Value} : am_run G d K_Ta_step (136, [l0, l1], st, M) = am_run G d K_Ta_step (141, [l0, l1], st, M) := am_run_next (x := (.goto 5, 3, 0, 0, 0, 0)) (by decide +kernel) rfl
theorem r_Ta_step_139 {G : Nat → Value} {d : Nat} {st : List Value} {M : am_M} {l0 l1 : Option Value} : am_run G d K_Ta_step (139, [l0, l1], st, M) = am_run G d K_Ta_step (141, [l0, l1], .int (-2) :: st, M) := am_run_next (x := (.bipush (-2), 2, 0, 0, 0, 0)) (by decide +kernel) rfl
theorem r_Ta_step_141 {G : Nat → Value} {d : Nat} {st : List Value} {M : am_M} {l0 l1 : Option Value} {a : Nat} {v : Value} : am_run G d K_Ta_step (141, [l0, l1], v :: .ref a :: st, M) = am_km G d K_Ta_step 144 [l0, l1] st (am_pf M a 7 3 .int v) := am_run_km (x := (.putfield 38, 3, 7, 3, 1049, 0)) (by decide +kernel) rfl
theorem r_Ta_step_144 {G : Nat → Value} {d : Nat} {M : am_M} {l0 l1 : Option Value} : am_run G d K_Ta_step (144, [l0, l1], [], M) = some (none, M) := am_run_ret (x := (.return_, 1, 0, 0, 0, 0)) (by decide +kernel) rfl
theorem r_Ta_byteAt_0 {G : Nat → Value} {d : Nat} {st : List Value} {M : am_M} {l0 : Option Value} {v : Int32} : am_run G d K_Ta_byteAt (0, [l0, some (.int v)], st, M) = am_run G d K_Ta_byteAt (1, [l0, some (.int v)], .int v :: st, M) := am_run_next (x := (.iload_n 1, 1, 0, 0, 0, 0)) (by decide +kernel) rfl
theorem r_Ta_byteAt_1 {G : Nat → Value} {d : Nat} {st : List Value} {M : am_M} {l0 l1 : Option Value} {a : Int32} : am_run G d K_Ta_byteAt (1, [l0, l1], .int a :: st, M) = if a < 0 then am_run G d K_Ta_byteAt (30, [l0, l1], st, M) else am_run G d K_Ta_byteAt (4, [l0, l1], st, M) := by
  split
  · next h => exact am_run_next (x := (.ifCond .lt 29, 3, 0, 0, 0, 0)) (by decide +kernel) (am_br_t (decide_eq_true h) (by decide))
  · next h => exact am_run_next (x := (.ifCond .lt 29, 3, 0, 0, 0, 0)) (by decide +kernel) (am_br_f (decide_eq_false h) (by decide))
theorem r_Ta_byteAt_4 {G : Nat → Value} {d : Nat} {st : List Value} {M : am_M} {l0 : Option Value} {v : Int32} : am_run G d K_Ta_byteAt (4, [l0, some (.int v)], st, M) = am_run G d K_Ta_byteAt (5, [l0, some (.int v)], .int v :: st, M) := am_run_next (x := (.iload_n 1, 1, 0, 0, 0, 0)) (by decide +kernel) rfl
theorem r_Ta_byteAt_5 {G : Nat → Value} {d : Nat} {st : List Value} {M : am_M} {l1 : Option Value} {v : Value} (hv : am_isr v = true) : am_run G d K_Ta_byteAt (5, [some v, l1], st, M) = am_run G d K_Ta_byteAt (6, [some v, l1], v :: st, M) := by
  rcases am_isr_cases hv with ⟨q, rfl⟩ | rfl
  · exact am_run_next (x := (.aload_n 0, 1, 0, 0, 0, 0)) (by decide +kernel) rfl
  · exact am_run_next (x := (.aload_n 0, 1, 0, 0, 0, 0)) (by decide +kernel) rfl
theorem r_Ta_byteAt_6 {G : Nat → Value} {d : Nat} {st : List Value} {M : am_M} {l0 l1 : Option Value} {a : Nat} : am_run G d K_Ta_byteAt (6, [l0, l1], .ref a :: st, M) = am_kf G d K_Ta_byteAt 9 [l0, l1] st M (am_fld M a 7 1) := am_run_kf (x := (.getfield 18, 3, 7, 1, 1046, 0)) (by decide +kernel) rfl
theorem r_Ta_byteAt_9 {G : Nat → Value} {d : Nat} {st : List Value} {M : am_M} {l0 l1 : Option Value} {a b : Int32} : am_run G d K_Ta_byteAt (9, [l0, l1], .int b :: .int a :: st, M) = if b ≤ a then am_run G d K_Ta_byteAt (30, [l0, l1], st, M) else am_run G d K_Ta_byteAt (12, [l0, l1], st, M) := by
  split
  · next h => exact am_run_next (x := (.if_icmp .ge 21, 3, 0, 0, 0, 0)) (by decide +kernel) (am_br_t (decide_eq_true h) (by decide))
  · next h => exact am_run_next (x := (.if_icmp .ge 21, 3, 0, 0, 0, 0)) (by decide +kernel) (am_br_f (decide_eq_false h) (by decide))
theorem r_Ta_byteAt_12 {G : Nat → Value} {d : Nat} {st : List Value} {M : am_M} {l0 : Option Value} {v : Int32} : am_run G d K_Ta_byteAt (12, [l0, some (.int v)], st, M) = am_run G d K_Ta_byteAt (13, [l0, some (.int v)], .int v :: st, M) := am_run_next (x := (.iload_n 1, 1, 0, 0, 0, 0)) (by decide +kernel) rfl
theorem r_Ta_byteAt_13 {G : Nat → Value} {d : Nat} {st : List Value} {M : am_M} {l1 : Option Value} {v : Value} (hv : am_isr v = true) : am_run G d K_Ta_byteAt (13, [some v, l1], st, M) = am_run G d K_Ta_byteAt (14, [some v, l1], v :: st, M) := by
  rcases am_isr_cases hv with ⟨q, rfl⟩ | rfl
  · exact am_run_next (x := (.aload_n 0, 1, 0, 0, 0, 0)) (by decide +kernel) rfl
  · exact am_run_next (x := (.aload_n 0, 1, 0, 0, 0, 0)) (by decide +kernel) rfl
theorem r_Ta_byteAt_14 {G : Nat → Value} {d : Nat} {st : List Value} {M : am_M} {l0 l1 : Option Value} {a : Nat} : am_run G d K_Ta_byteAt (14, [l0, l1], .ref a :: st, M) = am_kf G d K_Ta_byteAt 17 [l0, l1] st M (am_fld M a 7 0) := am_run_kf (x := (.getfield 9, 3, 7, 0, 1045, 0)) (by decide +kernel) rfl
theorem r_Ta_byteAt_17 {G : Nat → Value} {d : Nat} {st : List Value} {M : am_M} {l0 l1 : Option Value} {a : Nat} : am_run G d K_Ta_byteAt (17, [l0, l1], .ref a :: st, M) = am_kn G d K_Ta_byteAt 18 [l0, l1] st M (am_len M a) := am_run_kn (x := (.arraylength, 1, 0, 0, 0, 0)) (by decide +kernel) rfl
theorem r_Ta_byteAt_18 {G : Nat → Value} {d : Nat} {st : List Value} {M : am_M} {l0 l1 : Option Value} {a b : Int32} : am_run G d K_Ta_byteAt (18, [l0, l1], .int b :: .int a :: st, M) = if b ≤ a then am_run G d K_Ta_byteAt (30, [l0, l1], st, M) else am_run G d K_Ta_byteAt (21, [l0, l1], st, M) := by
  split
  · next h => exact am_run_next (x := (.if_icmp .ge 12, 3, 0, 0, 0, 0)) (by decide +kernel) (am_br_t (decide_eq_true h) (by decide))
  · next h => exact am_run_next (x := (.if_icmp .ge 12, 3, 0, 0, 0, 0)) (by decide +kernel) (am_br_f (decide_eq_false h) (by decide))
theorem r_Ta_byteAt_21 {G : Nat → Value} {d : Nat} {st : List Value} {M : am_M} {l1 : Option Value} {v : Value} (hv : am_isr v = true) : am_run G d K_Ta_byteAt (21, [some v, l1], st, M) = am_run G d K_Ta_byteAt (22, [some v, l1], v :: st, M) := by
  rcases am_isr_cases hv with ⟨q, rfl⟩ | rfl
  · exact am_run_next (x := (.aload_n 0, 1, 0, 0, 0, 0)) (by decide +kernel) rfl
  · exact am_run_next (x := (.aload_n 0, 1, 0, 0, 0, 0)) (by decide +kernel) rfl
theorem r_Ta_byteAt_22 {G : Nat → Value} {d : Nat} {st : List Value} {M : am_M} {l0 l1 : Option Value} {a : Nat} : am_run G d K_Ta_byteAt (22, [l0, l1], .ref a :: st, M) = am_kf G d K_Ta_byteAt 25 [l0, l1] st M (am_fld M a 7 0) := am_run_kf (x := (.getfield 9, 3, 7, 0, 1045, 0)) (by decide +kernel) rfl
theorem r_Ta_byteAt_25 {G : Nat → Value} {d : Nat} {st : List Value} {M : am_M} {l0 : Option Value} {v : Int32} : am_run G d K_Ta_byteAt (25, [l0, some (.int v)], st, M) = am_run G d K_Ta_byteAt (26, [l0, some (.int v)], .int v :: st, M) := am_run_next (x := (.iload_n 1, 1, 0, 0, 0, 0)) (by decide +kernel) rfl
theorem r_Ta_byteAt_26 {G : Nat → Value} {d : Nat} {st : List Value} {M : am_M} {l0 l1 : Option Value} {a : Nat} {i : Int32} : am_run G d K_Ta_byteAt (26, [l0, l1], .int i :: .ref a :: st, M) = am_kf G d K_Ta_byteAt 27 [l0, l1] st M (am_ag 0 M a i) := am_run_kf (x := (.iaload, 1, 0, 0, 0, 0)) (by decide +kernel) rfl
theorem r_Ta_byteAt_27 {G : Nat → Value} {d : Nat} {st : List Value} {M : am_M} {l0 l1 : Option Value} : am_run G d K_Ta_byteAt (27, [l0, l1], st, M) = am_run G d K_Ta_byteAt (31, [l0, l1], st, M) := am_run_next (x := (.goto 4, 3, 0, 0, 0, 0)) (by decide +kernel) rfl
theorem r_Ta_byteAt_30 {G : Nat → Value} {d : Nat} {st : List Value} {M : am_M} {l0 l1 : Option Value} : am_run G d K_Ta_byteAt (30, [l0, l1], st, M) = am_run G d K_Ta_byteAt (31, [l0, l1], .int (-1) :: st, M) := am_run_next (x := (.iconst (-1), 1, 0, 0, 0, 0)) (by decide +kernel) rfl
theorem r_Ta_byteAt_31 {G : Nat → Value} {d : Nat} {M : am_M} {l0 l1 : Option Value} {a : Int32} : am_run G d K_Ta_byteAt (31, [l0, l1], [.int a], M) = some (some (.int a), M) := am_run_ret (x := (.ireturn, 1, 0, 0, 0, 0)) (by decide +kernel) rfl
theorem r_Ta_isLetter_0 {G : Nat → Value} {d : Nat} {st : List Value} {M : am_M} {v : Int32} : am_run G d K_Ta_isLetter (0, [some (.int v)], st, M) = am_run G d K_Ta_isLetter (1, [some (.int v)], .int v :: st, M) := am_run_next (x := (.iload_n 0, 1, 0, 0, 0, 0)) (by decide +kernel) rfl
theorem r_Ta_isLetter_1 {G : Nat → Value} {d : Nat} {st : List Value} {M : am_M} {l0 : Option Value} : am_run G d K_Ta_isLetter (1, [l0], st, M) = am_run G d K_Ta_isLetter (3, [l0], .int 97 :: st, M) := am_run_next (x := (.bipush 97, 2, 0, 0, 0, 0)) (by decide +kernel) rfl
theorem r_Ta_isLetter_3 {G : Nat → Value} {d : Nat} {st : List Value} {M : am_M} {l0 : Option Value} {a b : Int32} : am_run G d K_Ta_isLetter (3, [l0], .int b :: .int a :: st, M) = if a < b then am_run G d K_Ta_isLetter (16, [l0], st, M) else am_run G d K_Ta_isLetter (6, [l0], st, M) := by
  split
  · next h => exact am_run_next (x := (.if_icmp .lt 13, 3, 0, 0, 0, 0)) (by decide +kernel) (am_br_t (decide_eq_true h) (by decide))
  · next h => exact am_run_next (x := (.if_icmp .lt 13, 3, 0, 0, 0, 0)) (by decide +kernel) (am_br_f (decide_eq_false h) (by decide))
theorem r_Ta_isLetter_6 {G : Nat → Value} {d : Nat} {st : List Value} {M : am_M} {v : Int32} : am_run G d K_Ta_isLetter (6, [some (.int v)], st, M) = am_run G d K_Ta_isLetter (7, [some (.int v)], .int v :: st, M) := am_run_next (x := (.iload_n 0, 1, 0, 0, 0, 0)) (by decide +kernel) rfl
theorem r_Ta_isLetter_7 {G : Nat → Value} {d : Nat} {st : List Value} {M : am_M} {l0 : Option Value} : am_run G d K_Ta_isLetter (7, [l0], st, M) = am_run G d K_Ta_isLetter (9, [l0], .int 122 :: st, M) := am_run_next (x := (.bipush 122, 2, 0, 0, 0, 0)) (by decide +kernel) rfl
theorem r_Ta_isLetter_9 {G : Nat → Value} {d : Nat} {st : List Value} {M : am_M} {l0 : Option Value} {a b : Int32} : am_run G d K_Ta_isLetter (9, [l0], .int b :: .int a :: st, M) = if b < a then am_run G d K_Ta_isLetter (16, [l0], st, M) else am_run G d K_Ta_isLetter (12, [l0], st, M) := by
  split
  · next h => exact am_run_next (x := (.if_icmp .gt 7, 3, 0, 0, 0, 0)) (by decide +kernel) (am_br_t (decide_eq_true h) (by decide))
  · next h => exact am_run_next (x := (.if_icmp .gt 7, 3, 0, 0, 0, 0)) (by decide +kernel) (am_br_f (decide_eq_false h) (by decide))
theorem r_Ta_isLetter_12 {G : Nat → Value} {d : Nat} {st : List Value} {M : am_M} {l0 : Option Value} : am_run G d K_Ta_isLetter (12, [l0], st, M) = am_run G d K_Ta_isLetter (13, [l0], .int 1 :: st, M) := am_run_next (x := (.iconst 1, 1, 0, 0, 0, 0)) (by decide +kernel) rfl
theorem r_Ta_isLetter_13 {G : Nat → Value} {d : Nat} {st : List Value} {M : am_M} {l0 : Option Value} : am_run G d K_Ta_isLetter (13, [l0], st, M) = am_run G d K_Ta_isLetter (17, [l0], st, M) := am_run_next (x := (.goto 4, 3, 0, 0, 0, 0)) (by decide +kernel) rfl
theorem r_Ta_isLetter_16 {G : Nat → Value} {d : Nat} {st : List Value} {M : am_M} {l0 : Option Value} : am_run G d K_Ta_isLetter (16, [l0], st, M) = am_run G d K_Ta_isLetter (17, [l0], .int 0 :: st, M) := am_run_next (x := (.iconst 0, 1, 0, 0, 0, 0)) (by decide +kernel) rfl
theorem r_Ta_isLetter_17 {G : Nat → Value} {d : Nat} {M : am_M} {l0 : Option Value} {a : Int32} (ha : a = 0 ∨ a = 1) : am_run G d K_Ta_isLetter (17, [l0], [.int a], M) = some (some (.int a), M) := am_run_ret (x := (.ireturn, 1, 0, 0, 0, 0)) (by decide +kernel) (if_pos (decide_eq_true ha))
theorem r_Ta_readWord_0 {G : Nat → Value} {d : Nat} {st : List Value} {M : am_M} {l1 : Option Value} {v : Value} (hv : am_isr v = true) : am_run G d K_Ta_readWord (0, [some v, l1], st, M) = am_run G d K_Ta_readWord (1, [some v, l1], v :: st, M) := by
  rcases am_isr_cases hv with ⟨q, rfl⟩ | rfl
  · exact am_run_next (x := (.aload_n 0, 1, 0, 0, 0, 0)) (by decide +kernel) rfl
  · exact am_run_next (x := (.aload_n 0, 1, 0, 0, 0, 0)) (by decide +kernel) rfl
theorem r_Ta_readWord_1 {G : Nat → Value} {d : Nat} {st : List Value} {M : am_M} {l0 l1 : Option Value} {a : Nat} : am_run G d K_Ta_readWord (1, [l0, l1], .ref a :: st, M) = am_kf G d K_Ta_readWord 4 [l0, l1] st M (am_fld M a 7 2) := am_run_kf (x := (.getfield 22, 3, 7, 2, 1048, 0)) (by decide +kernel) rfl
theorem r_Ta_readWord_4 {G : Nat → Value} {d : Nat} {st : List Value} {M : am_M} {l1 : Option Value} {v : Value} (hv : am_isr v = true) : am_run G d K_Ta_readWord (4, [some v, l1], st, M) = am_run G d K_Ta_readWord (5, [some v, l1], v :: st, M) := by
  rcases am_isr_cases hv with ⟨q, rfl⟩ | rfl
  · exact am_run_next (x := (.aload_n 0, 1, 0, 0, 0, 0)) (by decide +kernel) rfl
  · exact am_run_next (x := (.aload_n 0, 1, 0, 0, 0, 0)) (by decide +kernel) rfl
theorem r_Ta_readWord_5 {G : Nat → Value} {d : Nat} {st : List Value} {M : am_M} {l0 l1 : Option Value} {a : Nat} : am_run G d K_Ta_readWord (5, [l0, l1], .ref a :: st, M) = am_kf G d K_Ta_readWord 8 [l0, l1] st M (am_fld M a 7 1) := am_run_kf (x := (.getfield 18, 3, 7, 1, 1046, 0)) (by decide +kernel) rfl
theorem r_Ta_readWord_8 {G : Nat → Value} {d : Nat} {st : List Value} {M : am_M} {l0 l1 : Option Value} {a b : Int32} : am_run G d K_Ta_readWord (8, [l0, l1], .int b :: .int a :: st, M) = if b ≤ a then am_run G d K_Ta_readWord (38, [l0, l1], st, M) else am_run G d K_Ta_readWord (11, [l0, l1], st, M) := by
  split
  · next h => exact am_run_next (x := (.if_icmp .ge 30, 3, 0, 0, 0, 0)) (by decide +kernel) (am_br_t (decide_eq_true h) (by decide))
  · next h => exact am_run_next (x := (.if_icmp .ge 30, 3, 0, 0, 0, 0)) (by decide +kernel) (am_br_f (decide_eq_false h) (by decide))
theorem r_Ta_readWord_11 {G : Nat → Value} {d : Nat} {st : List Value} {M : am_M} {l1 : Option Value} {v : Value} (hv : am_isr v = true) : am_run G d K_Ta_readWord (11, [some v, l1], st, M) = am_run G d K_Ta_readWord (12, [some v, l1], v :: st, M) := by
  rcases am_isr_cases hv with ⟨q, rfl⟩ | rfl
  · exact am_run_next (x := (.aload_n 0, 1, 0, 0, 0, 0)) (by decide +kernel) rfl
  · exact am_run_next (x := (.aload_n 0, 1, 0, 0, 0, 0)) (by decide +kernel) rfl
theorem r_Ta_readWord_12 {G : Nat → Value} {d : Nat} {st : List Value} {M : am_M} {l1 : Option Value} {v : Value} (hv : am_isr v = true) : am_run G d K_Ta_readWord (12, [some v, l1], st, M) = am_run G d K_Ta_readWord (13, [some v, l1], v :: st, M) := by
  rcases am_isr_cases hv with ⟨q, rfl⟩ | rfl
  · exact am_run_next (x := (.aload_n 0, 1, 0, 0, 0, 0)) (by decide +kernel) rfl
  · exact am_run_next (x := (.aload_n 0, 1, 0, 0, 0, 0)) (by decide +kernel) rfl
theorem r_Ta_readWord_13 {G : Nat → Value} {d : Nat} {st : List Value} {M : am_M} {l0 l1 : Option Value} {a : Nat} : am_run G d K_Ta_readWord (13, [l0, l1], .ref a :: st, M) = am_kf G d K_Ta_readWord 16 [l0, l1] st M (am_fld M a 7 2) := am_run_kf (x := (.getfield 22, 3, 7, 2, 1048, 0)) (by decide +kernel) rfl
theorem r_Ta_readWord_16 {G : Nat → Value} {d : Nat} {st : List Value} {M : am_M} {l0 l1 : Option Value} {q : Nat} {a0 : Int32} (hq : am_cls M q = some 7) (h8 : am_sw st ≤ 8) : am_run G d K_Ta_readWord (16, [l0, l1], .int a0 :: .ref q :: st, M) = am_k G d K_Ta_readWord 19 [l0, l1] st (am_ex G d K_Ta_byteAt [.ref q, .int a0] M) := am_run_iv (i := 81) (n := 1) (pl := 1184) (Bs := [.int a0]) (z := K_Ta_byteAt) (by decide +kernel) hq h8 rfl (Nat.le_of_ble_eq_true rfl) rfl
theorem r_Ta_readWord_19 {G : Nat → Value} {d : Nat} {st : List Value} {M : am_M} {l0 l1 : Option Value} {a0 : Int32} (h8 : am_sw st ≤ 8) : am_run G d K_Ta_readWord (19, [l0, l1], .int a0 :: st, M) = am_k G d K_Ta_readWord 22 [l0, l1] st (am_ex G d K_Ta_isLetter [.int a0] M) := am_run_is (i := 85) (n := 1) (pl := 1188) (Bs := [.int a0]) (z := K_Ta_isLetter) (v := 1) (by decide) (by decide) (by decide +kernel) h8 rfl (Nat.le_of_ble_eq_true rfl) rfl
theorem r_Ta_readWord_22 {G : Nat → Value} {d : Nat} {st : List Value} {M : am_M} {l0 l1 : Option Value} {a : Int32} : am_run G d K_Ta_readWord (22, [l0, l1], .int a :: st, M) = if a = 0 then am_run G d K_Ta_readWord (38, [l0, l1], st, M) else am_run G d K_Ta_readWord (25, [l0, l1], st, M) := by
  split
  · next h => exact am_run_next (x := (.ifCond .eq 16, 3, 0, 0, 0, 0)) (by decide +kernel) (am_br_t (decide_eq_true h) (by decide))
  · next h => exact am_run_next (x := (.ifCond .eq 16, 3, 0, 0, 0, 0)) (by decide +kernel) (am_br_f (decide_eq_false h) (by decide))
theorem r_Ta_readWord_25 {G : Nat → Value} {d : Nat} {st : List Value} {M : am_M} {l1 : Option Value} {v : Value} (hv : am_isr v = true) : am_run G d K_Ta_readWord (25, [some v, l1], st, M) = am_run G d K_Ta_readWord (26, [some v, l1], v :: st, M) := by
  rcases am_isr_cases hv with ⟨q, rfl⟩ | rfl
  · exact am_run_next (x := (.aload_n 0, 1, 0, 0, 0, 0)) (by decide +kernel) rfl
  · exact am_run_next (x := (.aload_n 0, 1, 0, 0, 0, 0)) (by decide +kernel) rfl
theorem r_Ta_readWord_26 {G : Nat → Value} {d : Nat} {st : List Value} {M : am_M} {l0 l1 : Option Value} {v : Value} (hv : v.category = 1) : am_run G d K_Ta_readWord (26, [l0, l1], v :: st, M) = am_run G d K_Ta_readWord (27, [l0, l1], v :: v :: st, M) := am_run_next (x := (.dup, 1, 0, 0, 0, 0)) (by decide +kernel) (if_pos hv)
theorem r_Ta_readWord_27 {G : Nat → Value} {d : Nat} {st : List Value} {M : am_M} {l0 l1 : Option Value} {a : Nat} : am_run G d K_Ta_readWord (27, [l0, l1], .ref a :: st, M) = am_kf G d K_Ta_readWord 30 [l0, l1] st M (am_fld M a 7 2) := am_run_kf (x := (.getfield 22, 3, 7, 2, 1048, 0)) (by decide +kernel) rfl
theorem r_Ta_readWord_30 {G : Nat → Value} {d : Nat} {st : List Value} {M : am_M} {l0 l1 : Option Value} : am_run G d K_Ta_readWord (30, [l0, l1], st, M) = am_run G d K_Ta_readWord (31, [l0, l1], .int 1 :: st, M) := am_run_next (x := (.iconst 1, 1, 0, 0, 0, 0)) (by decide +kernel) rfl
theorem r_Ta_readWord_31 {G : Nat → Value} {d : Nat} {st : List Value} {M : am_M} {l0 l1 : Option Value} {a b : Int32} : am_run G d K_Ta_readWord (31, [l0, l1], .int b :: .int a :: st, M) = am_run G d K_Ta_readWord (32, [l0, l1], .int (a + b) :: st, M) := am_run_next (x := (.iadd, 1, 0, 0, 0, 0)) (by decide +kernel) rfl
theorem r_Ta_readWord_32 {G : Nat → Value} {d : Nat} {st : List Value} {M : am_M} {l0 l1 : Option Value} {a : Nat} {v : Value} : am_run G d K_Ta_readWord (32, [l0, l1], v :: .ref a :: st, M) = am_km G d K_Ta_readWord 35 [l0, l1] st (am_pf M a 7 2 .int v) := am_run_km (x := (.putfield 22, 3, 7, 2, 1048, 0)) (by decide +kernel) rfl
theorem r_Ta_readWord_35 {G : Nat → Value} {d : Nat} {st : List Value} {M : am_M} {l0 l1 : Option Value} : am_run G d K_Ta_readWord (35, [l0, l1], st, M) = am_run G d K_Ta_readWord (0, [l0, l1], st, M) := am_run_next (x := (.goto (-35), 3, 0, 0, 0, 0)) (by decide +kernel) rfl
theorem r_Ta_readWord_38 {G : Nat → Value} {d : Nat} {st : List Value} {M : am_M} {l1 : Option Value} {v : Value} (hv : am_isr v = true) : am_run G d K_Ta_readWord (38, [some v, l1], st, M) = am_run G d K_Ta_readWord (39, [some v, l1], v :: st, M) := by
  rcases am_isr_cases hv with ⟨q, rfl⟩ | rfl
  · exact am_run_next (x := (.aload_n 0, 1, 0, 0, 0, 0)) (by decide +kernel) rfl
  · exact am_run_next (x := (.aload_n 0, 1, 0, 0, 0, 0)) (by decide +kernel) rfl
theorem r_Ta_readWord_39 {G : Nat → Value} {d : Nat} {st : List Value} {M : am_M} {l0 l1 : Option Value} : am_run G d K_Ta_readWord (39, [l0, l1], st, M) = am_run G d K_Ta_readWord (41, [l0, l1], .int (-2) :: st, M) := am_run_next (x := (.bipush (-2), 2, 0, 0, 0, 0)) (by decide +kernel) rfl
theorem r_Ta_readWord_41 {G : Nat → Value} {d : Nat} {st : List Value} {M : am_M} {l0 l1 : Option Value} {a : Nat} {v : Value} : am_run G d K_Ta_readWord (41, [l0, l1], v :: .ref a :: st, M) = am_km G d K_Ta_readWord 44 [l0, l1] st (am_pf M a 7 3 .int v) := am_run_km (x := (.putfield 38, 3, 7, 3, 1049, 0)) (by decide +kernel) rfl
theorem r_Ta_readWord_44 {G : Nat → Value} {d : Nat} {st : List Value} {M : am_M} {l0 l1 : Option Value} : am_run G d K_Ta_readWord (44, [l0, l1], st, M) = am_run G d K_Ta_readWord (45, [l0, l1], .int 0 :: st, M) := am_run_next (x := (.iconst 0, 1, 0, 0, 0, 0)) (by decide +kernel) rfl
theorem r_Ta_readWord_45 {G : Nat → Value} {d : Nat} {st : List Value} {M : am_M} {l0 l1 : Option Value} {v : Int32} (hc : am_c1 l0 = true) : am_run G d K_Ta_readWord (45, [l0, l1], .int v :: st, M) = am_run G d K_Ta_readWord (46, [l0, some (.int v)], st, M) := by
  rcases am_c1_cases hc with rfl | ⟨q, rfl⟩ | ⟨q, rfl⟩ | rfl
  · exact am_run_next (x := (.istore_n 1, 1, 0, 0, 0, 0)) (by decide +kernel) rfl
  · exact am_run_next (x := (.istore_n 1, 1, 0, 0, 0, 0)) (by decide +kernel) rfl
  · exact am_run_next (x := (.istore_n 1, 1, 0, 0, 0, 0)) (by decide +kernel) rfl
  · exact am_run_next (x := (.istore_n 1, 1, 0, 0, 0, 0)) (by decide +kernel) rfl
theorem r_Ta_readWord_45_k {G : Nat → Value} {d : Nat} {st : List Value} {M : am_M} {l1 : Option Value} {v : Int32} {z : Int64} : am_run G d K_Ta_readWord (45, [some (.long z), l1], .int v :: st, M) = am_run G d K_Ta_readWord (46, [none, some (.int v)], st, M) := am_run_next (x := (.istore_n 1, 1, 0, 0, 0, 0)) (by decide +kernel) rfl
theorem r_Ta_readWord_46 {G : Nat → Value} {d : Nat} {st : List Value} {M : am_M} {l0 : Option Value} {v : Int32} : am_run G d K_Ta_readWord (46, [l0, some (.int v)], st, M) = am_run G d K_Ta_readWord (47, [l0, some (.int v)], .int v :: st, M) := am_run_next (x := (.iload_n 1, 1, 0, 0, 0, 0)) (by decide +kernel) rfl
theorem r_Ta_readWord_47 {G : Nat → Value} {d : Nat} {st : List Value} {M : am_M} {l0 l1 : Option Value} : am_run G d K_Ta_readWord (47, [l0, l1], st, M) = am_run G d K_Ta_readWord (49, [l0, l1], .int 11 :: st, M) := am_run_next (x := (.bipush 11, 2, 0, 0, 0, 0)) (by decide +kernel) rfl
theorem r_Ta_readWord_49 {G : Nat → Value} {d : Nat} {st : List Value} {M : am_M} {l0 l1 : Option Value} {a b : Int32} : am_run G d K_Ta_readWord (49, [l0, l1], .int b :: .int a :: st, M) = if b ≤ a then am_run G d K_Ta_readWord (90, [l0, l1], st, M) else am_run G d K_Ta_readWord (52, [l0, l1], st, M) := by
  split
  · next h => exact am_run_next (x := (.if_icmp .ge 41, 3, 0, 0, 0, 0)) (by decide +kernel) (am_br_t (decide_eq_true h) (by decide))
  · next h => exact am_run_next (x := (.if_icmp .ge 41, 3, 0, 0, 0, 0)) (by decide +kernel) (am_br_f (decide_eq_false h) (by decide))
theorem r_Ta_readWord_52 {G : Nat → Value} {d : Nat} {st : List Value} {M : am_M} {l1 : Option Value} {v : Value} (hv : am_isr v = true) : am_run G d K_Ta_readWord (52, [some v, l1], st, M) = am_run G d K_Ta_readWord (53, [some v, l1], v :: st, M) := by
  rcases am_isr_cases hv with ⟨q, rfl⟩ | rfl
  · exact am_run_next (x := (.aload_n 0, 1, 0, 0, 0, 0)) (by decide +kernel) rfl
  · exact am_run_next (x := (.aload_n 0, 1, 0, 0, 0, 0)) (by decide +kernel) rfl
theorem r_Ta_readWord_53 {G : Nat → Value} {d : Nat} {st : List Value} {M : am_M} {l0 : Option Value} {v : Int32} : am_run G d K_Ta_readWord (53, [l0, some (.int v)], st, M) = am_run G d K_Ta_readWord (54, [l0, some (.int v)], .int v :: st, M) := am_run_next (x := (.iload_n 1, 1, 0, 0, 0, 0)) (by decide +kernel) rfl
theorem r_Ta_readWord_54 {G : Nat → Value} {d : Nat} {st : List Value} {M : am_M} {l0 l1 : Option Value} {a0 : Int32} (h8 : am_sw st ≤ 8) : am_run G d K_Ta_readWord (54, [l0, l1], .int a0 :: st, M) = am_k G d K_Ta_readWord 57 [l0, l1] st (am_ex G d K_Ta_wordAt [.int a0] M) := am_run_is (i := 104) (n := 1) (pl := 1195) (Bs := [.int a0]) (z := K_Ta_wordAt) (v := 1) (by decide) (by decide) (by decide +kernel) h8 rfl (Nat.le_of_ble_eq_true rfl) rfl
theorem r_Ta_readWord_57 {G : Nat → Value} {d : Nat} {st : List Value} {M : am_M} {l0 l1 : Option Value} {q : Nat} {a0 : Value} (h0 : am_isr a0 = true) (hq : am_cls M q = some 7) (h8 : am_sw st ≤ 8) : am_run G d K_Ta_readWord (57, [l0, l1], a0 :: .ref q :: st, M) = am_k G d K_Ta_readWord 60 [l0, l1] st (am_ex G d K_Ta_isWord [.ref q, a0] M) := by
  have he : (am_exp [.ref q, a0]).length ≤ am_mL K_Ta_isWord := by
    rcases am_isr_cases h0 with ⟨z0, rfl⟩ | rfl <;> exact Nat.le_of_ble_eq_true rfl
  exact am_run_iv (i := 108) (n := 1) (pl := 1209) (Bs := [a0]) (z := K_Ta_isWord) (by decide +kernel) hq h8 rfl he rfl
theorem r_Ta_readWord_60 {G : Nat → Value} {d : Nat} {st : List Value} {M : am_M} {l0 l1 : Option Value} {a : Int32} : am_run G d K_Ta_readWord (60, [l0, l1], .int a :: st, M) = if a = 0 then am_run G d K_Ta_readWord (84, [l0, l1], st, M) else am_run G d K_Ta_readWord (63, [l0, l1], st, M) := by
  split
  · next h => exact am_run_next (x := (.ifCond .eq 24, 3, 0, 0, 0, 0)) (by decide +kernel) (am_br_t (decide_eq_true h) (by decide))
  · next h => exact am_run_next (x := (.ifCond .eq 24, 3, 0, 0, 0, 0)) (by decide +kernel) (am_br_f (decide_eq_false h) (by decide))
theorem r_Ta_readWord_63 {G : Nat → Value} {d : Nat} {st : List Value} {M : am_M} {l1 : Option Value} {v : Value} (hv : am_isr v = true) : am_run G d K_Ta_readWord (63, [some v, l1], st, M) = am_run G d K_Ta_readWord (64, [some v, l1], v :: st, M) := by
  rcases am_isr_cases hv with ⟨q, rfl⟩ | rfl
  · exact am_run_next (x := (.aload_n 0, 1, 0, 0, 0, 0)) (by decide +kernel) rfl
  · exact am_run_next (x := (.aload_n 0, 1, 0, 0, 0, 0)) (by decide +kernel) rfl
theorem r_Ta_readWord_64 {G : Nat → Value} {d : Nat} {st : List Value} {M : am_M} {l0 : Option Value} {v : Int32} : am_run G d K_Ta_readWord (64, [l0, some (.int v)], st, M) = am_run G d K_Ta_readWord (65, [l0, some (.int v)], .int v :: st, M) := am_run_next (x := (.iload_n 1, 1, 0, 0, 0, 0)) (by decide +kernel) rfl
theorem r_Ta_readWord_65 {G : Nat → Value} {d : Nat} {st : List Value} {M : am_M} {l0 l1 : Option Value} {a : Nat} {v : Value} : am_run G d K_Ta_readWord (65, [l0, l1], v :: .ref a :: st, M) = am_km G d K_Ta_readWord 68 [l0, l1] st (am_pf M a 7 5 .int v) := am_run_km (x := (.putfield 78, 3, 7, 5, 1051, 0)) (by decide +kernel) rfl
theorem r_Ta_readWord_68 {G : Nat → Value} {d : Nat} {st : List Value} {M : am_M} {l1 : Option Value} {v : Value} (hv : am_isr v = true) : am_run G d K_Ta_readWord (68, [some v, l1], st, M) = am_run G d K_Ta_readWord (69, [some v, l1], v :: st, M) := by
  rcases am_isr_cases hv with ⟨q, rfl⟩ | rfl
  · exact am_run_next (x := (.aload_n 0, 1, 0, 0, 0, 0)) (by decide +kernel) rfl
  · exact am_run_next (x := (.aload_n 0, 1, 0, 0, 0, 0)) (by decide +kernel) rfl
theorem r_Ta_readWord_69 {G : Nat → Value} {d : Nat} {st : List Value} {M : am_M} {l0 : Option Value} {v : Int32} : am_run G d K_Ta_readWord (69, [l0, some (.int v)], st, M) = am_run G d K_Ta_readWord (70, [l0, some (.int v)], .int v :: st, M) := am_run_next (x := (.iload_n 1, 1, 0, 0, 0, 0)) (by decide +kernel) rfl
theorem r_Ta_readWord_70 {G : Nat → Value} {d : Nat} {st : List Value} {M : am_M} {l0 l1 : Option Value} : am_run G d K_Ta_readWord (70, [l0, l1], st, M) = am_run G d K_Ta_readWord (72, [l0, l1], .int 6 :: st, M) := am_run_next (x := (.bipush 6, 2, 0, 0, 0, 0)) (by decide +kernel) rfl
theorem r_Ta_readWord_72 {G : Nat → Value} {d : Nat} {st : List Value} {M : am_M} {l0 l1 : Option Value} {a b : Int32} : am_run G d K_Ta_readWord (72, [l0, l1], .int b :: .int a :: st, M) = if b ≤ a then am_run G d K_Ta_readWord (80, [l0, l1], st, M) else am_run G d K_Ta_readWord (75, [l0, l1], st, M) := by
  split
  · next h => exact am_run_next (x := (.if_icmp .ge 8, 3, 0, 0, 0, 0)) (by decide +kernel) (am_br_t (decide_eq_true h) (by decide))
  · next h => exact am_run_next (x := (.if_icmp .ge 8, 3, 0, 0, 0, 0)) (by decide +kernel) (am_br_f (decide_eq_false h) (by decide))
theorem r_Ta_readWord_75 {G : Nat → Value} {d : Nat} {st : List Value} {M : am_M} {l0 l1 : Option Value} : am_run G d K_Ta_readWord (75, [l0, l1], st, M) = am_run G d K_Ta_readWord (77, [l0, l1], .int (-4) :: st, M) := am_run_next (x := (.bipush (-4), 2, 0, 0, 0, 0)) (by decide +kernel) rfl
theorem r_Ta_readWord_77 {G : Nat → Value} {d : Nat} {st : List Value} {M : am_M} {l0 l1 : Option Value} : am_run G d K_Ta_readWord (77, [l0, l1], st, M) = am_run G d K_Ta_readWord (81, [l0, l1], st, M) := am_run_next (x := (.goto 4, 3, 0, 0, 0, 0)) (by decide +kernel) rfl
theorem r_Ta_readWord_80 {G : Nat → Value} {d : Nat} {st : List Value} {M : am_M} {l0 : Option Value} {v : Int32} : am_run G d K_Ta_readWord (80, [l0, some (.int v)], st, M) = am_run G d K_Ta_readWord (81, [l0, some (.int v)], .int v :: st, M) := am_run_next (x := (.iload_n 1, 1, 0, 0, 0, 0)) (by decide +kernel) rfl
theorem r_Ta_readWord_81 {G : Nat → Value} {d : Nat} {st : List Value} {M : am_M} {l0 l1 : Option Value} {a : Nat} {v : Value} : am_run G d K_Ta_readWord (81, [l0, l1], v :: .ref a :: st, M) = am_km G d K_Ta_readWord 84 [l0, l1] st (am_pf M a 7 3 .int v) := am_run_km (x := (.putfield 38, 3, 7, 3, 1049, 0)) (by decide +kernel) rfl
theorem r_Ta_readWord_84 {G : Nat → Value} {d : Nat} {st : List Value} {M : am_M} {l0 : Option Value} {v : Int32} (hc : am_c1 l0 = true) : am_run G d K_Ta_readWord (84, [l0, some (.int v)], st, M) = am_run G d K_Ta_readWord (87, [l0, some (.int (v + 1))], st, M) := by
  rcases am_c1_cases hc with rfl | ⟨q, rfl⟩ | ⟨q, rfl⟩ | rfl
  · exact am_run_next (x := (.iinc 1 1, 3, 0, 0, 0, 0)) (by decide +kernel) rfl
  · exact am_run_next (x := (.iinc 1 1, 3, 0, 0, 0, 0)) (by decide +kernel) rfl
  · exact am_run_next (x := (.iinc 1 1, 3, 0, 0, 0, 0)) (by decide +kernel) rfl
  · exact am_run_next (x := (.iinc 1 1, 3, 0, 0, 0, 0)) (by decide +kernel) rfl
theorem r_Ta_readWord_84_k {G : Nat → Value} {d : Nat} {st : List Value} {M : am_M} {v : Int32} {z : Int64} : am_run G d K_Ta_readWord (84, [some (.long z), some (.int v)], st, M) = am_run G d K_Ta_readWord (87, [none, some (.int (v + 1))], st, M) := am_run_next (x := (.iinc 1 1, 3, 0, 0, 0, 0)) (by decide +kernel) rfl
theorem r_Ta_readWord_87 {G : Nat → Value} {d : Nat} {st : List Value} {M : am_M} {l0 l1 : Option Value} : am_run G d K_Ta_readWord (87, [l0, l1], st, M) = am_run G d K_Ta_readWord (46, [l0, l1], st, M) := am_run_next (x := (.goto (-41), 3, 0, 0, 0, 0)) (by decide +kernel) rfl
theorem r_Ta_readWord_90 {G : Nat → Value} {d : Nat} {M : am_M} {l0 l1 : Option Value} : am_run G d K_Ta_readWord (90, [l0, l1], [], M) = some (none, M) := am_run_ret (x := (.return_, 1, 0, 0, 0, 0)) (by decide +kernel) rfl
theorem r_Ta_wordAt_0 {G : Nat → Value} {d : Nat} {st : List Value} {M : am_M} {v : Int32} : am_run G d K_Ta_wordAt (0, [some (.int v)], st, M) = am_run G d K_Ta_wordAt (1, [some (.int v)], .int v :: st, M) := am_run_next (x := (.iload_n 0, 1, 0, 0, 0, 0)) (by decide +kernel) rfl
theorem r_Ta_wordAt_1 {G : Nat → Value} {d : Nat} {st : List Value} {M : am_M} {l0 : Option Value} {a : Int32} : am_run G d K_Ta_wordAt (1, [l0], .int a :: st, M) = if a = 0 then am_run G d K_Ta_wordAt (56, [l0], st, M) else if a = 1 then am_run G d K_Ta_wordAt (59, [l0], st, M) else if a = 2 then am_run G d K_Ta_wordAt (62, [l0], st, M) else if a = 3 then am_run G d K_Ta_wordAt (65, [l0], st, M) else if a = 4 then am_run G d K_Ta_wordAt (68, [l0], st, M) else if a = 5 then am_run G d K_Ta_wordAt (71, [l0], st, M) else if a = 6 then am_run G d K_Ta_wordAt (74, [l0], st, M) else if a = 7 then am_run G d K_Ta_wordAt (77, [l0], st, M) else if a = 8 then am_run G d K_Ta_wordAt (80, [l0], st, M) else if a = 9 then am_run G d K_Ta_wordAt (83, [l0], st, M) else am_run G d K_Ta_wordAt (86, [l0], st, M) := by
  by_cases h0 : a = 0
  · rw [if_pos h0]
    subst h0
    exact am_run_next (x := (.tableswitch 85 0 9 #[55, 58, 61, 64, 67, 70, 73, 76, 79, 82], 55, 0, 0, 0, 0)) (by decide +kernel) rfl
  rw [if_neg h0]
  by_cases h1 : a = 1
  · rw [if_pos h1]
    subst h1
    exact am_run_next (x := (.tableswitch 85 0 9 #[55, 58, 61, 64, 67, 70, 73, 76, 79, 82], 55, 0, 0, 0, 0)) (by decide +kernel) rfl
  rw [if_neg h1]
  by_cases h2 : a = 2
  · rw [if_pos h2]
    subst h2
    exact am_run_next (x := (.tableswitch 85 0 9 #[55, 58, 61, 64, 67, 70, 73, 76, 79, 82], 55, 0, 0, 0, 0)) (by decide +kernel) rfl
  rw [if_neg h2]
  by_cases h3 : a = 3
  · rw [if_pos h3]
    subst h3
    exact am_run_next (x := (.tableswitch 85 0 9 #[55, 58, 61, 64, 67, 70, 73, 76, 79, 82], 55, 0, 0, 0, 0)) (by decide +kernel) rfl
  rw [if_neg h3]
  by_cases h4 : a = 4
  · rw [if_pos h4]
    subst h4
    exact am_run_next (x := (.tableswitch 85 0 9 #[55, 58, 61, 64, 67, 70, 73, 76, 79, 82], 55, 0, 0, 0, 0)) (by decide +kernel) rfl
  rw [if_neg h4]
  by_cases h5 : a = 5
  · rw [if_pos h5]
    subst h5
    exact am_run_next (x := (.tableswitch 85 0 9 #[55, 58, 61, 64, 67, 70, 73, 76, 79, 82], 55, 0, 0, 0, 0)) (by decide +kernel) rfl
  rw [if_neg h5]
  by_cases h6 : a = 6
  · rw [if_pos h6]
    subst h6
    exact am_run_next (x := (.tableswitch 85 0 9 #[55, 58, 61, 64, 67, 70, 73, 76, 79, 82], 55, 0, 0, 0, 0)) (by decide +kernel) rfl
  rw [if_neg h6]
  by_cases h7 : a = 7
  · rw [if_pos h7]
    subst h7
    exact am_run_next (x := (.tableswitch 85 0 9 #[55, 58, 61, 64, 67, 70, 73, 76, 79, 82], 55, 0, 0, 0, 0)) (by decide +kernel) rfl
  rw [if_neg h7]
  by_cases h8 : a = 8
  · rw [if_pos h8]
    subst h8
    exact am_run_next (x := (.tableswitch 85 0 9 #[55, 58, 61, 64, 67, 70, 73, 76, 79, 82], 55, 0, 0, 0, 0)) (by decide +kernel) rfl
  rw [if_neg h8]
  by_cases h9 : a = 9
  · rw [if_pos h9]
    subst h9
    exact am_run_next (x := (.tableswitch 85 0 9 #[55, 58, 61, 64, 67, 70, 73, 76, 79, 82], 55, 0, 0, 0, 0)) (by decide +kernel) rfl
  rw [if_neg h9]
  have g0 := am_ne_i h0 (n := 0) (by decide)
  have g1 := am_ne_i h1 (n := 1) (by decide)
  have g2 := am_ne_i h2 (n := 2) (by decide)
  have g3 := am_ne_i h3 (n := 3) (by decide)
  have g4 := am_ne_i h4 (n := 4) (by decide)
  have g5 := am_ne_i h5 (n := 5) (by decide)
  have g6 := am_ne_i h6 (n := 6) (by decide)
  have g7 := am_ne_i h7 (n := 7) (by decide)
  have g8 := am_ne_i h8 (n := 8) (by decide)
  have g9 := am_ne_i h9 (n := 9) (by decide)
  exact am_run_next (x := (.tableswitch 85 0 9 #[55, 58, 61, 64, 67, 70, 73, 76, 79, 82], 55, 0, 0, 0, 0)) (by decide +kernel) (if_pos (by omega))
theorem r_Ta_wordAt_56 {G : Nat → Value} {d : Nat} {st : List Value} {M : am_M} {l0 : Option Value} : am_run G d K_Ta_wordAt (56, [l0], st, M) = am_run G d K_Ta_wordAt (58, [l0], G 11 :: st, M) := am_run_next (x := (.ldc 120, 2, 1, 11, 1198, 0)) (by decide +kernel) rfl
theorem r_Ta_wordAt_58 {G : Nat → Value} {d : Nat} {M : am_M} {l0 : Option Value} {v : Value} (hv : am_isr v = true) : am_run G d K_Ta_wordAt (58, [l0], [v], M) = some (some v, M) := am_run_ret (x := (.areturn, 1, 0, 0, 0, 0)) (by decide +kernel) (if_pos ⟨hv, rfl⟩)
theorem r_Ta_wordAt_59 {G : Nat → Value} {d : Nat} {st : List Value} {M : am_M} {l0 : Option Value} : am_run G d K_Ta_wordAt (59, [l0], st, M) = am_run G d K_Ta_wordAt (61, [l0], G 12 :: st, M) := am_run_next (x := (.ldc 122, 2, 1, 12, 1199, 0)) (by decide +kernel) rfl
theorem r_Ta_wordAt_61 {G : Nat → Value} {d : Nat} {M : am_M} {l0 : Option Value} {v : Value} (hv : am_isr v = true) : am_run G d K_Ta_wordAt (61, [l0], [v], M) = some (some v, M) := am_run_ret (x := (.areturn, 1, 0, 0, 0, 0)) (by decide +kernel) (if_pos ⟨hv, rfl⟩)
theorem r_Ta_wordAt_62 {G : Nat → Value} {d : Nat} {st : List Value} {M : am_M} {l0 : Option Value} : am_run G d K_Ta_wordAt (62, [l0], st, M) = am_run G d K_Ta_wordAt (64, [l0], G 13 :: st, M) := am_run_next (x := (.ldc 124, 2, 1, 13, 1200, 0)) (by decide +kernel) rfl
theorem r_Ta_wordAt_64 {G : Nat → Value} {d : Nat} {M : am_M} {l0 : Option Value} {v : Value} (hv : am_isr v = true) : am_run G d K_Ta_wordAt (64, [l0], [v], M) = some (some v, M) := am_run_ret (x := (.areturn, 1, 0, 0, 0, 0)) (by decide +kernel) (if_pos ⟨hv, rfl⟩)
theorem r_Ta_wordAt_65 {G : Nat → Value} {d : Nat} {st : List Value} {M : am_M} {l0 : Option Value} : am_run G d K_Ta_wordAt (65, [l0], st, M) = am_run G d K_Ta_wordAt (67, [l0], G 14 :: st, M) := am_run_next (x := (.ldc 126, 2, 1, 14, 1201, 0)) (by decide +kernel) rfl
theorem r_Ta_wordAt_67 {G : Nat → Value} {d : Nat} {M : am_M} {l0 : Option Value} {v : Value} (hv : am_isr v = true) : am_run G d K_Ta_wordAt (67, [l0], [v], M) = some (some v, M) := am_run_ret (x := (.areturn, 1, 0, 0, 0, 0)) (by decide +kernel) (if_pos ⟨hv, rfl⟩)
theorem r_Ta_wordAt_68 {G : Nat → Value} {d : Nat} {st : List Value} {M : am_M} {l0 : Option Value} : am_run G d K_Ta_wordAt (68, [l0], st, M) = am_run G d K_Ta_wordAt (70, [l0], G 15 :: st, M) := am_run_next (x := (.ldc 128, 2, 1, 15, 1202, 0)) (by decide +kernel) rfl
theorem r_Ta_wordAt_70 {G : Nat → Value} {d : Nat} {M : am_M} {l0 : Option Value} {v : Value} (hv : am_isr v = true) : am_run G d K_Ta_wordAt (70, [l0], [v], M) = some (some v, M) := am_run_ret (x := (.areturn, 1, 0, 0, 0, 0)) (by decide +kernel) (if_pos ⟨hv, rfl⟩)
theorem r_Ta_wordAt_71 {G : Nat → Value} {d : Nat} {st : List Value} {M : am_M} {l0 : Option Value} : am_run G d K_Ta_wordAt (71, [l0], st, M) = am_run G d K_Ta_wordAt (73, [l0], G 16 :: st, M) := am_run_next (x := (.ldc 130, 2, 1, 16, 1203, 0)) (by decide +kernel) rfl
theorem r_Ta_wordAt_73 {G : Nat → Value} {d : Nat} {M : am_M} {l0 : Option Value} {v : Value} (hv : am_isr v = true) : am_run G d K_Ta_wordAt (73, [l0], [v], M) = some (some v, M) := am_run_ret (x := (.areturn, 1, 0, 0, 0, 0)) (by decide +kernel) (if_pos ⟨hv, rfl⟩)
theorem r_Ta_wordAt_74 {G : Nat → Value} {d : Nat} {st : List Value} {M : am_M} {l0 : Option Value} : am_run G d K_Ta_wordAt (74, [l0], st, M) = am_run G d K_Ta_wordAt (76, [l0], G 17 :: st, M) := am_run_next (x := (.ldc 132, 2, 1, 17, 1204, 0)) (by decide +kernel) rfl
theorem r_Ta_wordAt_76 {G : Nat → Value} {d : Nat} {M : am_M} {l0 : Option Value} {v : Value} (hv : am_isr v = true) : am_run G d K_Ta_wordAt (76, [l0], [v], M) = some (some v, M) := am_run_ret (x := (.areturn, 1, 0, 0, 0, 0)) (by decide +kernel) (if_pos ⟨hv, rfl⟩)
theorem r_Ta_wordAt_77 {G : Nat → Value} {d : Nat} {st : List Value} {M : am_M} {l0 : Option Value} : am_run G d K_Ta_wordAt (77, [l0], st, M) = am_run G d K_Ta_wordAt (79, [l0], G 18 :: st, M) := am_run_next (x := (.ldc 134, 2, 1, 18, 1205, 0)) (by decide +kernel) rfl
theorem r_Ta_wordAt_79 {G : Nat → Value} {d : Nat} {M : am_M} {l0 : Option Value} {v : Value} (hv : am_isr v = true) : am_run G d K_Ta_wordAt (79, [l0], [v], M) = some (some v, M) := am_run_ret (x := (.areturn, 1, 0, 0, 0, 0)) (by decide +kernel) (if_pos ⟨hv, rfl⟩)
theorem r_Ta_wordAt_80 {G : Nat → Value} {d : Nat} {st : List Value} {M : am_M} {l0 : Option Value} : am_run G d K_Ta_wordAt (80, [l0], st, M) = am_run G d K_Ta_wordAt (82, [l0], G 19 :: st, M) := am_run_next (x := (.ldc 136, 2, 1, 19, 1206, 0)) (by decide +kernel) rfl
theorem r_Ta_wordAt_82 {G : Nat → Value} {d : Nat} {M : am_M} {l0 : Option Value} {v : Value} (hv : am_isr v = true) : am_run G d K_Ta_wordAt (82, [l0], [v], M) = some (some v, M) := am_run_ret (x := (.areturn, 1, 0, 0, 0, 0)) (by decide +kernel) (if_pos ⟨hv, rfl⟩)
theorem r_Ta_wordAt_83 {G : Nat → Value} {d : Nat} {st : List Value} {M : am_M} {l0 : Option Value} : am_run G d K_Ta_wordAt (83, [l0], st, M) = am_run G d K_Ta_wordAt (85, [l0], G 20 :: st, M) := am_run_next (x := (.ldc 138, 2, 1, 20, 1207, 0)) (by decide +kernel) rfl
theorem r_Ta_wordAt_85 {G : Nat → Value} {d : Nat} {M : am_M} {l0 : Option Value} {v : Value} (hv : am_isr v = true) : am_run G d K_Ta_wordAt (85, [l0], [v], M) = some (some v, M) := am_run_ret (x := (.areturn, 1, 0, 0, 0, 0)) (by decide +kernel) (if_pos ⟨hv, rfl⟩)
theorem r_Ta_wordAt_86 {G : Nat → Value} {d : Nat} {st : List Value} {M : am_M} {l0 : Option Value} : am_run G d K_Ta_wordAt (86, [l0], st, M) = am_run G d K_Ta_wordAt (88, [l0], G 21 :: st, M) := am_run_next (x := (.ldc 140, 2, 1, 21, 1208, 0)) (by decide +kernel) rfl
theorem r_Ta_wordAt_88 {G : Nat → Value} {d : Nat} {M : am_M} {l0 : Option Value} {v : Value} (hv : am_isr v = true) : am_run G d K_Ta_wordAt (88, [l0], [v], M) = some (some v, M) := am_run_ret (x := (.areturn, 1, 0, 0, 0, 0)) (by decide +kernel) (if_pos ⟨hv, rfl⟩)
theorem r_Ta_isWord_0 {G : Nat → Value} {d : Nat} {st : List Value} {M : am_M} {l0 l2 : Option Value} {v : Value} (hv : am_isr v = true) : am_run G d K_Ta_isWord (0, [l0, some v, l2], st, M) = am_run G d K_Ta_isWord (1, [l0, some v, l2], v :: st, M) := by
  rcases am_isr_cases hv with ⟨q, rfl⟩ | rfl
  · exact am_run_next (x := (.aload_n 1, 1, 0, 0, 0, 0)) (by decide +kernel) rfl
  · exact am_run_next (x := (.aload_n 1, 1, 0, 0, 0, 0)) (by decide +kernel) rfl
theorem r_Ta_isWord_1 {G : Nat → Value} {d : Nat} {st : List Value} {M : am_M} {l0 l1 l2 : Option Value} {q : Nat} (hq : am_cls M q = some 11) (h8 : am_sw st ≤ 8) : am_run G d K_Ta_isWord (1, [l0, l1, l2], .ref q :: st, M) = am_k G d K_Ta_isWord 4 [l0, l1, l2] st (am_ex G d K_Js_length [.ref q] M) := am_run_iv (i := 112) (n := 0) (pl := 1213) (Bs := []) (z := K_Js_length) (by decide +kernel) hq h8 rfl (Nat.le_of_ble_eq_true rfl) rfl
theorem r_Ta_isWord_4 {G : Nat → Value} {d : Nat} {st : List Value} {M : am_M} {l1 l2 : Option Value} {v : Value} (hv : am_isr v = true) : am_run G d K_Ta_isWord (4, [some v, l1, l2], st, M) = am_run G d K_Ta_isWord (5, [some v, l1, l2], v :: st, M) := by
  rcases am_isr_cases hv with ⟨q, rfl⟩ | rfl
  · exact am_run_next (x := (.aload_n 0, 1, 0, 0, 0, 0)) (by decide +kernel) rfl
  · exact am_run_next (x := (.aload_n 0, 1, 0, 0, 0, 0)) (by decide +kernel) rfl
theorem r_Ta_isWord_5 {G : Nat → Value} {d : Nat} {st : List Value} {M : am_M} {l0 l1 l2 : Option Value} {a : Nat} : am_run G d K_Ta_isWord (5, [l0, l1, l2], .ref a :: st, M) = am_kf G d K_Ta_isWord 8 [l0, l1, l2] st M (am_fld M a 7 2) := am_run_kf (x := (.getfield 22, 3, 7, 2, 1048, 0)) (by decide +kernel) rfl
theorem r_Ta_isWord_8 {G : Nat → Value} {d : Nat} {st : List Value} {M : am_M} {l1 l2 : Option Value} {v : Value} (hv : am_isr v = true) : am_run G d K_Ta_isWord (8, [some v, l1, l2], st, M) = am_run G d K_Ta_isWord (9, [some v, l1, l2], v :: st, M) := by
  rcases am_isr_cases hv with ⟨q, rfl⟩ | rfl
  · exact am_run_next (x := (.aload_n 0, 1, 0, 0, 0, 0)) (by decide +kernel) rfl
  · exact am_run_next (x := (.aload_n 0, 1, 0, 0, 0, 0)) (by decide +kernel) rfl
theorem r_Ta_isWord_9 {G : Nat → Value} {d : Nat} {st : List Value} {M : am_M} {l0 l1 l2 : Option Value} {a : Nat} : am_run G d K_Ta_isWord (9, [l0, l1, l2], .ref a :: st, M) = am_kf G d K_Ta_isWord 12 [l0, l1, l2] st M (am_fld M a 7 4) := am_run_kf (x := (.getfield 32, 3, 7, 4, 1050, 0)) (by decide +kernel) rfl
theorem r_Ta_isWord_12 {G : Nat → Value} {d : Nat} {st : List Value} {M : am_M} {l0 l1 l2 : Option Value} {a b : Int32} : am_run G d K_Ta_isWord (12, [l0, l1, l2], .int b :: .int a :: st, M) = am_run G d K_Ta_isWord (13, [l0, l1, l2], .int (a - b) :: st, M) := am_run_next (x := (.isub, 1, 0, 0, 0, 0)) (by decide +kernel) rfl
theorem r_Ta_isWord_13 {G : Nat → Value} {d : Nat} {st : List Value} {M : am_M} {l0 l1 l2 : Option Value} {a b : Int32} : am_run G d K_Ta_isWord (13, [l0, l1, l2], .int b :: .int a :: st, M) = if a = b then am_run G d K_Ta_isWord (18, [l0, l1, l2], st, M) else am_run G d K_Ta_isWord (16, [l0, l1, l2], st, M) := by
  split
  · next h => exact am_run_next (x := (.if_icmp .eq 5, 3, 0, 0, 0, 0)) (by decide +kernel) (am_br_t (decide_eq_true h) (by decide))
  · next h => exact am_run_next (x := (.if_icmp .eq 5, 3, 0, 0, 0, 0)) (by decide +kernel) (am_br_f (decide_eq_false h) (by decide))
theorem r_Ta_isWord_16 {G : Nat → Value} {d : Nat} {st : List Value} {M : am_M} {l0 l1 l2 : Option Value} : am_run G d K_Ta_isWord (16, [l0, l1, l2], st, M) = am_run G d K_Ta_isWord (17, [l0, l1, l2], .int 0 :: st, M) := am_run_next (x := (.iconst 0, 1, 0, 0, 0, 0)) (by decide +kernel) rfl
theorem r_Ta_isWord_17 {G : Nat → Value} {d : Nat} {M : am_M} {l0 l1 l2 : Option Value} {a : Int32} (ha : a = 0 ∨ a = 1) : am_run G d K_Ta_isWord (17, [l0, l1, l2], [.int a], M) = some (some (.int a), M) := am_run_ret (x := (.ireturn, 1, 0, 0, 0, 0)) (by decide +kernel) (if_pos (decide_eq_true ha))
theorem r_Ta_isWord_18 {G : Nat → Value} {d : Nat} {st : List Value} {M : am_M} {l0 l1 l2 : Option Value} : am_run G d K_Ta_isWord (18, [l0, l1, l2], st, M) = am_run G d K_Ta_isWord (19, [l0, l1, l2], .int 0 :: st, M) := am_run_next (x := (.iconst 0, 1, 0, 0, 0, 0)) (by decide +kernel) rfl
theorem r_Ta_isWord_19 {G : Nat → Value} {d : Nat} {st : List Value} {M : am_M} {l0 l1 l2 : Option Value} {v : Int32} (hc : am_c1 l1 = true) : am_run G d K_Ta_isWord (19, [l0, l1, l2], .int v :: st, M) = am_run G d K_Ta_isWord (20, [l0, l1, some (.int v)], st, M) := by
  rcases am_c1_cases hc with rfl | ⟨q, rfl⟩ | ⟨q, rfl⟩ | rfl
  · exact am_run_next (x := (.istore_n 2, 1, 0, 0, 0, 0)) (by decide +kernel) rfl
  · exact am_run_next (x := (.istore_n 2, 1, 0, 0, 0, 0)) (by decide +kernel) rfl
  · exact am_run_next (x := (.istore_n 2, 1, 0, 0, 0, 0)) (by decide +kernel) rfl
  · exact am_run_next (x := (.istore_n 2, 1, 0, 0, 0, 0)) (by decide +kernel) rfl
theorem r_Ta_isWord_19_k {G : Nat → Value} {d : Nat} {st : List Value} {M : am_M} {l0 l2 : Option Value} {v : Int32} {z : Int64} : am_run G d K_Ta_isWord (19, [l0, some (.long z), l2], .int v :: st, M) = am_run G d K_Ta_isWord (20, [l0, none, some (.int v)], st, M) := am_run_next (x := (.istore_n 2, 1, 0, 0, 0, 0)) (by decide +kernel) rfl
theorem r_Ta_isWord_20 {G : Nat → Value} {d : Nat} {st : List Value} {M : am_M} {l0 l1 : Option Value} {v : Int32} : am_run G d K_Ta_isWord (20, [l0, l1, some (.int v)], st, M) = am_run G d K_Ta_isWord (21, [l0, l1, some (.int v)], .int v :: st, M) := am_run_next (x := (.iload_n 2, 1, 0, 0, 0, 0)) (by decide +kernel) rfl
theorem r_Ta_isWord_21 {G : Nat → Value} {d : Nat} {st : List Value} {M : am_M} {l0 l2 : Option Value} {v : Value} (hv : am_isr v = true) : am_run G d K_Ta_isWord (21, [l0, some v, l2], st, M) = am_run G d K_Ta_isWord (22, [l0, some v, l2], v :: st, M) := by
  rcases am_isr_cases hv with ⟨q, rfl⟩ | rfl
  · exact am_run_next (x := (.aload_n 1, 1, 0, 0, 0, 0)) (by decide +kernel) rfl
  · exact am_run_next (x := (.aload_n 1, 1, 0, 0, 0, 0)) (by decide +kernel) rfl
theorem r_Ta_isWord_22 {G : Nat → Value} {d : Nat} {st : List Value} {M : am_M} {l0 l1 l2 : Option Value} {q : Nat} (hq : am_cls M q = some 11) (h8 : am_sw st ≤ 8) : am_run G d K_Ta_isWord (22, [l0, l1, l2], .ref q :: st, M) = am_k G d K_Ta_isWord 25 [l0, l1, l2] st (am_ex G d K_Js_length [.ref q] M) := am_run_iv (i := 112) (n := 0) (pl := 1213) (Bs := []) (z := K_Js_length) (by decide +kernel) hq h8 rfl (Nat.le_of_ble_eq_true rfl) rfl
theorem r_Ta_isWord_25 {G : Nat → Value} {d : Nat} {st : List Value} {M : am_M} {l0 l1 l2 : Option Value} {a b : Int32} : am_run G d K_Ta_isWord (25, [l0, l1, l2], .int b :: .int a :: st, M) = if b ≤ a then am_run G d K_Ta_isWord (54, [l0, l1, l2], st, M) else am_run G d K_Ta_isWord (28, [l0, l1, l2], st, M) := by
  split
  · next h => exact am_run_next (x := (.if_icmp .ge 29, 3, 0, 0, 0, 0)) (by decide +kernel) (am_br_t (decide_eq_true h) (by decide))
  · next h => exact am_run_next (x := (.if_icmp .ge 29, 3, 0, 0, 0, 0)) (by decide +kernel) (am_br_f (decide_eq_false h) (by decide))
theorem r_Ta_isWord_28 {G : Nat → Value} {d : Nat} {st : List Value} {M : am_M} {l0 l2 : Option Value} {v : Value} (hv : am_isr v = true) : am_run G d K_Ta_isWord (28, [l0, some v, l2], st, M) = am_run G d K_Ta_isWord (29, [l0, some v, l2], v :: st, M) := by
  rcases am_isr_cases hv with ⟨q, rfl⟩ | rfl
  · exact am_run_next (x := (.aload_n 1, 1, 0, 0, 0, 0)) (by decide +kernel) rfl
  · exact am_run_next (x := (.aload_n 1, 1, 0, 0, 0, 0)) (by decide +kernel) rfl
theorem r_Ta_isWord_29 {G : Nat → Value} {d : Nat} {st : List Value} {M : am_M} {l0 l1 : Option Value} {v : Int32} : am_run G d K_Ta_isWord (29, [l0, l1, some (.int v)], st, M) = am_run G d K_Ta_isWord (30, [l0, l1, some (.int v)], .int v :: st, M) := am_run_next (x := (.iload_n 2, 1, 0, 0, 0, 0)) (by decide +kernel) rfl
theorem r_Ta_isWord_30 {G : Nat → Value} {d : Nat} {st : List Value} {M : am_M} {l0 l1 l2 : Option Value} {q : Nat} {a0 : Int32} (hq : am_cls M q = some 11) (h8 : am_sw st ≤ 8) : am_run G d K_Ta_isWord (30, [l0, l1, l2], .int a0 :: .ref q :: st, M) = am_k G d K_Ta_isWord 33 [l0, l1, l2] st (am_ex G d K_Js_charAt [.ref q, .int a0] M) := am_run_iv (i := 116) (n := 1) (pl := 1214) (Bs := [.int a0]) (z := K_Js_charAt) (by decide +kernel) hq h8 rfl (Nat.le_of_ble_eq_true rfl) rfl
theorem r_Ta_isWord_33 {G : Nat → Value} {d : Nat} {st : List Value} {M : am_M} {l1 l2 : Option Value} {v : Value} (hv : am_isr v = true) : am_run G d K_Ta_isWord (33, [some v, l1, l2], st, M) = am_run G d K_Ta_isWord (34, [some v, l1, l2], v :: st, M) := by
  rcases am_isr_cases hv with ⟨q, rfl⟩ | rfl
  · exact am_run_next (x := (.aload_n 0, 1, 0, 0, 0, 0)) (by decide +kernel) rfl
  · exact am_run_next (x := (.aload_n 0, 1, 0, 0, 0, 0)) (by decide +kernel) rfl
theorem r_Ta_isWord_34 {G : Nat → Value} {d : Nat} {st : List Value} {M : am_M} {l1 l2 : Option Value} {v : Value} (hv : am_isr v = true) : am_run G d K_Ta_isWord (34, [some v, l1, l2], st, M) = am_run G d K_Ta_isWord (35, [some v, l1, l2], v :: st, M) := by
  rcases am_isr_cases hv with ⟨q, rfl⟩ | rfl
  · exact am_run_next (x := (.aload_n 0, 1, 0, 0, 0, 0)) (by decide +kernel) rfl
  · exact am_run_next (x := (.aload_n 0, 1, 0, 0, 0, 0)) (by decide +kernel) rfl
theorem r_Ta_isWord_35 {G : Nat → Value} {d : Nat} {st : List Value} {M : am_M} {l0 l1 l2 : Option Value} {a : Nat} : am_run G d K_Ta_isWord (35, [l0, l1, l2], .ref a :: st, M) = am_kf G d K_Ta_isWord 38 [l0, l1, l2] st M (am_fld M a 7 4) := am_run_kf (x := (.getfield 32, 3, 7, 4, 1050, 0)) (by decide +kernel) rfl
theorem r_Ta_isWord_38 {G : Nat → Value} {d : Nat} {st : List Value} {M : am_M} {l0 l1 : Option Value} {v : Int32} : am_run G d K_Ta_isWord (38, [l0, l1, some (.int v)], st, M) = am_run G d K_Ta_isWord (39, [l0, l1, some (.int v)], .int v :: st, M) := am_run_next (x := (.iload_n 2, 1, 0, 0, 0, 0)) (by decide +kernel) rfl
theorem r_Ta_isWord_39 {G : Nat → Value} {d : Nat} {st : List Value} {M : am_M} {l0 l1 l2 : Option Value} {a b : Int32} : am_run G d K_Ta_isWord (39, [l0, l1, l2], .int b :: .int a :: st, M) = am_run G d K_Ta_isWord (40, [l0, l1, l2], .int (a + b) :: st, M) := am_run_next (x := (.iadd, 1, 0, 0, 0, 0)) (by decide +kernel) rfl
theorem r_Ta_isWord_40 {G : Nat → Value} {d : Nat} {st : List Value} {M : am_M} {l0 l1 l2 : Option Value} {q : Nat} {a0 : Int32} (hq : am_cls M q = some 7) (h8 : am_sw st ≤ 8) : am_run G d K_Ta_isWord (40, [l0, l1, l2], .int a0 :: .ref q :: st, M) = am_k G d K_Ta_isWord 43 [l0, l1, l2] st (am_ex G d K_Ta_byteAt [.ref q, .int a0] M) := am_run_iv (i := 81) (n := 1) (pl := 1184) (Bs := [.int a0]) (z := K_Ta_byteAt) (by decide +kernel) hq h8 rfl (Nat.le_of_ble_eq_true rfl) rfl
theorem r_Ta_isWord_43 {G : Nat → Value} {d : Nat} {st : List Value} {M : am_M} {l0 l1 l2 : Option Value} {a b : Int32} : am_run G d K_Ta_isWord (43, [l0, l1, l2], .int b :: .int a :: st, M) = if a = b then am_run G d K_Ta_isWord (48, [l0, l1, l2], st, M) else am_run G d K_Ta_isWord (46, [l0, l1, l2], st, M) := by
  split
  · next h => exact am_run_next (x := (.if_icmp .eq 5, 3, 0, 0, 0, 0)) (by decide +kernel) (am_br_t (decide_eq_true h) (by decide))
  · next h => exact am_run_next (x := (.if_icmp .eq 5, 3, 0, 0, 0, 0)) (by decide +kernel) (am_br_f (decide_eq_false h) (by decide))
theorem r_Ta_isWord_46 {G : Nat → Value} {d : Nat} {st : List Value} {M : am_M} {l0 l1 l2 : Option Value} : am_run G d K_Ta_isWord (46, [l0, l1, l2], st, M) = am_run G d K_Ta_isWord (47, [l0, l1, l2], .int 0 :: st, M) := am_run_next (x := (.iconst 0, 1, 0, 0, 0, 0)) (by decide +kernel) rfl
theorem r_Ta_isWord_47 {G : Nat → Value} {d : Nat} {M : am_M} {l0 l1 l2 : Option Value} {a : Int32} (ha : a = 0 ∨ a = 1) : am_run G d K_Ta_isWord (47, [l0, l1, l2], [.int a], M) = some (some (.int a), M) := am_run_ret (x := (.ireturn, 1, 0, 0, 0, 0)) (by decide +kernel) (if_pos (decide_eq_true ha))
theorem r_Ta_isWord_48 {G : Nat → Value} {d : Nat} {st : List Value} {M : am_M} {l0 l1 : Option Value} {v : Int32} (hc : am_c1 l1 = true) : am_run G d K_Ta_isWord (48, [l0, l1, some (.int v)], st, M) = am_run G d K_Ta_isWord (51, [l0, l1, some (.int (v + 1))], st, M) := by
  rcases am_c1_cases hc with rfl | ⟨q, rfl⟩ | ⟨q, rfl⟩ | rfl
  · exact am_run_next (x := (.iinc 2 1, 3, 0, 0, 0, 0)) (by decide +kernel) rfl
  · exact am_run_next (x := (.iinc 2 1, 3, 0, 0, 0, 0)) (by decide +kernel) rfl
  · exact am_run_next (x := (.iinc 2 1, 3, 0, 0, 0, 0)) (by decide +kernel) rfl
  · exact am_run_next (x := (.iinc 2 1, 3, 0, 0, 0, 0)) (by decide +kernel) rfl
theorem r_Ta_isWord_48_k {G : Nat → Value} {d : Nat} {st : List Value} {M : am_M} {l0 : Option Value} {v : Int32} {z : Int64} : am_run G d K_Ta_isWord (48, [l0, some (.long z), some (.int v)], st, M) = am_run G d K_Ta_isWord (51, [l0, none, some (.int (v + 1))], st, M) := am_run_next (x := (.iinc 2 1, 3, 0, 0, 0, 0)) (by decide +kernel) rfl
theorem r_Ta_isWord_51 {G : Nat → Value} {d : Nat} {st : List Value} {M : am_M} {l0 l1 l2 : Option Value} : am_run G d K_Ta_isWord (51, [l0, l1, l2], st, M) = am_run G d K_Ta_isWord (20, [l0, l1, l2], st, M) := am_run_next (x := (.goto (-31), 3, 0, 0, 0, 0)) (by decide +kernel) rfl
theorem r_Ta_isWord_54 {G : Nat → Value} {d : Nat} {st : List Value} {M : am_M} {l0 l1 l2 : Option Value} : am_run G d K_Ta_isWord (54, [l0, l1, l2], st, M) = am_run G d K_Ta_isWord (55, [l0, l1, l2], .int 1 :: st, M) := am_run_next (x := (.iconst 1, 1, 0, 0, 0, 0)) (by decide +kernel) rfl
theorem r_Ta_isWord_55 {G : Nat → Value} {d : Nat} {M : am_M} {l0 l1 l2 : Option Value} {a : Int32} (ha : a = 0 ∨ a = 1) : am_run G d K_Ta_isWord (55, [l0, l1, l2], [.int a], M) = some (some (.int a), M) := am_run_ret (x := (.ireturn, 1, 0, 0, 0, 0)) (by decide +kernel) (if_pos (decide_eq_true ha))
theorem r_Ta_isDigit_0 {G : Nat → Value} {d : Nat} {st : List Value} {M : am_M} {v : Int32} : am_run G d K_Ta_isDigit (0, [some (.int v)], st, M) = am_run G d K_Ta_isDigit (1, [some (.int v)], .int v :: st, M) := am_run_next (x := (.iload_n 0, 1, 0, 0, 0, 0)) (by decide +kernel) rfl
theorem r_Ta_isDigit_1 {G : Nat → Value} {d : Nat} {st : List Value} {M : am_M} {l0 : Option Value} : am_run G d K_Ta_isDigit (1, [l0], st, M) = am_run G d K_Ta_isDigit (3, [l0], .int 48 :: st, M) := am_run_next (x := (.bipush 48, 2, 0, 0, 0, 0)) (by decide +kernel) rfl
theorem r_Ta_isDigit_3 {G : Nat → Value} {d : Nat} {st : List Value} {M : am_M} {l0 : Option Value} {a b : Int32} : am_run G d K_Ta_isDigit (3, [l0], .int b :: .int a :: st, M) = if a < b then am_run G d K_Ta_isDigit (16, [l0], st, M) else am_run G d K_Ta_isDigit (6, [l0], st, M) := by
  split
  · next h => exact am_run_next (x := (.if_icmp .lt 13, 3, 0, 0, 0, 0)) (by decide +kernel) (am_br_t (decide_eq_true h) (by decide))
  · next h => exact am_run_next (x := (.if_icmp .lt 13, 3, 0, 0, 0, 0)) (by decide +kernel) (am_br_f (decide_eq_false h) (by decide))
theorem r_Ta_isDigit_6 {G : Nat → Value} {d : Nat} {st : List Value} {M : am_M} {v : Int32} : am_run G d K_Ta_isDigit (6, [some (.int v)], st, M) = am_run G d K_Ta_isDigit (7, [some (.int v)], .int v :: st, M) := am_run_next (x := (.iload_n 0, 1, 0, 0, 0, 0)) (by decide +kernel) rfl
theorem r_Ta_isDigit_7 {G : Nat → Value} {d : Nat} {st : List Value} {M : am_M} {l0 : Option Value} : am_run G d K_Ta_isDigit (7, [l0], st, M) = am_run G d K_Ta_isDigit (9, [l0], .int 57 :: st, M) := am_run_next (x := (.bipush 57, 2, 0, 0, 0, 0)) (by decide +kernel) rfl
theorem r_Ta_isDigit_9 {G : Nat → Value} {d : Nat} {st : List Value} {M : am_M} {l0 : Option Value} {a b : Int32} : am_run G d K_Ta_isDigit (9, [l0], .int b :: .int a :: st, M) = if b < a then am_run G d K_Ta_isDigit (16, [l0], st, M) else am_run G d K_Ta_isDigit (12, [l0], st, M) := by
  split
  · next h => exact am_run_next (x := (.if_icmp .gt 7, 3, 0, 0, 0, 0)) (by decide +kernel) (am_br_t (decide_eq_true h) (by decide))
  · next h => exact am_run_next (x := (.if_icmp .gt 7, 3, 0, 0, 0, 0)) (by decide +kernel) (am_br_f (decide_eq_false h) (by decide))
theorem r_Ta_isDigit_12 {G : Nat → Value} {d : Nat} {st : List Value} {M : am_M} {l0 : Option Value} : am_run G d K_Ta_isDigit (12, [l0], st, M) = am_run G d K_Ta_isDigit (13, [l0], .int 1 :: st, M) := am_run_next (x := (.iconst 1, 1, 0, 0, 0, 0)) (by decide +kernel) rfl
theorem r_Ta_isDigit_13 {G : Nat → Value} {d : Nat} {st : List Value} {M : am_M} {l0 : Option Value} : am_run G d K_Ta_isDigit (13, [l0], st, M) = am_run G d K_Ta_isDigit (17, [l0], st, M) := am_run_next (x := (.goto 4, 3, 0, 0, 0, 0)) (by decide +kernel) rfl
theorem r_Ta_isDigit_16 {G : Nat → Value} {d : Nat} {st : List Value} {M : am_M} {l0 : Option Value} : am_run G d K_Ta_isDigit (16, [l0], st, M) = am_run G d K_Ta_isDigit (17, [l0], .int 0 :: st, M) := am_run_next (x := (.iconst 0, 1, 0, 0, 0, 0)) (by decide +kernel) rfl
theorem r_Ta_isDigit_17 {G : Nat → Value} {d : Nat} {M : am_M} {l0 : Option Value} {a : Int32} (ha : a = 0 ∨ a = 1) : am_run G d K_Ta_isDigit (17, [l0], [.int a], M) = some (some (.int a), M) := am_run_ret (x := (.ireturn, 1, 0, 0, 0, 0)) (by decide +kernel) (if_pos (decide_eq_true ha))
theorem r_Ta_readNumber_0 {G : Nat → Value} {d : Nat} {st : List Value} {M : am_M} {v : Value} (hv : am_isr v = true) : am_run G d K_Ta_readNumber (0, [some v], st, M) = am_run G d K_Ta_readNumber (1, [some v], v :: st, M) := by
  rcases am_isr_cases hv with ⟨q, rfl⟩ | rfl
  · exact am_run_next (x := (.aload_n 0, 1, 0, 0, 0, 0)) (by decide +kernel) rfl
  · exact am_run_next (x := (.aload_n 0, 1, 0, 0, 0, 0)) (by decide +kernel) rfl
theorem r_Ta_readNumber_1 {G : Nat → Value} {d : Nat} {st : List Value} {M : am_M} {l0 : Option Value} : am_run G d K_Ta_readNumber (1, [l0], st, M) = am_run G d K_Ta_readNumber (2, [l0], .int 0 :: st, M) := am_run_next (x := (.iconst 0, 1, 0, 0, 0, 0)) (by decide +kernel) rfl
theorem r_Ta_readNumber_2 {G : Nat → Value} {d : Nat} {st : List Value} {M : am_M} {l0 : Option Value} {a : Nat} {v : Value} : am_run G d K_Ta_readNumber (2, [l0], v :: .ref a :: st, M) = am_km G d K_Ta_readNumber 5 [l0] st (am_pf M a 7 5 .int v) := am_run_km (x := (.putfield 78, 3, 7, 5, 1051, 0)) (by decide +kernel) rfl
theorem r_Ta_readNumber_5 {G : Nat → Value} {d : Nat} {st : List Value} {M : am_M} {v : Value} (hv : am_isr v = true) : am_run G d K_Ta_readNumber (5, [some v], st, M) = am_run G d K_Ta_readNumber (6, [some v], v :: st, M) := by
  rcases am_isr_cases hv with ⟨q, rfl⟩ | rfl
  · exact am_run_next (x := (.aload_n 0, 1, 0, 0, 0, 0)) (by decide +kernel) rfl
  · exact am_run_next (x := (.aload_n 0, 1, 0, 0, 0, 0)) (by decide +kernel) rfl
theorem r_Ta_readNumber_6 {G : Nat → Value} {d : Nat} {st : List Value} {M : am_M} {l0 : Option Value} {a : Nat} : am_run G d K_Ta_readNumber (6, [l0], .ref a :: st, M) = am_kf G d K_Ta_readNumber 9 [l0] st M (am_fld M a 7 2) := am_run_kf (x := (.getfield 22, 3, 7, 2, 1048, 0)) (by decide +kernel) rfl
theorem r_Ta_readNumber_9 {G : Nat → Value} {d : Nat} {st : List Value} {M : am_M} {v : Value} (hv : am_isr v = true) : am_run G d K_Ta_readNumber (9, [some v], st, M) = am_run G d K_Ta_readNumber (10, [some v], v :: st, M) := by
  rcases am_isr_cases hv with ⟨q, rfl⟩ | rfl
  · exact am_run_next (x := (.aload_n 0, 1, 0, 0, 0, 0)) (by decide +kernel) rfl
  · exact am_run_next (x := (.aload_n 0, 1, 0, 0, 0, 0)) (by decide +kernel) rfl
theorem r_Ta_readNumber_10 {G : Nat → Value} {d : Nat} {st : List Value} {M : am_M} {l0 : Option Value} {a : Nat} : am_run G d K_Ta_readNumber (10, [l0], .ref a :: st, M) = am_kf G d K_Ta_readNumber 13 [l0] st M (am_fld M a 7 1) := am_run_kf (x := (.getfield 18, 3, 7, 1, 1046, 0)) (by decide +kernel) rfl
theorem r_Ta_readNumber_13 {G : Nat → Value} {d : Nat} {st : List Value} {M : am_M} {l0 : Option Value} {a b : Int32} : am_run G d K_Ta_readNumber (13, [l0], .int b :: .int a :: st, M) = if b ≤ a then am_run G d K_Ta_readNumber (79, [l0], st, M) else am_run G d K_Ta_readNumber (16, [l0], st, M) := by
  split
  · next h => exact am_run_next (x := (.if_icmp .ge 66, 3, 0, 0, 0, 0)) (by decide +kernel) (am_br_t (decide_eq_true h) (by decide))
  · next h => exact am_run_next (x := (.if_icmp .ge 66, 3, 0, 0, 0, 0)) (by decide +kernel) (am_br_f (decide_eq_false h) (by decide))
theorem r_Ta_readNumber_16 {G : Nat → Value} {d : Nat} {st : List Value} {M : am_M} {v : Value} (hv : am_isr v = true) : am_run G d K_Ta_readNumber (16, [some v], st, M) = am_run G d K_Ta_readNumber (17, [some v], v :: st, M) := by
  rcases am_isr_cases hv with ⟨q, rfl⟩ | rfl
  · exact am_run_next (x := (.aload_n 0, 1, 0, 0, 0, 0)) (by decide +kernel) rfl
  · exact am_run_next (x := (.aload_n 0, 1, 0, 0, 0, 0)) (by decide +kernel) rfl
theorem r_Ta_readNumber_17 {G : Nat → Value} {d : Nat} {st : List Value} {M : am_M} {v : Value} (hv : am_isr v = true) : am_run G d K_Ta_readNumber (17, [some v], st, M) = am_run G d K_Ta_readNumber (18, [some v], v :: st, M) := by
  rcases am_isr_cases hv with ⟨q, rfl⟩ | rfl
  · exact am_run_next (x := (.aload_n 0, 1, 0, 0, 0, 0)) (by decide +kernel) rfl
  · exact am_run_next (x := (.aload_n 0, 1, 0, 0, 0, 0)) (by decide +kernel) rfl
theorem r_Ta_readNumber_18 {G : Nat → Value} {d : Nat} {st : List Value} {M : am_M} {l0 : Option Value} {a : Nat} : am_run G d K_Ta_readNumber (18, [l0], .ref a :: st, M) = am_kf G d K_Ta_readNumber 21 [l0] st M (am_fld M a 7 2) := am_run_kf (x := (.getfield 22, 3, 7, 2, 1048, 0)) (by decide +kernel) rfl
theorem r_Ta_readNumber_21 {G : Nat → Value} {d : Nat} {st : List Value} {M : am_M} {l0 : Option Value} {q : Nat} {a0 : Int32} (hq : am_cls M q = some 7) (h8 : am_sw st ≤ 8) : am_run G d K_Ta_readNumber (21, [l0], .int a0 :: .ref q :: st, M) = am_k G d K_Ta_readNumber 24 [l0] st (am_ex G d K_Ta_byteAt [.ref q, .int a0] M) := am_run_iv (i := 81) (n := 1) (pl := 1184) (Bs := [.int a0]) (z := K_Ta_byteAt) (by decide +kernel) hq h8 rfl (Nat.le_of_ble_eq_true rfl) rfl
theorem r_Ta_readNumber_24 {G : Nat → Value} {d : Nat} {st : List Value} {M : am_M} {l0 : Option Value} {a0 : Int32} (h8 : am_sw st ≤ 8) : am_run G d K_Ta_readNumber (24, [l0], .int a0 :: st, M) = am_k G d K_Ta_readNumber 27 [l0] st (am_ex G d K_Ta_isDigit [.int a0] M) := am_run_is (i := 91) (n := 1) (pl := 1215) (Bs := [.int a0]) (z := K_Ta_isDigit) (v := 1) (by decide) (by decide) (by decide +kernel) h8 rfl (Nat.le_of_ble_eq_true rfl) rfl
theorem r_Ta_readNumber_27 {G : Nat → Value} {d : Nat} {st : List Value} {M : am_M} {l0 : Option Value} {a : Int32} : am_run G d K_Ta_readNumber (27, [l0], .int a :: st, M) = if a = 0 then am_run G d K_Ta_readNumber (79, [l0], st, M) else am_run G d K_Ta_readNumber (30, [l0], st, M) := by
  split
  · next h => exact am_run_next (x := (.ifCond .eq 52, 3, 0, 0, 0, 0)) (by decide +kernel) (am_br_t (decide_eq_true h) (by decide))
  · next h => exact am_run_next (x := (.ifCond .eq 52, 3, 0, 0, 0, 0)) (by decide +kernel) (am_br_f (decide_eq_false h) (by decide))
theorem r_Ta_readNumber_30 {G : Nat → Value} {d : Nat} {st : List Value} {M : am_M} {v : Value} (hv : am_isr v = true) : am_run G d K_Ta_readNumber (30, [some v], st, M) = am_run G d K_Ta_readNumber (31, [some v], v :: st, M) := by
  rcases am_isr_cases hv with ⟨q, rfl⟩ | rfl
  · exact am_run_next (x := (.aload_n 0, 1, 0, 0, 0, 0)) (by decide +kernel) rfl
  · exact am_run_next (x := (.aload_n 0, 1, 0, 0, 0, 0)) (by decide +kernel) rfl
theorem r_Ta_readNumber_31 {G : Nat → Value} {d : Nat} {st : List Value} {M : am_M} {l0 : Option Value} {a : Nat} : am_run G d K_Ta_readNumber (31, [l0], .ref a :: st, M) = am_kf G d K_Ta_readNumber 34 [l0] st M (am_fld M a 7 2) := am_run_kf (x := (.getfield 22, 3, 7, 2, 1048, 0)) (by decide +kernel) rfl
theorem r_Ta_readNumber_34 {G : Nat → Value} {d : Nat} {st : List Value} {M : am_M} {v : Value} (hv : am_isr v = true) : am_run G d K_Ta_readNumber (34, [some v], st, M) = am_run G d K_Ta_readNumber (35, [some v], v :: st, M) := by
  rcases am_isr_cases hv with ⟨q, rfl⟩ | rfl
  · exact am_run_next (x := (.aload_n 0, 1, 0, 0, 0, 0)) (by decide +kernel) rfl
  · exact am_run_next (x := (.aload_n 0, 1, 0, 0, 0, 0)) (by decide +kernel) rfl
theorem r_Ta_readNumber_35 {G : Nat → Value} {d : Nat} {st : List Value} {M : am_M} {l0 : Option Value} {a : Nat} : am_run G d K_Ta_readNumber (35, [l0], .ref a :: st, M) = am_kf G d K_Ta_readNumber 38 [l0] st M (am_fld M a 7 4) := am_run_kf (x := (.getfield 32, 3, 7, 4, 1050, 0)) (by decide +kernel) rfl
theorem r_Ta_readNumber_38 {G : Nat → Value} {d : Nat} {st : List Value} {M : am_M} {l0 : Option Value} {a b : Int32} : am_run G d K_Ta_readNumber (38, [l0], .int b :: .int a :: st, M) = am_run G d K_Ta_readNumber (39, [l0], .int (a - b) :: st, M) := am_run_next (x := (.isub, 1, 0, 0, 0, 0)) (by decide +kernel) rfl
theorem r_Ta_readNumber_39 {G : Nat → Value} {d : Nat} {st : List Value} {M : am_M} {l0 : Option Value} : am_run G d K_Ta_readNumber (39, [l0], st, M) = am_run G d K_Ta_readNumber (40, [l0], .int 4 :: st, M) := am_run_next (x := (.iconst 4, 1, 0, 0, 0, 0)) (by decide +kernel) rfl
theorem r_Ta_readNumber_40 {G : Nat → Value} {d : Nat} {st : List Value} {M : am_M} {l0 : Option Value} {a b : Int32} : am_run G d K_Ta_readNumber (40, [l0], .int b :: .int a :: st, M) = if b ≤ a then am_run G d K_Ta_readNumber (66, [l0], st, M) else am_run G d K_Ta_readNumber (43, [l0], st, M) := by
  split
  · next h => exact am_run_next (x := (.if_icmp .ge 26, 3, 0, 0, 0, 0)) (by decide +kernel) (am_br_t (decide_eq_true h) (by decide))
  · next h => exact am_run_next (x := (.if_icmp .ge 26, 3, 0, 0, 0, 0)) (by decide +kernel) (am_br_f (decide_eq_false h) (by decide))
theorem r_Ta_readNumber_43 {G : Nat → Value} {d : Nat} {st : List Value} {M : am_M} {v : Value} (hv : am_isr v = true) : am_run G d K_Ta_readNumber (43, [some v], st, M) = am_run G d K_Ta_readNumber (44, [some v], v :: st, M) := by
  rcases am_isr_cases hv with ⟨q, rfl⟩ | rfl
  · exact am_run_next (x := (.aload_n 0, 1, 0, 0, 0, 0)) (by decide +kernel) rfl
  · exact am_run_next (x := (.aload_n 0, 1, 0, 0, 0, 0)) (by decide +kernel) rfl
theorem r_Ta_readNumber_44 {G : Nat → Value} {d : Nat} {st : List Value} {M : am_M} {v : Value} (hv : am_isr v = true) : am_run G d K_Ta_readNumber (44, [some v], st, M) = am_run G d K_Ta_readNumber (45, [some v], v :: st, M) := by
  rcases am_isr_cases hv with ⟨q, rfl⟩ | rfl
  · exact am_run_next (x := (.aload_n 0, 1, 0, 0, 0, 0)) (by decide +kernel) rfl
  · exact am_run_next (x := (.aload_n 0, 1, 0, 0, 0, 0)) (by decide +kernel) rfl
theorem r_Ta_readNumber_45 {G : Nat → Value} {d : Nat} {st : List Value} {M : am_M} {l0 : Option Value} {a : Nat} : am_run G d K_Ta_readNumber (45, [l0], .ref a :: st, M) = am_kf G d K_Ta_readNumber 48 [l0] st M (am_fld M a 7 5) := am_run_kf (x := (.getfield 78, 3, 7, 5, 1051, 0)) (by decide +kernel) rfl
theorem r_Ta_readNumber_48 {G : Nat → Value} {d : Nat} {st : List Value} {M : am_M} {l0 : Option Value} : am_run G d K_Ta_readNumber (48, [l0], st, M) = am_run G d K_Ta_readNumber (50, [l0], .int 10 :: st, M) := am_run_next (x := (.bipush 10, 2, 0, 0, 0, 0)) (by decide +kernel) rfl
theorem r_Ta_readNumber_50 {G : Nat → Value} {d : Nat} {st : List Value} {M : am_M} {l0 : Option Value} {a b : Int32} : am_run G d K_Ta_readNumber (50, [l0], .int b :: .int a :: st, M) = am_run G d K_Ta_readNumber (51, [l0], .int (a * b) :: st, M) := am_run_next (x := (.imul, 1, 0, 0, 0, 0)) (by decide +kernel) rfl
theorem r_Ta_readNumber_51 {G : Nat → Value} {d : Nat} {st : List Value} {M : am_M} {v : Value} (hv : am_isr v = true) : am_run G d K_Ta_readNumber (51, [some v], st, M) = am_run G d K_Ta_readNumber (52, [some v], v :: st, M) := by
  rcases am_isr_cases hv with ⟨q, rfl⟩ | rfl
  · exact am_run_next (x := (.aload_n 0, 1, 0, 0, 0, 0)) (by decide +kernel) rfl
  · exact am_run_next (x := (.aload_n 0, 1, 0, 0, 0, 0)) (by decide +kernel) rfl
theorem r_Ta_readNumber_52 {G : Nat → Value} {d : Nat} {st : List Value} {M : am_M} {v : Value} (hv : am_isr v = true) : am_run G d K_Ta_readNumber (52, [some v], st, M) = am_run G d K_Ta_readNumber (53, [some v], v :: st, M) := by
  rcases am_isr_cases hv with ⟨q, rfl⟩ | rfl
  · exact am_run_next (x := (.aload_n 0, 1, 0, 0, 0, 0)) (by decide +kernel) rfl
  · exact am_run_next (x := (.aload_n 0, 1, 0, 0, 0, 0)) (by decide +kernel) rfl
theorem r_Ta_readNumber_53 {G : Nat → Value} {d : Nat} {st : List Value} {M : am_M} {l0 : Option Value} {a : Nat} : am_run G d K_Ta_readNumber (53, [l0], .ref a :: st, M) = am_kf G d K_Ta_readNumber 56 [l0] st M (am_fld M a 7 2) := am_run_kf (x := (.getfield 22, 3, 7, 2, 1048, 0)) (by decide +kernel) rfl
theorem r_Ta_readNumber_56 {G : Nat → Value} {d : Nat} {st : List Value} {M : am_M} {l0 : Option Value} {q : Nat} {a0 : Int32} (hq : am_cls M q = some 7) (h8 : am_sw st ≤ 8) : am_run G d K_Ta_readNumber (56, [l0], .int a0 :: .ref q :: st, M) = am_k G d K_Ta_readNumber 59 [l0] st (am_ex G d K_Ta_byteAt [.ref q, .int a0] M) := am_run_iv (i := 81) (n := 1) (pl := 1184) (Bs := [.int a0]) (z := K_Ta_byteAt) (by decide +kernel) hq h8 rfl (Nat.le_of_ble_eq_true rfl) rfl
theorem r_Ta_readNumber_59 {G : Nat → Value} {d : Nat} {st : List Value} {M : am_M} {l0 : Option Value} {a b : Int32} : am_run G d K_Ta_readNumber (59, [l0], .int b :: .int a :: st, M) = am_run G d K_Ta_readNumber (60, [l0], .int (a + b) :: st, M) := am_run_next (x := (.iadd, 1, 0, 0, 0, 0)) (by decide +kernel) rfl
theorem r_Ta_readNumber_60 {G : Nat → Value} {d : Nat} {st : List Value} {M : am_M} {l0 : Option Value} : am_run G d K_Ta_readNumber (60, [l0], st, M) = am_run G d K_Ta_readNumber (62, [l0], .int 48 :: st, M) := am_run_next (x := (.bipush 48, 2, 0, 0, 0, 0)) (by decide +kernel) rfl
theorem r_Ta_readNumber_62 {G : Nat → Value} {d : Nat} {st : List Value} {M : am_M} {l0 : Option Value} {a b : Int32} : am_run G d K_Ta_readNumber (62, [l0], .int b :: .int a :: st, M) = am_run G d K_Ta_readNumber (63, [l0], .int (a - b) :: st, M) := am_run_next (x := (.isub, 1, 0, 0, 0, 0)) (by decide +kernel) rfl
theorem r_Ta_readNumber_63 {G : Nat → Value} {d : Nat} {st : List Value} {M : am_M} {l0 : Option Value} {a : Nat} {v : Value} : am_run G d K_Ta_readNumber (63, [l0], v :: .ref a :: st, M) = am_km G d K_Ta_readNumber 66 [l0] st (am_pf M a 7 5 .int v) := am_run_km (x := (.putfield 78, 3, 7, 5, 1051, 0)) (by decide +kernel) rfl
theorem r_Ta_readNumber_66 {G : Nat → Value} {d : Nat} {st : List Value} {M : am_M} {v : Value} (hv : am_isr v = true) : am_run G d K_Ta_readNumber (66, [some v], st, M) = am_run G d K_Ta_readNumber (67, [some v], v :: st, M) := by
  rcases am_isr_cases hv with ⟨q, rfl⟩ | rfl
  · exact am_run_next (x := (.aload_n 0, 1, 0, 0, 0, 0)) (by decide +kernel) rfl
  · exact am_run_next (x := (.aload_n 0, 1, 0, 0, 0, 0)) (by decide +kernel) rfl
theorem r_Ta_readNumber_67 {G : Nat → Value} {d : Nat} {st : List Value} {M : am_M} {l0 : Option Value} {v : Value} (hv : v.category = 1) : am_run G d K_Ta_readNumber (67, [l0], v :: st, M) = am_run G d K_Ta_readNumber (68, [l0], v :: v :: st, M) := am_run_next (x := (.dup, 1, 0, 0, 0, 0)) (by decide +kernel) (if_pos hv)
theorem r_Ta_readNumber_68 {G : Nat → Value} {d : Nat} {st : List Value} {M : am_M} {l0 : Option Value} {a : Nat} : am_run G d K_Ta_readNumber (68, [l0], .ref a :: st, M) = am_kf G d K_Ta_readNumber 71 [l0] st M (am_fld M a 7 2) := am_run_kf (x := (.getfield 22, 3, 7, 2, 1048, 0)) (by decide +kernel) rfl
theorem r_Ta_readNumber_71 {G : Nat → Value} {d : Nat} {st : List Value} {M : am_M} {l0 : Option Value} : am_run G d K_Ta_readNumber (71, [l0], st, M) = am_run G d K_Ta_readNumber (72, [l0], .int 1 :: st, M) := am_run_next (x := (.iconst 1, 1, 0, 0, 0, 0)) (by decide +kernel) rfl
theorem r_Ta_readNumber_72 {G : Nat → Value} {d : Nat} {st : List Value} {M : am_M} {l0 : Option Value} {a b : Int32} : am_run G d K_Ta_readNumber (72, [l0], .int b :: .int a :: st, M) = am_run G d K_Ta_readNumber (73, [l0], .int (a + b) :: st, M) := am_run_next (x := (.iadd, 1, 0, 0, 0, 0)) (by decide +kernel) rfl
theorem r_Ta_readNumber_73 {G : Nat → Value} {d : Nat} {st : List Value} {M : am_M} {l0 : Option Value} {a : Nat} {v : Value} : am_run G d K_Ta_readNumber (73, [l0], v :: .ref a :: st, M) = am_km G d K_Ta_readNumber 76 [l0] st (am_pf M a 7 2 .int v) := am_run_km (x := (.putfield 22, 3, 7, 2, 1048, 0)) (by decide +kernel) rfl
theorem r_Ta_readNumber_76 {G : Nat → Value} {d : Nat} {st : List Value} {M : am_M} {l0 : Option Value} : am_run G d K_Ta_readNumber (76, [l0], st, M) = am_run G d K_Ta_readNumber (5, [l0], st, M) := am_run_next (x := (.goto (-71), 3, 0, 0, 0, 0)) (by decide +kernel) rfl
theorem r_Ta_readNumber_79 {G : Nat → Value} {d : Nat} {st : List Value} {M : am_M} {v : Value} (hv : am_isr v = true) : am_run G d K_Ta_readNumber (79, [some v], st, M) = am_run G d K_Ta_readNumber (80, [some v], v :: st, M) := by
  rcases am_isr_cases hv with ⟨q, rfl⟩ | rfl
  · exact am_run_next (x := (.aload_n 0, 1, 0, 0, 0, 0)) (by decide +kernel) rfl
  · exact am_run_next (x := (.aload_n 0, 1, 0, 0, 0, 0)) (by decide +kernel) rfl
theorem r_Ta_readNumber_80 {G : Nat → Value} {d : Nat} {st : List Value} {M : am_M} {v : Value} (hv : am_isr v = true) : am_run G d K_Ta_readNumber (80, [some v], st, M) = am_run G d K_Ta_readNumber (81, [some v], v :: st, M) := by
  rcases am_isr_cases hv with ⟨q, rfl⟩ | rfl
  · exact am_run_next (x := (.aload_n 0, 1, 0, 0, 0, 0)) (by decide +kernel) rfl
  · exact am_run_next (x := (.aload_n 0, 1, 0, 0, 0, 0)) (by decide +kernel) rfl
theorem r_Ta_readNumber_81 {G : Nat → Value} {d : Nat} {st : List Value} {M : am_M} {l0 : Option Value} {a : Nat} : am_run G d K_Ta_readNumber (81, [l0], .ref a :: st, M) = am_kf G d K_Ta_readNumber 84 [l0] st M (am_fld M a 7 2) := am_run_kf (x := (.getfield 22, 3, 7, 2, 1048, 0)) (by decide +kernel) rfl
theorem r_Ta_readNumber_84 {G : Nat → Value} {d : Nat} {st : List Value} {M : am_M} {v : Value} (hv : am_isr v = true) : am_run G d K_Ta_readNumber (84, [some v], st, M) = am_run G d K_Ta_readNumber (85, [some v], v :: st, M) := by
  rcases am_isr_cases hv with ⟨q, rfl⟩ | rfl
  · exact am_run_next (x := (.aload_n 0, 1, 0, 0, 0, 0)) (by decide +kernel) rfl
  · exact am_run_next (x := (.aload_n 0, 1, 0, 0, 0, 0)) (by decide +kernel) rfl
theorem r_Ta_readNumber_85 {G : Nat → Value} {d : Nat} {st : List Value} {M : am_M} {l0 : Option Value} {a : Nat} : am_run G d K_Ta_readNumber (85, [l0], .ref a :: st, M) = am_kf G d K_Ta_readNumber 88 [l0] st M (am_fld M a 7 4) := am_run_kf (x := (.getfield 32, 3, 7, 4, 1050, 0)) (by decide +kernel) rfl
theorem r_Ta_readNumber_88 {G : Nat → Value} {d : Nat} {st : List Value} {M : am_M} {l0 : Option Value} {a b : Int32} : am_run G d K_Ta_readNumber (88, [l0], .int b :: .int a :: st, M) = am_run G d K_Ta_readNumber (89, [l0], .int (a - b) :: st, M) := am_run_next (x := (.isub, 1, 0, 0, 0, 0)) (by decide +kernel) rfl
theorem r_Ta_readNumber_89 {G : Nat → Value} {d : Nat} {st : List Value} {M : am_M} {l0 : Option Value} : am_run G d K_Ta_readNumber (89, [l0], st, M) = am_run G d K_Ta_readNumber (90, [l0], .int 4 :: st, M) := am_run_next (x := (.iconst 4, 1, 0, 0, 0, 0)) (by decide +kernel) rfl
theorem r_Ta_readNumber_90 {G : Nat → Value} {d : Nat} {st : List Value} {M : am_M} {l0 : Option Value} {a b : Int32} : am_run G d K_Ta_readNumber (90, [l0], .int b :: .int a :: st, M) = if a ≤ b then am_run G d K_Ta_readNumber (98, [l0], st, M) else am_run G d K_Ta_readNumber (93, [l0], st, M) := by
  split
  · next h => exact am_run_next (x := (.if_icmp .le 8, 3, 0, 0, 0, 0)) (by decide +kernel) (am_br_t (decide_eq_true h) (by decide))
  · next h => exact am_run_next (x := (.if_icmp .le 8, 3, 0, 0, 0, 0)) (by decide +kernel) (am_br_f (decide_eq_false h) (by decide))
theorem r_Ta_readNumber_93 {G : Nat → Value} {d : Nat} {st : List Value} {M : am_M} {l0 : Option Value} : am_run G d K_Ta_readNumber (93, [l0], st, M) = am_run G d K_Ta_readNumber (95, [l0], .int (-2) :: st, M) := am_run_next (x := (.bipush (-2), 2, 0, 0, 0, 0)) (by decide +kernel) rfl
theorem r_Ta_readNumber_95 {G : Nat → Value} {d : Nat} {st : List Value} {M : am_M} {l0 : Option Value} : am_run G d K_Ta_readNumber (95, [l0], st, M) = am_run G d K_Ta_readNumber (100, [l0], st, M) := am_run_next (x := (.goto 5, 3, 0, 0, 0, 0)) (by decide +kernel) rfl
theorem r_Ta_readNumber_98 {G : Nat → Value} {d : Nat} {st : List Value} {M : am_M} {l0 : Option Value} : am_run G d K_Ta_readNumber (98, [l0], st, M) = am_run G d K_Ta_readNumber (100, [l0], .int (-3) :: st, M) := am_run_next (x := (.bipush (-3), 2, 0, 0, 0, 0)) (by decide +kernel) rfl
theorem r_Ta_readNumber_100 {G : Nat → Value} {d : Nat} {st : List Value} {M : am_M} {l0 : Option Value} {a : Nat} {v : Value} : am_run G d K_Ta_readNumber (100, [l0], v :: .ref a :: st, M) = am_km G d K_Ta_readNumber 103 [l0] st (am_pf M a 7 3 .int v) := am_run_km (x := (.putfield 38, 3, 7, 3, 1049, 0)) (by decide +kernel) rfl
theorem r_Ta_readNumber_103 {G : Nat → Value} {d : Nat} {M : am_M} {l0 : Option Value} : am_run G d K_Ta_readNumber (103, [l0], [], M) = some (none, M) := am_run_ret (x := (.return_, 1, 0, 0, 0, 0)) (by decide +kernel) rfl
theorem r_Ta_readPart_0 {G : Nat → Value} {d : Nat} {st : List Value} {M : am_M} {l1 : Option Value} {v : Value} (hv : am_isr v = true) : am_run G d K_Ta_readPart (0, [some v, l1], st, M) = am_run G d K_Ta_readPart (1, [some v, l1], v :: st, M) := by
  rcases am_isr_cases hv with ⟨q, rfl⟩ | rfl
  · exact am_run_next (x := (.aload_n 0, 1, 0, 0, 0, 0)) (by decide +kernel) rfl
  · exact am_run_next (x := (.aload_n 0, 1, 0, 0, 0, 0)) (by decide +kernel) rfl
theorem r_Ta_readPart_1 {G : Nat → Value} {d : Nat} {st : List Value} {M : am_M} {l0 l1 : Option Value} : am_run G d K_Ta_readPart (1, [l0, l1], st, M) = am_run G d K_Ta_readPart (2, [l0, l1], .int 0 :: st, M) := am_run_next (x := (.iconst 0, 1, 0, 0, 0, 0)) (by decide +kernel) rfl
theorem r_Ta_readPart_2 {G : Nat → Value} {d : Nat} {st : List Value} {M : am_M} {l0 l1 : Option Value} {a : Nat} {v : Value} : am_run G d K_Ta_readPart (2, [l0, l1], v :: .ref a :: st, M) = am_km G d K_Ta_readPart 5 [l0, l1] st (am_pf M a 7 8 .int v) := am_run_km (x := (.putfield 46, 3, 7, 8, 1055, 0)) (by decide +kernel) rfl
theorem r_Ta_readPart_5 {G : Nat → Value} {d : Nat} {st : List Value} {M : am_M} {l1 : Option Value} {v : Value} (hv : am_isr v = true) : am_run G d K_Ta_readPart (5, [some v, l1], st, M) = am_run G d K_Ta_readPart (6, [some v, l1], v :: st, M) := by
  rcases am_isr_cases hv with ⟨q, rfl⟩ | rfl
  · exact am_run_next (x := (.aload_n 0, 1, 0, 0, 0, 0)) (by decide +kernel) rfl
  · exact am_run_next (x := (.aload_n 0, 1, 0, 0, 0, 0)) (by decide +kernel) rfl
theorem r_Ta_readPart_6 {G : Nat → Value} {d : Nat} {st : List Value} {M : am_M} {l0 l1 : Option Value} {a : Nat} : am_run G d K_Ta_readPart (6, [l0, l1], .ref a :: st, M) = am_kf G d K_Ta_readPart 9 [l0, l1] st M (am_fld M a 7 3) := am_run_kf (x := (.getfield 38, 3, 7, 3, 1049, 0)) (by decide +kernel) rfl
theorem r_Ta_readPart_9 {G : Nat → Value} {d : Nat} {st : List Value} {M : am_M} {l0 : Option Value} {v : Int32} : am_run G d K_Ta_readPart (9, [l0, some (.int v)], st, M) = am_run G d K_Ta_readPart (10, [l0, some (.int v)], .int v :: st, M) := am_run_next (x := (.iload_n 1, 1, 0, 0, 0, 0)) (by decide +kernel) rfl
theorem r_Ta_readPart_10 {G : Nat → Value} {d : Nat} {st : List Value} {M : am_M} {l0 l1 : Option Value} {a b : Int32} : am_run G d K_Ta_readPart (10, [l0, l1], .int b :: .int a :: st, M) = if a = b then am_run G d K_Ta_readPart (15, [l0, l1], st, M) else am_run G d K_Ta_readPart (13, [l0, l1], st, M) := by
  split
  · next h => exact am_run_next (x := (.if_icmp .eq 5, 3, 0, 0, 0, 0)) (by decide +kernel) (am_br_t (decide_eq_true h) (by decide))
  · next h => exact am_run_next (x := (.if_icmp .eq 5, 3, 0, 0, 0, 0)) (by decide +kernel) (am_br_f (decide_eq_false h) (by decide))
theorem r_Ta_readPart_13 {G : Nat → Value} {d : Nat} {st : List Value} {M : am_M} {l0 l1 : Option Value} : am_run G d K_Ta_readPart (13, [l0, l1], st, M) = am_run G d K_Ta_readPart (14, [l0, l1], .null :: st, M) := am_run_next (x := (.aconst_null, 1, 0, 0, 0, 0)) (by decide +kernel) rfl
theorem r_Ta_readPart_14 {G : Nat → Value} {d : Nat} {M : am_M} {l0 l1 : Option Value} {v : Value} (hv : am_isr v = true) : am_run G d K_Ta_readPart (14, [l0, l1], [v], M) = some (some v, M) := am_run_ret (x := (.areturn, 1, 0, 0, 0, 0)) (by decide +kernel) (if_pos ⟨hv, rfl⟩)
theorem r_Ta_readPart_15 {G : Nat → Value} {d : Nat} {st : List Value} {M : am_M} {l1 : Option Value} {v : Value} (hv : am_isr v = true) : am_run G d K_Ta_readPart (15, [some v, l1], st, M) = am_run G d K_Ta_readPart (16, [some v, l1], v :: st, M) := by
  rcases am_isr_cases hv with ⟨q, rfl⟩ | rfl
  · exact am_run_next (x := (.aload_n 0, 1, 0, 0, 0, 0)) (by decide +kernel) rfl
  · exact am_run_next (x := (.aload_n 0, 1, 0, 0, 0, 0)) (by decide +kernel) rfl
theorem r_Ta_readPart_16 {G : Nat → Value} {d : Nat} {st : List Value} {M : am_M} {l0 l1 : Option Value} {q : Nat} (hq : am_cls M q = some 7) (h8 : am_sw st ≤ 8) : am_run G d K_Ta_readPart (16, [l0, l1], .ref q :: st, M) = am_k G d K_Ta_readPart 19 [l0, l1] st (am_ex G d K_Ta_step [.ref q] M) := am_run_iv (i := 25) (n := 0) (pl := 1180) (Bs := []) (z := K_Ta_step) (by decide +kernel) hq h8 rfl (Nat.le_of_ble_eq_true rfl) rfl
theorem r_Ta_readPart_19 {G : Nat → Value} {d : Nat} {st : List Value} {M : am_M} {l1 : Option Value} {v : Value} (hv : am_isr v = true) : am_run G d K_Ta_readPart (19, [some v, l1], st, M) = am_run G d K_Ta_readPart (20, [some v, l1], v :: st, M) := by
  rcases am_isr_cases hv with ⟨q, rfl⟩ | rfl
  · exact am_run_next (x := (.aload_n 0, 1, 0, 0, 0, 0)) (by decide +kernel) rfl
  · exact am_run_next (x := (.aload_n 0, 1, 0, 0, 0, 0)) (by decide +kernel) rfl
theorem r_Ta_readPart_20 {G : Nat → Value} {d : Nat} {st : List Value} {M : am_M} {l0 l1 : Option Value} : am_run G d K_Ta_readPart (20, [l0, l1], st, M) = am_run G d K_Ta_readPart (21, [l0, l1], .int 0 :: st, M) := am_run_next (x := (.iconst 0, 1, 0, 0, 0, 0)) (by decide +kernel) rfl
theorem r_Ta_readPart_21 {G : Nat → Value} {d : Nat} {st : List Value} {M : am_M} {l0 l1 : Option Value} {q : Nat} {a0 : Int32} (hq : am_cls M q = some 7) (h8 : am_sw st ≤ 8) : am_run G d K_Ta_readPart (21, [l0, l1], .int a0 :: .ref q :: st, M) = am_k G d K_Ta_readPart 24 [l0, l1] st (am_ex G d K_Ta_readE [.ref q, .int a0] M) := am_run_iv (i := 49) (n := 1) (pl := 2046) (Bs := [.int a0]) (z := K_Ta_readE) (by decide +kernel) hq h8 rfl (Nat.le_of_ble_eq_true rfl) rfl
theorem r_Ta_readPart_24 {G : Nat → Value} {d : Nat} {st : List Value} {M : am_M} {l0 l1 : Option Value} {a : Int32} : am_run G d K_Ta_readPart (24, [l0, l1], .int a :: st, M) = if a = 0 then am_run G d K_Ta_readPart (36, [l0, l1], st, M) else am_run G d K_Ta_readPart (27, [l0, l1], st, M) := by
  split
  · next h => exact am_run_next (x := (.ifCond .eq 12, 3, 0, 0, 0, 0)) (by decide +kernel) (am_br_t (decide_eq_true h) (by decide))
  · next h => exact am_run_next (x := (.ifCond .eq 12, 3, 0, 0, 0, 0)) (by decide +kernel) (am_br_f (decide_eq_false h) (by decide))
theorem r_Ta_readPart_27 {G : Nat → Value} {d : Nat} {st : List Value} {M : am_M} {l1 : Option Value} {v : Value} (hv : am_isr v = true) : am_run G d K_Ta_readPart (27, [some v, l1], st, M) = am_run G d K_Ta_readPart (28, [some v, l1], v :: st, M) := by
  rcases am_isr_cases hv with ⟨q, rfl⟩ | rfl
  · exact am_run_next (x := (.aload_n 0, 1, 0, 0, 0, 0)) (by decide +kernel) rfl
  · exact am_run_next (x := (.aload_n 0, 1, 0, 0, 0, 0)) (by decide +kernel) rfl
theorem r_Ta_readPart_28 {G : Nat → Value} {d : Nat} {st : List Value} {M : am_M} {l0 l1 : Option Value} {a : Nat} : am_run G d K_Ta_readPart (28, [l0, l1], .ref a :: st, M) = am_kf G d K_Ta_readPart 31 [l0, l1] st M (am_fld M a 7 3) := am_run_kf (x := (.getfield 38, 3, 7, 3, 1049, 0)) (by decide +kernel) rfl
theorem r_Ta_readPart_31 {G : Nat → Value} {d : Nat} {st : List Value} {M : am_M} {l0 l1 : Option Value} : am_run G d K_Ta_readPart (31, [l0, l1], st, M) = am_run G d K_Ta_readPart (33, [l0, l1], .int 59 :: st, M) := am_run_next (x := (.bipush 59, 2, 0, 0, 0, 0)) (by decide +kernel) rfl
theorem r_Ta_readPart_33 {G : Nat → Value} {d : Nat} {st : List Value} {M : am_M} {l0 l1 : Option Value} {a b : Int32} : am_run G d K_Ta_readPart (33, [l0, l1], .int b :: .int a :: st, M) = if a = b then am_run G d K_Ta_readPart (38, [l0, l1], st, M) else am_run G d K_Ta_readPart (36, [l0, l1], st, M) := by
  split
  · next h => exact am_run_next (x := (.if_icmp .eq 5, 3, 0, 0, 0, 0)) (by decide +kernel) (am_br_t (decide_eq_true h) (by decide))
  · next h => exact am_run_next (x := (.if_icmp .eq 5, 3, 0, 0, 0, 0)) (by decide +kernel) (am_br_f (decide_eq_false h) (by decide))
theorem r_Ta_readPart_36 {G : Nat → Value} {d : Nat} {st : List Value} {M : am_M} {l0 l1 : Option Value} : am_run G d K_Ta_readPart (36, [l0, l1], st, M) = am_run G d K_Ta_readPart (37, [l0, l1], .null :: st, M) := am_run_next (x := (.aconst_null, 1, 0, 0, 0, 0)) (by decide +kernel) rfl
theorem r_Ta_readPart_37 {G : Nat → Value} {d : Nat} {M : am_M} {l0 l1 : Option Value} {v : Value} (hv : am_isr v = true) : am_run G d K_Ta_readPart (37, [l0, l1], [v], M) = some (some v, M) := am_run_ret (x := (.areturn, 1, 0, 0, 0, 0)) (by decide +kernel) (if_pos ⟨hv, rfl⟩)
theorem r_Ta_readPart_38 {G : Nat → Value} {d : Nat} {st : List Value} {M : am_M} {l1 : Option Value} {v : Value} (hv : am_isr v = true) : am_run G d K_Ta_readPart (38, [some v, l1], st, M) = am_run G d K_Ta_readPart (39, [some v, l1], v :: st, M) := by
  rcases am_isr_cases hv with ⟨q, rfl⟩ | rfl
  · exact am_run_next (x := (.aload_n 0, 1, 0, 0, 0, 0)) (by decide +kernel) rfl
  · exact am_run_next (x := (.aload_n 0, 1, 0, 0, 0, 0)) (by decide +kernel) rfl
theorem r_Ta_readPart_39 {G : Nat → Value} {d : Nat} {st : List Value} {M : am_M} {l0 l1 : Option Value} {q : Nat} (hq : am_cls M q = some 7) (h8 : am_sw st ≤ 8) : am_run G d K_Ta_readPart (39, [l0, l1], .ref q :: st, M) = am_k G d K_Ta_readPart 42 [l0, l1] st (am_ex G d K_Ta_step [.ref q] M) := am_run_iv (i := 25) (n := 0) (pl := 1180) (Bs := []) (z := K_Ta_step) (by decide +kernel) hq h8 rfl (Nat.le_of_ble_eq_true rfl) rfl
theorem r_Ta_readPart_42 {G : Nat → Value} {d : Nat} {st : List Value} {M : am_M} {l1 : Option Value} {v : Value} (hv : am_isr v = true) : am_run G d K_Ta_readPart (42, [some v, l1], st, M) = am_run G d K_Ta_readPart (43, [some v, l1], v :: st, M) := by
  rcases am_isr_cases hv with ⟨q, rfl⟩ | rfl
  · exact am_run_next (x := (.aload_n 0, 1, 0, 0, 0, 0)) (by decide +kernel) rfl
  · exact am_run_next (x := (.aload_n 0, 1, 0, 0, 0, 0)) (by decide +kernel) rfl
theorem r_Ta_readPart_43 {G : Nat → Value} {d : Nat} {st : List Value} {M : am_M} {l0 l1 : Option Value} {a : Nat} : am_run G d K_Ta_readPart (43, [l0, l1], .ref a :: st, M) = am_kf G d K_Ta_readPart 46 [l0, l1] st M (am_fld M a 7 7) := am_run_kf (x := (.getfield 15, 3, 7, 7, 1054, 0)) (by decide +kernel) rfl
theorem r_Ta_readPart_46 {G : Nat → Value} {d : Nat} {st : List Value} {M : am_M} {l1 : Option Value} {v : Value} (hv : am_isr v = true) : am_run G d K_Ta_readPart (46, [some v, l1], st, M) = am_run G d K_Ta_readPart (47, [some v, l1], v :: st, M) := by
  rcases am_isr_cases hv with ⟨q, rfl⟩ | rfl
  · exact am_run_next (x := (.aload_n 0, 1, 0, 0, 0, 0)) (by decide +kernel) rfl
  · exact am_run_next (x := (.aload_n 0, 1, 0, 0, 0, 0)) (by decide +kernel) rfl
theorem r_Ta_readPart_47 {G : Nat → Value} {d : Nat} {st : List Value} {M : am_M} {l0 l1 : Option Value} {a : Nat} : am_run G d K_Ta_readPart (47, [l0, l1], .ref a :: st, M) = am_kf G d K_Ta_readPart 50 [l0, l1] st M (am_fld M a 7 8) := am_run_kf (x := (.getfield 46, 3, 7, 8, 1055, 0)) (by decide +kernel) rfl
theorem r_Ta_readPart_50 {G : Nat → Value} {d : Nat} {st : List Value} {M : am_M} {l0 l1 : Option Value} {a0 : Value} {a1 : Int32} (h0 : am_isr a0 = true) (h8 : am_sw st ≤ 8) : am_run G d K_Ta_readPart (50, [l0, l1], .int a1 :: a0 :: st, M) = am_k G d K_Ta_readPart 53 [l0, l1] st (am_ex G d K_Ja_copyOf [a0, .int a1] M) := by
  have he : (am_exp [a0, .int a1]).length ≤ am_mL K_Ja_copyOf := by
    rcases am_isr_cases h0 with ⟨z0, rfl⟩ | rfl <;> exact Nat.le_of_ble_eq_true rfl
  exact am_run_is (i := 53) (n := 2) (pl := 2074) (Bs := [a0, .int a1]) (z := K_Ja_copyOf) (v := 1) (by decide) (by decide) (by decide +kernel) h8 rfl he rfl
theorem r_Ta_readPart_53 {G : Nat → Value} {d : Nat} {M : am_M} {l0 l1 : Option Value} {v : Value} (hv : am_isr v = true) : am_run G d K_Ta_readPart (53, [l0, l1], [v], M) = some (some v, M) := am_run_ret (x := (.areturn, 1, 0, 0, 0, 0)) (by decide +kernel) (if_pos ⟨hv, rfl⟩)
theorem r_Ta_readE_0 {G : Nat → Value} {d : Nat} {st : List Value} {M : am_M} {l1 l2 : Option Value} {v : Value} (hv : am_isr v = true) : am_run G d K_Ta_readE (0, [some v, l1, l2], st, M) = am_run G d K_Ta_readE (1, [some v, l1, l2], v :: st, M) := by
  rcases am_isr_cases hv with ⟨q, rfl⟩ | rfl
  · exact am_run_next (x := (.aload_n 0, 1, 0, 0, 0, 0)) (by decide +kernel) rfl
  · exact am_run_next (x := (.aload_n 0, 1, 0, 0, 0, 0)) (by decide +kernel) rfl
theorem r_Ta_readE_1 {G : Nat → Value} {d : Nat} {st : List Value} {M : am_M} {l0 l2 : Option Value} {v : Int32} : am_run G d K_Ta_readE (1, [l0, some (.int v), l2], st, M) = am_run G d K_Ta_readE (2, [l0, some (.int v), l2], .int v :: st, M) := am_run_next (x := (.iload_n 1, 1, 0, 0, 0, 0)) (by decide +kernel) rfl
theorem r_Ta_readE_2 {G : Nat → Value} {d : Nat} {st : List Value} {M : am_M} {l0 l1 l2 : Option Value} {q : Nat} {a0 : Int32} (hq : am_cls M q = some 7) (h8 : am_sw st ≤ 8) : am_run G d K_Ta_readE (2, [l0, l1, l2], .int a0 :: .ref q :: st, M) = am_k G d K_Ta_readE 5 [l0, l1, l2] st (am_ex G d K_Ta_readAnd [.ref q, .int a0] M) := am_run_iv (i := 59) (n := 1) (pl := 2050) (Bs := [.int a0]) (z := K_Ta_readAnd) (by decide +kernel) hq h8 rfl (Nat.le_of_ble_eq_true rfl) rfl
theorem r_Ta_readE_5 {G : Nat → Value} {d : Nat} {st : List Value} {M : am_M} {l0 l1 l2 : Option Value} {a : Int32} : am_run G d K_Ta_readE (5, [l0, l1, l2], .int a :: st, M) = if ¬ a = 0 then am_run G d K_Ta_readE (10, [l0, l1, l2], st, M) else am_run G d K_Ta_readE (8, [l0, l1, l2], st, M) := by
  split
  · next h => exact am_run_next (x := (.ifCond .ne 5, 3, 0, 0, 0, 0)) (by decide +kernel) (am_br_t (decide_eq_true h) (by decide))
  · next h => exact am_run_next (x := (.ifCond .ne 5, 3, 0, 0, 0, 0)) (by decide +kernel) (am_br_f (decide_eq_false h) (by decide))
theorem r_Ta_readE_8 {G : Nat → Value} {d : Nat} {st : List Value} {M : am_M} {l0 l1 l2 : Option Value} : am_run G d K_Ta_readE (8, [l0, l1, l2], st, M) = am_run G d K_Ta_readE (9, [l0, l1, l2], .int 0 :: st, M) := am_run_next (x := (.iconst 0, 1, 0, 0, 0, 0)) (by decide +kernel) rfl
theorem r_Ta_readE_9 {G : Nat → Value} {d : Nat} {M : am_M} {l0 l1 l2 : Option Value} {a : Int32} (ha : a = 0 ∨ a = 1) : am_run G d K_Ta_readE (9, [l0, l1, l2], [.int a], M) = some (some (.int a), M) := am_run_ret (x := (.ireturn, 1, 0, 0, 0, 0)) (by decide +kernel) (if_pos (decide_eq_true ha))
theorem r_Ta_readE_10 {G : Nat → Value} {d : Nat} {st : List Value} {M : am_M} {l0 l1 l2 : Option Value} : am_run G d K_Ta_readE (10, [l0, l1, l2], st, M) = am_run G d K_Ta_readE (11, [l0, l1, l2], .int 0 :: st, M) := am_run_next (x := (.iconst 0, 1, 0, 0, 0, 0)) (by decide +kernel) rfl
theorem r_Ta_readE_11 {G : Nat → Value} {d : Nat} {st : List Value} {M : am_M} {l0 l1 l2 : Option Value} {v : Int32} (hc : am_c1 l1 = true) : am_run G d K_Ta_readE (11, [l0, l1, l2], .int v :: st, M) = am_run G d K_Ta_readE (12, [l0, l1, some (.int v)], st, M) := by
  rcases am_c1_cases hc with rfl | ⟨q, rfl⟩ | ⟨q, rfl⟩ | rfl
  · exact am_run_next (x := (.istore_n 2, 1, 0, 0, 0, 0)) (by decide +kernel) rfl
  · exact am_run_next (x := (.istore_n 2, 1, 0, 0, 0, 0)) (by decide +kernel) rfl
  · exact am_run_next (x := (.istore_n 2, 1, 0, 0, 0, 0)) (by decide +kernel) rfl
  · exact am_run_next (x := (.istore_n 2, 1, 0, 0, 0, 0)) (by decide +kernel) rfl
theorem r_Ta_readE_11_k {G : Nat → Value} {d : Nat} {st : List Value} {M : am_M} {l0 l2 : Option Value} {v : Int32} {z : Int64} : am_run G d K_Ta_readE (11, [l0, some (.long z), l2], .int v :: st, M) = am_run G d K_Ta_readE (12, [l0, none, some (.int v)], st, M) := am_run_next (x := (.istore_n 2, 1, 0, 0, 0, 0)) (by decide +kernel) rfl
theorem r_Ta_readE_12 {G : Nat → Value} {d : Nat} {st : List Value} {M : am_M} {l1 l2 : Option Value} {v : Value} (hv : am_isr v = true) : am_run G d K_Ta_readE (12, [some v, l1, l2], st, M) = am_run G d K_Ta_readE (13, [some v, l1, l2], v :: st, M) := by
  rcases am_isr_cases hv with ⟨q, rfl⟩ | rfl
  · exact am_run_next (x := (.aload_n 0, 1, 0, 0, 0, 0)) (by decide +kernel) rfl
  · exact am_run_next (x := (.aload_n 0, 1, 0, 0, 0, 0)) (by decide +kernel) rfl
theorem r_Ta_readE_13 {G : Nat → Value} {d : Nat} {st : List Value} {M : am_M} {l0 l1 l2 : Option Value} {a : Nat} : am_run G d K_Ta_readE (13, [l0, l1, l2], .ref a :: st, M) = am_kf G d K_Ta_readE 16 [l0, l1, l2] st M (am_fld M a 7 3) := am_run_kf (x := (.getfield 38, 3, 7, 3, 1049, 0)) (by decide +kernel) rfl
theorem r_Ta_readE_16 {G : Nat → Value} {d : Nat} {st : List Value} {M : am_M} {l0 l1 l2 : Option Value} : am_run G d K_Ta_readE (16, [l0, l1, l2], st, M) = am_run G d K_Ta_readE (18, [l0, l1, l2], .int 8 :: st, M) := am_run_next (x := (.bipush 8, 2, 0, 0, 0, 0)) (by decide +kernel) rfl
theorem r_Ta_readE_18 {G : Nat → Value} {d : Nat} {st : List Value} {M : am_M} {l0 l1 l2 : Option Value} {a b : Int32} : am_run G d K_Ta_readE (18, [l0, l1, l2], .int b :: .int a :: st, M) = if ¬ a = b then am_run G d K_Ta_readE (54, [l0, l1, l2], st, M) else am_run G d K_Ta_readE (21, [l0, l1, l2], st, M) := by
  split
  · next h => exact am_run_next (x := (.if_icmp .ne 36, 3, 0, 0, 0, 0)) (by decide +kernel) (am_br_t (decide_eq_true h) (by decide))
  · next h => exact am_run_next (x := (.if_icmp .ne 36, 3, 0, 0, 0, 0)) (by decide +kernel) (am_br_f (decide_eq_false h) (by decide))
theorem r_Ta_readE_21 {G : Nat → Value} {d : Nat} {st : List Value} {M : am_M} {l0 l1 : Option Value} {v : Int32} : am_run G d K_Ta_readE (21, [l0, l1, some (.int v)], st, M) = am_run G d K_Ta_readE (22, [l0, l1, some (.int v)], .int v :: st, M) := am_run_next (x := (.iload_n 2, 1, 0, 0, 0, 0)) (by decide +kernel) rfl
theorem r_Ta_readE_22 {G : Nat → Value} {d : Nat} {st : List Value} {M : am_M} {l0 l1 l2 : Option Value} : am_run G d K_Ta_readE (22, [l0, l1, l2], st, M) = am_run G d K_Ta_readE (25, [l0, l1, l2], .int 160 :: st, M) := am_run_next (x := (.sipush 160, 3, 0, 0, 0, 0)) (by decide +kernel) rfl
theorem r_Ta_readE_25 {G : Nat → Value} {d : Nat} {st : List Value} {M : am_M} {l0 l1 l2 : Option Value} {a b : Int32} : am_run G d K_Ta_readE (25, [l0, l1, l2], .int b :: .int a :: st, M) = if b ≤ a then am_run G d K_Ta_readE (54, [l0, l1, l2], st, M) else am_run G d K_Ta_readE (28, [l0, l1, l2], st, M) := by
  split
  · next h => exact am_run_next (x := (.if_icmp .ge 29, 3, 0, 0, 0, 0)) (by decide +kernel) (am_br_t (decide_eq_true h) (by decide))
  · next h => exact am_run_next (x := (.if_icmp .ge 29, 3, 0, 0, 0, 0)) (by decide +kernel) (am_br_f (decide_eq_false h) (by decide))
theorem r_Ta_readE_28 {G : Nat → Value} {d : Nat} {st : List Value} {M : am_M} {l1 l2 : Option Value} {v : Value} (hv : am_isr v = true) : am_run G d K_Ta_readE (28, [some v, l1, l2], st, M) = am_run G d K_Ta_readE (29, [some v, l1, l2], v :: st, M) := by
  rcases am_isr_cases hv with ⟨q, rfl⟩ | rfl
  · exact am_run_next (x := (.aload_n 0, 1, 0, 0, 0, 0)) (by decide +kernel) rfl
  · exact am_run_next (x := (.aload_n 0, 1, 0, 0, 0, 0)) (by decide +kernel) rfl
theorem r_Ta_readE_29 {G : Nat → Value} {d : Nat} {st : List Value} {M : am_M} {l0 l1 l2 : Option Value} {q : Nat} (hq : am_cls M q = some 7) (h8 : am_sw st ≤ 8) : am_run G d K_Ta_readE (29, [l0, l1, l2], .ref q :: st, M) = am_k G d K_Ta_readE 32 [l0, l1, l2] st (am_ex G d K_Ta_step [.ref q] M) := am_run_iv (i := 25) (n := 0) (pl := 1180) (Bs := []) (z := K_Ta_step) (by decide +kernel) hq h8 rfl (Nat.le_of_ble_eq_true rfl) rfl
theorem r_Ta_readE_32 {G : Nat → Value} {d : Nat} {st : List Value} {M : am_M} {l1 l2 : Option Value} {v : Value} (hv : am_isr v = true) : am_run G d K_Ta_readE (32, [some v, l1, l2], st, M) = am_run G d K_Ta_readE (33, [some v, l1, l2], v :: st, M) := by
  rcases am_isr_cases hv with ⟨q, rfl⟩ | rfl
  · exact am_run_next (x := (.aload_n 0, 1, 0, 0, 0, 0)) (by decide +kernel) rfl
  · exact am_run_next (x := (.aload_n 0, 1, 0, 0, 0, 0)) (by decide +kernel) rfl
theorem r_Ta_readE_33 {G : Nat → Value} {d : Nat} {st : List Value} {M : am_M} {l0 l2 : Option Value} {v : Int32} : am_run G d K_Ta_readE (33, [l0, some (.int v), l2], st, M) = am_run G d K_Ta_readE (34, [l0, some (.int v), l2], .int v :: st, M) := am_run_next (x := (.iload_n 1, 1, 0, 0, 0, 0)) (by decide +kernel) rfl
theorem r_Ta_readE_34 {G : Nat → Value} {d : Nat} {st : List Value} {M : am_M} {l0 l1 l2 : Option Value} {q : Nat} {a0 : Int32} (hq : am_cls M q = some 7) (h8 : am_sw st ≤ 8) : am_run G d K_Ta_readE (34, [l0, l1, l2], .int a0 :: .ref q :: st, M) = am_k G d K_Ta_readE 37 [l0, l1, l2] st (am_ex G d K_Ta_readAnd [.ref q, .int a0] M) := am_run_iv (i := 59) (n := 1) (pl := 2050) (Bs := [.int a0]) (z := K_Ta_readAnd) (by decide +kernel) hq h8 rfl (Nat.le_of_ble_eq_true rfl) rfl
theorem r_Ta_readE_37 {G : Nat → Value} {d : Nat} {st : List Value} {M : am_M} {l0 l1 l2 : Option Value} {a : Int32} : am_run G d K_Ta_readE (37, [l0, l1, l2], .int a :: st, M) = if ¬ a = 0 then am_run G d K_Ta_readE (42, [l0, l1, l2], st, M) else am_run G d K_Ta_readE (40, [l0, l1, l2], st, M) := by
  split
  · next h => exact am_run_next (x := (.ifCond .ne 5, 3, 0, 0, 0, 0)) (by decide +kernel) (am_br_t (decide_eq_true h) (by decide))
  · next h => exact am_run_next (x := (.ifCond .ne 5, 3, 0, 0, 0, 0)) (by decide +kernel) (am_br_f (decide_eq_false h) (by decide))
theorem r_Ta_readE_40 {G : Nat → Value} {d : Nat} {st : List Value} {M : am_M} {l0 l1 l2 : Option Value} : am_run G d K_Ta_readE (40, [l0, l1, l2], st, M) = am_run G d K_Ta_readE (41, [l0, l1, l2], .int 0 :: st, M) := am_run_next (x := (.iconst 0, 1, 0, 0, 0, 0)) (by decide +kernel) rfl
theorem r_Ta_readE_41 {G : Nat → Value} {d : Nat} {M : am_M} {l0 l1 l2 : Option Value} {a : Int32} (ha : a = 0 ∨ a = 1) : am_run G d K_Ta_readE (41, [l0, l1, l2], [.int a], M) = some (some (.int a), M) := am_run_ret (x := (.ireturn, 1, 0, 0, 0, 0)) (by decide +kernel) (if_pos (decide_eq_true ha))
theorem r_Ta_readE_42 {G : Nat → Value} {d : Nat} {st : List Value} {M : am_M} {l1 l2 : Option Value} {v : Value} (hv : am_isr v = true) : am_run G d K_Ta_readE (42, [some v, l1, l2], st, M) = am_run G d K_Ta_readE (43, [some v, l1, l2], v :: st, M) := by
  rcases am_isr_cases hv with ⟨q, rfl⟩ | rfl
  · exact am_run_next (x := (.aload_n 0, 1, 0, 0, 0, 0)) (by decide +kernel) rfl
  · exact am_run_next (x := (.aload_n 0, 1, 0, 0, 0, 0)) (by decide +kernel) rfl
theorem r_Ta_readE_43 {G : Nat → Value} {d : Nat} {st : List Value} {M : am_M} {l0 l1 l2 : Option Value} : am_run G d K_Ta_readE (43, [l0, l1, l2], st, M) = am_run G d K_Ta_readE (45, [l0, l1, l2], .int (-16) :: st, M) := am_run_next (x := (.bipush (-16), 2, 0, 0, 0, 0)) (by decide +kernel) rfl
theorem r_Ta_readE_45 {G : Nat → Value} {d : Nat} {st : List Value} {M : am_M} {l0 l1 l2 : Option Value} {q : Nat} {a0 : Int32} (hq : am_cls M q = some 7) (h8 : am_sw st ≤ 8) : am_run G d K_Ta_readE (45, [l0, l1, l2], .int a0 :: .ref q :: st, M) = am_k G d K_Ta_readE 48 [l0, l1, l2] st (am_ex G d K_Ta_write [.ref q, .int a0] M) := am_run_iv (i := 62) (n := 1) (pl := 2058) (Bs := [.int a0]) (z := K_Ta_write) (by decide +kernel) hq h8 rfl (Nat.le_of_ble_eq_true rfl) rfl
theorem r_Ta_readE_48 {G : Nat → Value} {d : Nat} {st : List Value} {M : am_M} {l0 l1 : Option Value} {v : Int32} (hc : am_c1 l1 = true) : am_run G d K_Ta_readE (48, [l0, l1, some (.int v)], st, M) = am_run G d K_Ta_readE (51, [l0, l1, some (.int (v + 1))], st, M) := by
  rcases am_c1_cases hc with rfl | ⟨q, rfl⟩ | ⟨q, rfl⟩ | rfl
  · exact am_run_next (x := (.iinc 2 1, 3, 0, 0, 0, 0)) (by decide +kernel) rfl
  · exact am_run_next (x := (.iinc 2 1, 3, 0, 0, 0, 0)) (by decide +kernel) rfl
  · exact am_run_next (x := (.iinc 2 1, 3, 0, 0, 0, 0)) (by decide +kernel) rfl
  · exact am_run_next (x := (.iinc 2 1, 3, 0, 0, 0, 0)) (by decide +kernel) rfl
theorem r_Ta_readE_48_k {G : Nat → Value} {d : Nat} {st : List Value} {M : am_M} {l0 : Option Value} {v : Int32} {z : Int64} : am_run G d K_Ta_readE (48, [l0, some (.long z), some (.int v)], st, M) = am_run G d K_Ta_readE (51, [l0, none, some (.int (v + 1))], st, M) := am_run_next (x := (.iinc 2 1, 3, 0, 0, 0, 0)) (by decide +kernel) rfl
theorem r_Ta_readE_51 {G : Nat → Value} {d : Nat} {st : List Value} {M : am_M} {l0 l1 l2 : Option Value} : am_run G d K_Ta_readE (51, [l0, l1, l2], st, M) = am_run G d K_Ta_readE (12, [l0, l1, l2], st, M) := am_run_next (x := (.goto (-39), 3, 0, 0, 0, 0)) (by decide +kernel) rfl
theorem r_Ta_readE_54 {G : Nat → Value} {d : Nat} {st : List Value} {M : am_M} {l0 l1 l2 : Option Value} : am_run G d K_Ta_readE (54, [l0, l1, l2], st, M) = am_run G d K_Ta_readE (55, [l0, l1, l2], .int 1 :: st, M) := am_run_next (x := (.iconst 1, 1, 0, 0, 0, 0)) (by decide +kernel) rfl
theorem r_Ta_readE_55 {G : Nat → Value} {d : Nat} {M : am_M} {l0 l1 l2 : Option Value} {a : Int32} (ha : a = 0 ∨ a = 1) : am_run G d K_Ta_readE (55, [l0, l1, l2], [.int a], M) = some (some (.int a), M) := am_run_ret (x := (.ireturn, 1, 0, 0, 0, 0)) (by decide +kernel) (if_pos (decide_eq_true ha))
theorem r_Ta_readAnd_0 {G : Nat → Value} {d : Nat} {st : List Value} {M : am_M} {l1 l2 : Option Value} {v : Value} (hv : am_isr v = true) : am_run G d K_Ta_readAnd (0, [some v, l1, l2], st, M) = am_run G d K_Ta_readAnd (1, [some v, l1, l2], v :: st, M) := by
  rcases am_isr_cases hv with ⟨q, rfl⟩ | rfl
  · exact am_run_next (x := (.aload_n 0, 1, 0, 0, 0, 0)) (by decide +kernel) rfl
  · exact am_run_next (x := (.aload_n 0, 1, 0, 0, 0, 0)) (by decide +kernel) rfl
theorem r_Ta_readAnd_1 {G : Nat → Value} {d : Nat} {st : List Value} {M : am_M} {l0 l2 : Option Value} {v : Int32} : am_run G d K_Ta_readAnd (1, [l0, some (.int v), l2], st, M) = am_run G d K_Ta_readAnd (2, [l0, some (.int v), l2], .int v :: st, M) := am_run_next (x := (.iload_n 1, 1, 0, 0, 0, 0)) (by decide +kernel) rfl
theorem r_Ta_readAnd_2 {G : Nat → Value} {d : Nat} {st : List Value} {M : am_M} {l0 l1 l2 : Option Value} {q : Nat} {a0 : Int32} (hq : am_cls M q = some 7) (h8 : am_sw st ≤ 8) : am_run G d K_Ta_readAnd (2, [l0, l1, l2], .int a0 :: .ref q :: st, M) = am_k G d K_Ta_readAnd 5 [l0, l1, l2] st (am_ex G d K_Ta_readNot [.ref q, .int a0] M) := am_run_iv (i := 66) (n := 1) (pl := 2054) (Bs := [.int a0]) (z := K_Ta_readNot) (by decide +kernel) hq h8 rfl (Nat.le_of_ble_eq_true rfl) rfl
theorem r_Ta_readAnd_5 {G : Nat → Value} {d : Nat} {st : List Value} {M : am_M} {l0 l1 l2 : Option Value} {a : Int32} : am_run G d K_Ta_readAnd (5, [l0, l1, l2], .int a :: st, M) = if ¬ a = 0 then am_run G d K_Ta_readAnd (10, [l0, l1, l2], st, M) else am_run G d K_Ta_readAnd (8, [l0, l1, l2], st, M) := by
  split
  · next h => exact am_run_next (x := (.ifCond .ne 5, 3, 0, 0, 0, 0)) (by decide +kernel) (am_br_t (decide_eq_true h) (by decide))
  · next h => exact am_run_next (x := (.ifCond .ne 5, 3, 0, 0, 0, 0)) (by decide +kernel) (am_br_f (decide_eq_false h) (by decide))
theorem r_Ta_readAnd_8 {G : Nat → Value} {d : Nat} {st : List Value} {M : am_M} {l0 l1 l2 : Option Value} : am_run G d K_Ta_readAnd (8, [l0, l1, l2], st, M) = am_run G d K_Ta_readAnd (9, [l0, l1, l2], .int 0 :: st, M) := am_run_next (x := (.iconst 0, 1, 0, 0, 0, 0)) (by decide +kernel) rfl
theorem r_Ta_readAnd_9 {G : Nat → Value} {d : Nat} {M : am_M} {l0 l1 l2 : Option Value} {a : Int32} (ha : a = 0 ∨ a = 1) : am_run G d K_Ta_readAnd (9, [l0, l1, l2], [.int a], M) = some (some (.int a), M) := am_run_ret (x := (.ireturn, 1, 0, 0, 0, 0)) (by decide +kernel) (if_pos (decide_eq_true ha))
theorem r_Ta_readAnd_10 {G : Nat → Value} {d : Nat} {st : List Value} {M : am_M} {l0 l1 l2 : Option Value} : am_run G d K_Ta_readAnd (10, [l0, l1, l2], st, M) = am_run G d K_Ta_readAnd (11, [l0, l1, l2], .int 0 :: st, M) := am_run_next (x := (.iconst 0, 1, 0, 0, 0, 0)) (by decide +kernel) rfl
theorem r_Ta_readAnd_11 {G : Nat → Value} {d : Nat} {st : List Value} {M : am_M} {l0 l1 l2 : Option Value} {v : Int32} (hc : am_c1 l1 = true) : am_run G d K_Ta_readAnd (11, [l0, l1, l2], .int v :: st, M) = am_run G d K_Ta_readAnd (12, [l0, l1, some (.int v)], st, M) := by
  rcases am_c1_cases hc with rfl | ⟨q, rfl⟩ | ⟨q, rfl⟩ | rfl
  · exact am_run_next (x := (.istore_n 2, 1, 0, 0, 0, 0)) (by decide +kernel) rfl
  · exact am_run_next (x := (.istore_n 2, 1, 0, 0, 0, 0)) (by decide +kernel) rfl
  · exact am_run_next (x := (.istore_n 2, 1, 0, 0, 0, 0)) (by decide +kernel) rfl
  · exact am_run_next (x := (.istore_n 2, 1, 0, 0, 0, 0)) (by decide +kernel) rfl
theorem r_Ta_readAnd_11_k {G : Nat → Value} {d : Nat} {st : List Value} {M : am_M} {l0 l2 : Option Value} {v : Int32} {z : Int64} : am_run G d K_Ta_readAnd (11, [l0, some (.long z), l2], .int v :: st, M) = am_run G d K_Ta_readAnd (12, [l0, none, some (.int v)], st, M) := am_run_next (x := (.istore_n 2, 1, 0, 0, 0, 0)) (by decide +kernel) rfl
theorem r_Ta_readAnd_12 {G : Nat → Value} {d : Nat} {st : List Value} {M : am_M} {l1 l2 : Option Value} {v : Value} (hv : am_isr v = true) : am_run G d K_Ta_readAnd (12, [some v, l1, l2], st, M) = am_run G d K_Ta_readAnd (13, [some v, l1, l2], v :: st, M) := by
  rcases am_isr_cases hv with ⟨q, rfl⟩ | rfl
  · exact am_run_next (x := (.aload_n 0, 1, 0, 0, 0, 0)) (by decide +kernel) rfl
  · exact am_run_next (x := (.aload_n 0, 1, 0, 0, 0, 0)) (by decide +kernel) rfl
theorem r_Ta_readAnd_13 {G : Nat → Value} {d : Nat} {st : List Value} {M : am_M} {l0 l1 l2 : Option Value} {a : Nat} : am_run G d K_Ta_readAnd (13, [l0, l1, l2], .ref a :: st, M) = am_kf G d K_Ta_readAnd 16 [l0, l1, l2] st M (am_fld M a 7 3) := am_run_kf (x := (.getfield 38, 3, 7, 3, 1049, 0)) (by decide +kernel) rfl
theorem r_Ta_readAnd_16 {G : Nat → Value} {d : Nat} {st : List Value} {M : am_M} {l0 l1 l2 : Option Value} : am_run G d K_Ta_readAnd (16, [l0, l1, l2], st, M) = am_run G d K_Ta_readAnd (18, [l0, l1, l2], .int 9 :: st, M) := am_run_next (x := (.bipush 9, 2, 0, 0, 0, 0)) (by decide +kernel) rfl
theorem r_Ta_readAnd_18 {G : Nat → Value} {d : Nat} {st : List Value} {M : am_M} {l0 l1 l2 : Option Value} {a b : Int32} : am_run G d K_Ta_readAnd (18, [l0, l1, l2], .int b :: .int a :: st, M) = if ¬ a = b then am_run G d K_Ta_readAnd (54, [l0, l1, l2], st, M) else am_run G d K_Ta_readAnd (21, [l0, l1, l2], st, M) := by
  split
  · next h => exact am_run_next (x := (.if_icmp .ne 36, 3, 0, 0, 0, 0)) (by decide +kernel) (am_br_t (decide_eq_true h) (by decide))
  · next h => exact am_run_next (x := (.if_icmp .ne 36, 3, 0, 0, 0, 0)) (by decide +kernel) (am_br_f (decide_eq_false h) (by decide))
theorem r_Ta_readAnd_21 {G : Nat → Value} {d : Nat} {st : List Value} {M : am_M} {l0 l1 : Option Value} {v : Int32} : am_run G d K_Ta_readAnd (21, [l0, l1, some (.int v)], st, M) = am_run G d K_Ta_readAnd (22, [l0, l1, some (.int v)], .int v :: st, M) := am_run_next (x := (.iload_n 2, 1, 0, 0, 0, 0)) (by decide +kernel) rfl
theorem r_Ta_readAnd_22 {G : Nat → Value} {d : Nat} {st : List Value} {M : am_M} {l0 l1 l2 : Option Value} : am_run G d K_Ta_readAnd (22, [l0, l1, l2], st, M) = am_run G d K_Ta_readAnd (25, [l0, l1, l2], .int 160 :: st, M) := am_run_next (x := (.sipush 160, 3, 0, 0, 0, 0)) (by decide +kernel) rfl
theorem r_Ta_readAnd_25 {G : Nat → Value} {d : Nat} {st : List Value} {M : am_M} {l0 l1 l2 : Option Value} {a b : Int32} : am_run G d K_Ta_readAnd (25, [l0, l1, l2], .int b :: .int a :: st, M) = if b ≤ a then am_run G d K_Ta_readAnd (54, [l0, l1, l2], st, M) else am_run G d K_Ta_readAnd (28, [l0, l1, l2], st, M) := by
  split
  · next h => exact am_run_next (x := (.if_icmp .ge 29, 3, 0, 0, 0, 0)) (by decide +kernel) (am_br_t (decide_eq_true h) (by decide))
  · next h => exact am_run_next (x := (.if_icmp .ge 29, 3, 0, 0, 0, 0)) (by decide +kernel) (am_br_f (decide_eq_false h) (by decide))
theorem r_Ta_readAnd_28 {G : Nat → Value} {d : Nat} {st : List Value} {M : am_M} {l1 l2 : Option Value} {v : Value} (hv : am_isr v = true) : am_run G d K_Ta_readAnd (28, [some v, l1, l2], st, M) = am_run G d K_Ta_readAnd (29, [some v, l1, l2], v :: st, M) := by
  rcases am_isr_cases hv with ⟨q, rfl⟩ | rfl
  · exact am_run_next (x := (.aload_n 0, 1, 0, 0, 0, 0)) (by decide +kernel) rfl
  · exact am_run_next (x := (.aload_n 0, 1, 0, 0, 0, 0)) (by decide +kernel) rfl
theorem r_Ta_readAnd_29 {G : Nat → Value} {d : Nat} {st : List Value} {M : am_M} {l0 l1 l2 : Option Value} {q : Nat} (hq : am_cls M q = some 7) (h8 : am_sw st ≤ 8) : am_run G d K_Ta_readAnd (29, [l0, l1, l2], .ref q :: st, M) = am_k G d K_Ta_readAnd 32 [l0, l1, l2] st (am_ex G d K_Ta_step [.ref q] M) := am_run_iv (i := 25) (n := 0) (pl := 1180) (Bs := []) (z := K_Ta_step) (by decide +kernel) hq h8 rfl (Nat.le_of_ble_eq_true rfl) rfl
theorem r_Ta_readAnd_32 {G : Nat → Value} {d : Nat} {st : List Value} {M : am_M} {l1 l2 : Option Value} {v : Value} (hv : am_isr v = true) : am_run G d K_Ta_readAnd (32, [some v, l1, l2], st, M) = am_run G d K_Ta_readAnd (33, [some v, l1, l2], v :: st, M) := by
  rcases am_isr_cases hv with ⟨q, rfl⟩ | rfl
  · exact am_run_next (x := (.aload_n 0, 1, 0, 0, 0, 0)) (by decide +kernel) rfl
  · exact am_run_next (x := (.aload_n 0, 1, 0, 0, 0, 0)) (by decide +kernel) rfl
theorem r_Ta_readAnd_33 {G : Nat → Value} {d : Nat} {st : List Value} {M : am_M} {l0 l2 : Option Value} {v : Int32} : am_run G d K_Ta_readAnd (33, [l0, some (.int v), l2], st, M) = am_run G d K_Ta_readAnd (34, [l0, some (.int v), l2], .int v :: st, M) := am_run_next (x := (.iload_n 1, 1, 0, 0, 0, 0)) (by decide +kernel) rfl
theorem r_Ta_readAnd_34 {G : Nat → Value} {d : Nat} {st : List Value} {M : am_M} {l0 l1 l2 : Option Value} {q : Nat} {a0 : Int32} (hq : am_cls M q = some 7) (h8 : am_sw st ≤ 8) : am_run G d K_Ta_readAnd (34, [l0, l1, l2], .int a0 :: .ref q :: st, M) = am_k G d K_Ta_readAnd 37 [l0, l1, l2] st (am_ex G d K_Ta_readNot [.ref q, .int a0] M) := am_run_iv (i := 66) (n := 1) (pl := 2054) (Bs := [.int a0]) (z := K_Ta_readNot) (by decide +kernel) hq h8 rfl (Nat.le_of_ble_eq_true rfl) rfl
theorem r_Ta_readAnd_37 {G : Nat → Value} {d : Nat} {st : List Value} {M : am_M} {l0 l1 l2 : Option Value} {a : Int32} : am_run G d K_Ta_readAnd (37, [l0, l1, l2], .int a :: st, M) = if ¬ a = 0 then am_run G d K_Ta_readAnd (42, [l0, l1, l2], st, M) else am_run G d K_Ta_readAnd (40, [l0, l1, l2], st, M) := by
  split
  · next h => exact am_run_next (x := (.ifCond .ne 5, 3, 0, 0, 0, 0)) (by decide +kernel) (am_br_t (decide_eq_true h) (by decide))
  · next h => exact am_run_next (x := (.ifCond .ne 5, 3, 0, 0, 0, 0)) (by decide +kernel) (am_br_f (decide_eq_false h) (by decide))
theorem r_Ta_readAnd_40 {G : Nat → Value} {d : Nat} {st : List Value} {M : am_M} {l0 l1 l2 : Option Value} : am_run G d K_Ta_readAnd (40, [l0, l1, l2], st, M) = am_run G d K_Ta_readAnd (41, [l0, l1, l2], .int 0 :: st, M) := am_run_next (x := (.iconst 0, 1, 0, 0, 0, 0)) (by decide +kernel) rfl
theorem r_Ta_readAnd_41 {G : Nat → Value} {d : Nat} {M : am_M} {l0 l1 l2 : Option Value} {a : Int32} (ha : a = 0 ∨ a = 1) : am_run G d K_Ta_readAnd (41, [l0, l1, l2], [.int a], M) = some (some (.int a), M) := am_run_ret (x := (.ireturn, 1, 0, 0, 0, 0)) (by decide +kernel) (if_pos (decide_eq_true ha))
theorem r_Ta_readAnd_42 {G : Nat → Value} {d : Nat} {st : List Value} {M : am_M} {l1 l2 : Option Value} {v : Value} (hv : am_isr v = true) : am_run G d K_Ta_readAnd (42, [some v, l1, l2], st, M) = am_run G d K_Ta_readAnd (43, [some v, l1, l2], v :: st, M) := by
  rcases am_isr_cases hv with ⟨q, rfl⟩ | rfl
  · exact am_run_next (x := (.aload_n 0, 1, 0, 0, 0, 0)) (by decide +kernel) rfl
  · exact am_run_next (x := (.aload_n 0, 1, 0, 0, 0, 0)) (by decide +kernel) rfl
theorem r_Ta_readAnd_43 {G : Nat → Value} {d : Nat} {st : List Value} {M : am_M} {l0 l1 l2 : Option Value} : am_run G d K_Ta_readAnd (43, [l0, l1, l2], st, M) = am_run G d K_Ta_readAnd (45, [l0, l1, l2], .int (-15) :: st, M) := am_run_next (x := (.bipush (-15), 2, 0, 0, 0, 0)) (by decide +kernel) rfl
theorem r_Ta_readAnd_45 {G : Nat → Value} {d : Nat} {st : List Value} {M : am_M} {l0 l1 l2 : Option Value} {q : Nat} {a0 : Int32} (hq : am_cls M q = some 7) (h8 : am_sw st ≤ 8) : am_run G d K_Ta_readAnd (45, [l0, l1, l2], .int a0 :: .ref q :: st, M) = am_k G d K_Ta_readAnd 48 [l0, l1, l2] st (am_ex G d K_Ta_write [.ref q, .int a0] M) := am_run_iv (i := 62) (n := 1) (pl := 2058) (Bs := [.int a0]) (z := K_Ta_write) (by decide +kernel) hq h8 rfl (Nat.le_of_ble_eq_true rfl) rfl
theorem r_Ta_readAnd_48 {G : Nat → Value} {d : Nat} {st : List Value} {M : am_M} {l0 l1 : Option Value} {v : Int32} (hc : am_c1 l1 = true) : am_run G d K_Ta_readAnd (48, [l0, l1, some (.int v)], st, M) = am_run G d K_Ta_readAnd (51, [l0, l1, some (.int (v + 1))], st, M) := by
  rcases am_c1_cases hc with rfl | ⟨q, rfl⟩ | ⟨q, rfl⟩ | rfl
  · exact am_run_next (x := (.iinc 2 1, 3, 0, 0, 0, 0)) (by decide +kernel) rfl
  · exact am_run_next (x := (.iinc 2 1, 3, 0, 0, 0, 0)) (by decide +kernel) rfl
  · exact am_run_next (x := (.iinc 2 1, 3, 0, 0, 0, 0)) (by decide +kernel) rfl
  · exact am_run_next (x := (.iinc 2 1, 3, 0, 0, 0, 0)) (by decide +kernel) rfl
theorem r_Ta_readAnd_48_k {G : Nat → Value} {d : Nat} {st : List Value} {M : am_M} {l0 : Option Value} {v : Int32} {z : Int64} : am_run G d K_Ta_readAnd (48, [l0, some (.long z), some (.int v)], st, M) = am_run G d K_Ta_readAnd (51, [l0, none, some (.int (v + 1))], st, M) := am_run_next (x := (.iinc 2 1, 3, 0, 0, 0, 0)) (by decide +kernel) rfl
theorem r_Ta_readAnd_51 {G : Nat → Value} {d : Nat} {st : List Value} {M : am_M} {l0 l1 l2 : Option Value} : am_run G d K_Ta_readAnd (51, [l0, l1, l2], st, M) = am_run G d K_Ta_readAnd (12, [l0, l1, l2], st, M) := am_run_next (x := (.goto (-39), 3, 0, 0, 0, 0)) (by decide +kernel) rfl
theorem r_Ta_readAnd_54 {G : Nat → Value} {d : Nat} {st : List Value} {M : am_M} {l0 l1 l2 : Option Value} : am_run G d K_Ta_readAnd (54, [l0, l1, l2], st, M) = am_run G d K_Ta_readAnd (55, [l0, l1, l2], .int 1 :: st, M) := am_run_next (x := (.iconst 1, 1, 0, 0, 0, 0)) (by decide +kernel) rfl
theorem r_Ta_readAnd_55 {G : Nat → Value} {d : Nat} {M : am_M} {l0 l1 l2 : Option Value} {a : Int32} (ha : a = 0 ∨ a = 1) : am_run G d K_Ta_readAnd (55, [l0, l1, l2], [.int a], M) = some (some (.int a), M) := am_run_ret (x := (.ireturn, 1, 0, 0, 0, 0)) (by decide +kernel) (if_pos (decide_eq_true ha))
theorem r_Ta_readNot_0 {G : Nat → Value} {d : Nat} {st : List Value} {M : am_M} {l1 l2 : Option Value} {v : Value} (hv : am_isr v = true) : am_run G d K_Ta_readNot (0, [some v, l1, l2], st, M) = am_run G d K_Ta_readNot (1, [some v, l1, l2], v :: st, M) := by
  rcases am_isr_cases hv with ⟨q, rfl⟩ | rfl
  · exact am_run_next (x := (.aload_n 0, 1, 0, 0, 0, 0)) (by decide +kernel) rfl
  · exact am_run_next (x := (.aload_n 0, 1, 0, 0, 0, 0)) (by decide +kernel) rfl
theorem r_Ta_readNot_1 {G : Nat → Value} {d : Nat} {st : List Value} {M : am_M} {l0 l1 l2 : Option Value} {a : Nat} : am_run G d K_Ta_readNot (1, [l0, l1, l2], .ref a :: st, M) = am_kf G d K_Ta_readNot 4 [l0, l1, l2] st M (am_fld M a 7 3) := am_run_kf (x := (.getfield 38, 3, 7, 3, 1049, 0)) (by decide +kernel) rfl
theorem r_Ta_readNot_4 {G : Nat → Value} {d : Nat} {st : List Value} {M : am_M} {l0 l1 l2 : Option Value} : am_run G d K_Ta_readNot (4, [l0, l1, l2], st, M) = am_run G d K_Ta_readNot (6, [l0, l1, l2], .int 10 :: st, M) := am_run_next (x := (.bipush 10, 2, 0, 0, 0, 0)) (by decide +kernel) rfl
theorem r_Ta_readNot_6 {G : Nat → Value} {d : Nat} {st : List Value} {M : am_M} {l0 l1 l2 : Option Value} {a b : Int32} : am_run G d K_Ta_readNot (6, [l0, l1, l2], .int b :: .int a :: st, M) = if ¬ a = b then am_run G d K_Ta_readNot (40, [l0, l1, l2], st, M) else am_run G d K_Ta_readNot (9, [l0, l1, l2], st, M) := by
  split
  · next h => exact am_run_next (x := (.if_icmp .ne 34, 3, 0, 0, 0, 0)) (by decide +kernel) (am_br_t (decide_eq_true h) (by decide))
  · next h => exact am_run_next (x := (.if_icmp .ne 34, 3, 0, 0, 0, 0)) (by decide +kernel) (am_br_f (decide_eq_false h) (by decide))
theorem r_Ta_readNot_9 {G : Nat → Value} {d : Nat} {st : List Value} {M : am_M} {l0 l2 : Option Value} {v : Int32} : am_run G d K_Ta_readNot (9, [l0, some (.int v), l2], st, M) = am_run G d K_Ta_readNot (10, [l0, some (.int v), l2], .int v :: st, M) := am_run_next (x := (.iload_n 1, 1, 0, 0, 0, 0)) (by decide +kernel) rfl
theorem r_Ta_readNot_10 {G : Nat → Value} {d : Nat} {st : List Value} {M : am_M} {l0 l1 l2 : Option Value} : am_run G d K_Ta_readNot (10, [l0, l1, l2], st, M) = am_run G d K_Ta_readNot (11, [l0, l1, l2], .int 5 :: st, M) := am_run_next (x := (.iconst 5, 1, 0, 0, 0, 0)) (by decide +kernel) rfl
theorem r_Ta_readNot_11 {G : Nat → Value} {d : Nat} {st : List Value} {M : am_M} {l0 l1 l2 : Option Value} {a b : Int32} : am_run G d K_Ta_readNot (11, [l0, l1, l2], .int b :: .int a :: st, M) = if a < b then am_run G d K_Ta_readNot (16, [l0, l1, l2], st, M) else am_run G d K_Ta_readNot (14, [l0, l1, l2], st, M) := by
  split
  · next h => exact am_run_next (x := (.if_icmp .lt 5, 3, 0, 0, 0, 0)) (by decide +kernel) (am_br_t (decide_eq_true h) (by decide))
  · next h => exact am_run_next (x := (.if_icmp .lt 5, 3, 0, 0, 0, 0)) (by decide +kernel) (am_br_f (decide_eq_false h) (by decide))
theorem r_Ta_readNot_14 {G : Nat → Value} {d : Nat} {st : List Value} {M : am_M} {l0 l1 l2 : Option Value} : am_run G d K_Ta_readNot (14, [l0, l1, l2], st, M) = am_run G d K_Ta_readNot (15, [l0, l1, l2], .int 0 :: st, M) := am_run_next (x := (.iconst 0, 1, 0, 0, 0, 0)) (by decide +kernel) rfl
theorem r_Ta_readNot_15 {G : Nat → Value} {d : Nat} {M : am_M} {l0 l1 l2 : Option Value} {a : Int32} (ha : a = 0 ∨ a = 1) : am_run G d K_Ta_readNot (15, [l0, l1, l2], [.int a], M) = some (some (.int a), M) := am_run_ret (x := (.ireturn, 1, 0, 0, 0, 0)) (by decide +kernel) (if_pos (decide_eq_true ha))
theorem r_Ta_readNot_16 {G : Nat → Value} {d : Nat} {st : List Value} {M : am_M} {l1 l2 : Option Value} {v : Value} (hv : am_isr v = true) : am_run G d K_Ta_readNot (16, [some v, l1, l2], st, M) = am_run G d K_Ta_readNot (17, [some v, l1, l2], v :: st, M) := by
  rcases am_isr_cases hv with ⟨q, rfl⟩ | rfl
  · exact am_run_next (x := (.aload_n 0, 1, 0, 0, 0, 0)) (by decide +kernel) rfl
  · exact am_run_next (x := (.aload_n 0, 1, 0, 0, 0, 0)) (by decide +kernel) rfl
theorem r_Ta_readNot_17 {G : Nat → Value} {d : Nat} {st : List Value} {M : am_M} {l0 l1 l2 : Option Value} {q : Nat} (hq : am_cls M q = some 7) (h8 : am_sw st ≤ 8) : am_run G d K_Ta_readNot (17, [l0, l1, l2], .ref q :: st, M) = am_k G d K_Ta_readNot 20 [l0, l1, l2] st (am_ex G d K_Ta_step [.ref q] M) := am_run_iv (i := 25) (n := 0) (pl := 1180) (Bs := []) (z := K_Ta_step) (by decide +kernel) hq h8 rfl (Nat.le_of_ble_eq_true rfl) rfl
theorem r_Ta_readNot_20 {G : Nat → Value} {d : Nat} {st : List Value} {M : am_M} {l1 l2 : Option Value} {v : Value} (hv : am_isr v = true) : am_run G d K_Ta_readNot (20, [some v, l1, l2], st, M) = am_run G d K_Ta_readNot (21, [some v, l1, l2], v :: st, M) := by
  rcases am_isr_cases hv with ⟨q, rfl⟩ | rfl
  · exact am_run_next (x := (.aload_n 0, 1, 0, 0, 0, 0)) (by decide +kernel) rfl
  · exact am_run_next (x := (.aload_n 0, 1, 0, 0, 0, 0)) (by decide +kernel) rfl
theorem r_Ta_readNot_21 {G : Nat → Value} {d : Nat} {st : List Value} {M : am_M} {l0 l2 : Option Value} {v : Int32} : am_run G d K_Ta_readNot (21, [l0, some (.int v), l2], st, M) = am_run G d K_Ta_readNot (22, [l0, some (.int v), l2], .int v :: st, M) := am_run_next (x := (.iload_n 1, 1, 0, 0, 0, 0)) (by decide +kernel) rfl
theorem r_Ta_readNot_22 {G : Nat → Value} {d : Nat} {st : List Value} {M : am_M} {l0 l1 l2 : Option Value} : am_run G d K_Ta_readNot (22, [l0, l1, l2], st, M) = am_run G d K_Ta_readNot (23, [l0, l1, l2], .int 1 :: st, M) := am_run_next (x := (.iconst 1, 1, 0, 0, 0, 0)) (by decide +kernel) rfl
theorem r_Ta_readNot_23 {G : Nat → Value} {d : Nat} {st : List Value} {M : am_M} {l0 l1 l2 : Option Value} {a b : Int32} : am_run G d K_Ta_readNot (23, [l0, l1, l2], .int b :: .int a :: st, M) = am_run G d K_Ta_readNot (24, [l0, l1, l2], .int (a + b) :: st, M) := am_run_next (x := (.iadd, 1, 0, 0, 0, 0)) (by decide +kernel) rfl
theorem r_Ta_readNot_24 {G : Nat → Value} {d : Nat} {st : List Value} {M : am_M} {l0 l1 l2 : Option Value} {q : Nat} {a0 : Int32} (hq : am_cls M q = some 7) (h8 : am_sw st ≤ 8) : am_run G d K_Ta_readNot (24, [l0, l1, l2], .int a0 :: .ref q :: st, M) = am_k G d K_Ta_readNot 27 [l0, l1, l2] st (am_ex G d K_Ta_readNot [.ref q, .int a0] M) := am_run_iv (i := 66) (n := 1) (pl := 2054) (Bs := [.int a0]) (z := K_Ta_readNot) (by decide +kernel) hq h8 rfl (Nat.le_of_ble_eq_true rfl) rfl
theorem r_Ta_readNot_27 {G : Nat → Value} {d : Nat} {st : List Value} {M : am_M} {l0 l1 l2 : Option Value} {a : Int32} : am_run G d K_Ta_readNot (27, [l0, l1, l2], .int a :: st, M) = if ¬ a = 0 then am_run G d K_Ta_readNot (32, [l0, l1, l2], st, M) else am_run G d K_Ta_readNot (30, [l0, l1, l2], st, M) := by
  split
  · next h => exact am_run_next (x := (.ifCond .ne 5, 3, 0, 0, 0, 0)) (by decide +kernel) (am_br_t (decide_eq_true h) (by decide))
  · next h => exact am_run_next (x := (.ifCond .ne 5, 3, 0, 0, 0, 0)) (by decide +kernel) (am_br_f (decide_eq_false h) (by decide))
theorem r_Ta_readNot_30 {G : Nat → Value} {d : Nat} {st : List Value} {M : am_M} {l0 l1 l2 : Option Value} : am_run G d K_Ta_readNot (30, [l0, l1, l2], st, M) = am_run G d K_Ta_readNot (31, [l0, l1, l2], .int 0 :: st, M) := am_run_next (x := (.iconst 0, 1, 0, 0, 0, 0)) (by decide +kernel) rfl
theorem r_Ta_readNot_31 {G : Nat → Value} {d : Nat} {M : am_M} {l0 l1 l2 : Option Value} {a : Int32} (ha : a = 0 ∨ a = 1) : am_run G d K_Ta_readNot (31, [l0, l1, l2], [.int a], M) = some (some (.int a), M) := am_run_ret (x := (.ireturn, 1, 0, 0, 0, 0)) (by decide +kernel) (if_pos (decide_eq_true ha))
theorem r_Ta_readNot_32 {G : Nat → Value} {d : Nat} {st : List Value} {M : am_M} {l1 l2 : Option Value} {v : Value} (hv : am_isr v = true) : am_run G d K_Ta_readNot (32, [some v, l1, l2], st, M) = am_run G d K_Ta_readNot (33, [some v, l1, l2], v :: st, M) := by
  rcases am_isr_cases hv with ⟨q, rfl⟩ | rfl
  · exact am_run_next (x := (.aload_n 0, 1, 0, 0, 0, 0)) (by decide +kernel) rfl
  · exact am_run_next (x := (.aload_n 0, 1, 0, 0, 0, 0)) (by decide +kernel) rfl
theorem r_Ta_readNot_33 {G : Nat → Value} {d : Nat} {st : List Value} {M : am_M} {l0 l1 l2 : Option Value} : am_run G d K_Ta_readNot (33, [l0, l1, l2], st, M) = am_run G d K_Ta_readNot (35, [l0, l1, l2], .int (-21) :: st, M) := am_run_next (x := (.bipush (-21), 2, 0, 0, 0, 0)) (by decide +kernel) rfl
theorem r_Ta_readNot_35 {G : Nat → Value} {d : Nat} {st : List Value} {M : am_M} {l0 l1 l2 : Option Value} {q : Nat} {a0 : Int32} (hq : am_cls M q = some 7) (h8 : am_sw st ≤ 8) : am_run G d K_Ta_readNot (35, [l0, l1, l2], .int a0 :: .ref q :: st, M) = am_k G d K_Ta_readNot 38 [l0, l1, l2] st (am_ex G d K_Ta_write [.ref q, .int a0] M) := am_run_iv (i := 62) (n := 1) (pl := 2058) (Bs := [.int a0]) (z := K_Ta_write) (by decide +kernel) hq h8 rfl (Nat.le_of_ble_eq_true rfl) rfl
theorem r_Ta_readNot_38 {G : Nat → Value} {d : Nat} {st : List Value} {M : am_M} {l0 l1 l2 : Option Value} : am_run G d K_Ta_readNot (38, [l0, l1, l2], st, M) = am_run G d K_Ta_readNot (39, [l0, l1, l2], .int 1 :: st, M) := am_run_next (x := (.iconst 1, 1, 0, 0, 0, 0)) (by decide +kernel) rfl
theorem r_Ta_readNot_39 {G : Nat → Value} {d : Nat} {M : am_M} {l0 l1 l2 : Option Value} {a : Int32} (ha : a = 0 ∨ a = 1) : am_run G d K_Ta_readNot (39, [l0, l1, l2], [.int a], M) = some (some (.int a), M) := am_run_ret (x := (.ireturn, 1, 0, 0, 0, 0)) (by decide +kernel) (if_pos (decide_eq_true ha))
theorem r_Ta_readNot_40 {G : Nat → Value} {d : Nat} {st : List Value} {M : am_M} {l1 l2 : Option Value} {v : Value} (hv : am_isr v = true) : am_run G d K_Ta_readNot (40, [some v, l1, l2], st, M) = am_run G d K_Ta_readNot (41, [some v, l1, l2], v :: st, M) := by
  rcases am_isr_cases hv with ⟨q, rfl⟩ | rfl
  · exact am_run_next (x := (.aload_n 0, 1, 0, 0, 0, 0)) (by decide +kernel) rfl
  · exact am_run_next (x := (.aload_n 0, 1, 0, 0, 0, 0)) (by decide +kernel) rfl
theorem r_Ta_readNot_41 {G : Nat → Value} {d : Nat} {st : List Value} {M : am_M} {l0 l2 : Option Value} {v : Int32} : am_run G d K_Ta_readNot (41, [l0, some (.int v), l2], st, M) = am_run G d K_Ta_readNot (42, [l0, some (.int v), l2], .int v :: st, M) := am_run_next (x := (.iload_n 1, 1, 0, 0, 0, 0)) (by decide +kernel) rfl
theorem r_Ta_readNot_42 {G : Nat → Value} {d : Nat} {st : List Value} {M : am_M} {l0 l1 l2 : Option Value} {q : Nat} {a0 : Int32} (hq : am_cls M q = some 7) (h8 : am_sw st ≤ 8) : am_run G d K_Ta_readNot (42, [l0, l1, l2], .int a0 :: .ref q :: st, M) = am_k G d K_Ta_readNot 45 [l0, l1, l2] st (am_ex G d K_Ta_readSum [.ref q, .int a0] M) := am_run_iv (i := 69) (n := 1) (pl := 2062) (Bs := [.int a0]) (z := K_Ta_readSum) (by decide +kernel) hq h8 rfl (Nat.le_of_ble_eq_true rfl) rfl
theorem r_Ta_readNot_45 {G : Nat → Value} {d : Nat} {st : List Value} {M : am_M} {l0 l1 l2 : Option Value} {a : Int32} : am_run G d K_Ta_readNot (45, [l0, l1, l2], .int a :: st, M) = if ¬ a = 0 then am_run G d K_Ta_readNot (50, [l0, l1, l2], st, M) else am_run G d K_Ta_readNot (48, [l0, l1, l2], st, M) := by
  split
  · next h => exact am_run_next (x := (.ifCond .ne 5, 3, 0, 0, 0, 0)) (by decide +kernel) (am_br_t (decide_eq_true h) (by decide))
  · next h => exact am_run_next (x := (.ifCond .ne 5, 3, 0, 0, 0, 0)) (by decide +kernel) (am_br_f (decide_eq_false h) (by decide))
theorem r_Ta_readNot_48 {G : Nat → Value} {d : Nat} {st : List Value} {M : am_M} {l0 l1 l2 : Option Value} : am_run G d K_Ta_readNot (48, [l0, l1, l2], st, M) = am_run G d K_Ta_readNot (49, [l0, l1, l2], .int 0 :: st, M) := am_run_next (x := (.iconst 0, 1, 0, 0, 0, 0)) (by decide +kernel) rfl
theorem r_Ta_readNot_49 {G : Nat → Value} {d : Nat} {M : am_M} {l0 l1 l2 : Option Value} {a : Int32} (ha : a = 0 ∨ a = 1) : am_run G d K_Ta_readNot (49, [l0, l1, l2], [.int a], M) = some (some (.int a), M) := am_run_ret (x := (.ireturn, 1, 0, 0, 0, 0)) (by decide +kernel) (if_pos (decide_eq_true ha))
theorem r_Ta_readNot_50 {G : Nat → Value} {d : Nat} {st : List Value} {M : am_M} {l1 l2 : Option Value} {v : Value} (hv : am_isr v = true) : am_run G d K_Ta_readNot (50, [some v, l1, l2], st, M) = am_run G d K_Ta_readNot (51, [some v, l1, l2], v :: st, M) := by
  rcases am_isr_cases hv with ⟨q, rfl⟩ | rfl
  · exact am_run_next (x := (.aload_n 0, 1, 0, 0, 0, 0)) (by decide +kernel) rfl
  · exact am_run_next (x := (.aload_n 0, 1, 0, 0, 0, 0)) (by decide +kernel) rfl
theorem r_Ta_readNot_51 {G : Nat → Value} {d : Nat} {st : List Value} {M : am_M} {l0 l1 l2 : Option Value} {a : Nat} : am_run G d K_Ta_readNot (51, [l0, l1, l2], .ref a :: st, M) = am_kf G d K_Ta_readNot 54 [l0, l1, l2] st M (am_fld M a 7 3) := am_run_kf (x := (.getfield 38, 3, 7, 3, 1049, 0)) (by decide +kernel) rfl
theorem r_Ta_readNot_54 {G : Nat → Value} {d : Nat} {st : List Value} {M : am_M} {l0 l1 l2 : Option Value} : am_run G d K_Ta_readNot (54, [l0, l1, l2], st, M) = am_run G d K_Ta_readNot (56, [l0, l1, l2], .int 60 :: st, M) := am_run_next (x := (.bipush 60, 2, 0, 0, 0, 0)) (by decide +kernel) rfl
theorem r_Ta_readNot_56 {G : Nat → Value} {d : Nat} {st : List Value} {M : am_M} {l0 l1 l2 : Option Value} {a b : Int32} : am_run G d K_Ta_readNot (56, [l0, l1, l2], .int b :: .int a :: st, M) = if a = b then am_run G d K_Ta_readNot (70, [l0, l1, l2], st, M) else am_run G d K_Ta_readNot (59, [l0, l1, l2], st, M) := by
  split
  · next h => exact am_run_next (x := (.if_icmp .eq 14, 3, 0, 0, 0, 0)) (by decide +kernel) (am_br_t (decide_eq_true h) (by decide))
  · next h => exact am_run_next (x := (.if_icmp .eq 14, 3, 0, 0, 0, 0)) (by decide +kernel) (am_br_f (decide_eq_false h) (by decide))
theorem r_Ta_readNot_59 {G : Nat → Value} {d : Nat} {st : List Value} {M : am_M} {l1 l2 : Option Value} {v : Value} (hv : am_isr v = true) : am_run G d K_Ta_readNot (59, [some v, l1, l2], st, M) = am_run G d K_Ta_readNot (60, [some v, l1, l2], v :: st, M) := by
  rcases am_isr_cases hv with ⟨q, rfl⟩ | rfl
  · exact am_run_next (x := (.aload_n 0, 1, 0, 0, 0, 0)) (by decide +kernel) rfl
  · exact am_run_next (x := (.aload_n 0, 1, 0, 0, 0, 0)) (by decide +kernel) rfl
theorem r_Ta_readNot_60 {G : Nat → Value} {d : Nat} {st : List Value} {M : am_M} {l0 l1 l2 : Option Value} {a : Nat} : am_run G d K_Ta_readNot (60, [l0, l1, l2], .ref a :: st, M) = am_kf G d K_Ta_readNot 63 [l0, l1, l2] st M (am_fld M a 7 3) := am_run_kf (x := (.getfield 38, 3, 7, 3, 1049, 0)) (by decide +kernel) rfl
theorem r_Ta_readNot_63 {G : Nat → Value} {d : Nat} {st : List Value} {M : am_M} {l0 l1 l2 : Option Value} : am_run G d K_Ta_readNot (63, [l0, l1, l2], st, M) = am_run G d K_Ta_readNot (65, [l0, l1, l2], .int 61 :: st, M) := am_run_next (x := (.bipush 61, 2, 0, 0, 0, 0)) (by decide +kernel) rfl
theorem r_Ta_readNot_65 {G : Nat → Value} {d : Nat} {st : List Value} {M : am_M} {l0 l1 l2 : Option Value} {a b : Int32} : am_run G d K_Ta_readNot (65, [l0, l1, l2], .int b :: .int a :: st, M) = if a = b then am_run G d K_Ta_readNot (70, [l0, l1, l2], st, M) else am_run G d K_Ta_readNot (68, [l0, l1, l2], st, M) := by
  split
  · next h => exact am_run_next (x := (.if_icmp .eq 5, 3, 0, 0, 0, 0)) (by decide +kernel) (am_br_t (decide_eq_true h) (by decide))
  · next h => exact am_run_next (x := (.if_icmp .eq 5, 3, 0, 0, 0, 0)) (by decide +kernel) (am_br_f (decide_eq_false h) (by decide))
theorem r_Ta_readNot_68 {G : Nat → Value} {d : Nat} {st : List Value} {M : am_M} {l0 l1 l2 : Option Value} : am_run G d K_Ta_readNot (68, [l0, l1, l2], st, M) = am_run G d K_Ta_readNot (69, [l0, l1, l2], .int 1 :: st, M) := am_run_next (x := (.iconst 1, 1, 0, 0, 0, 0)) (by decide +kernel) rfl
theorem r_Ta_readNot_69 {G : Nat → Value} {d : Nat} {M : am_M} {l0 l1 l2 : Option Value} {a : Int32} (ha : a = 0 ∨ a = 1) : am_run G d K_Ta_readNot (69, [l0, l1, l2], [.int a], M) = some (some (.int a), M) := am_run_ret (x := (.ireturn, 1, 0, 0, 0, 0)) (by decide +kernel) (if_pos (decide_eq_true ha))
theorem r_Ta_readNot_70 {G : Nat → Value} {d : Nat} {st : List Value} {M : am_M} {l1 l2 : Option Value} {v : Value} (hv : am_isr v = true) : am_run G d K_Ta_readNot (70, [some v, l1, l2], st, M) = am_run G d K_Ta_readNot (71, [some v, l1, l2], v :: st, M) := by
  rcases am_isr_cases hv with ⟨q, rfl⟩ | rfl
  · exact am_run_next (x := (.aload_n 0, 1, 0, 0, 0, 0)) (by decide +kernel) rfl
  · exact am_run_next (x := (.aload_n 0, 1, 0, 0, 0, 0)) (by decide +kernel) rfl
theorem r_Ta_readNot_71 {G : Nat → Value} {d : Nat} {st : List Value} {M : am_M} {l0 l1 l2 : Option Value} {a : Nat} : am_run G d K_Ta_readNot (71, [l0, l1, l2], .ref a :: st, M) = am_kf G d K_Ta_readNot 74 [l0, l1, l2] st M (am_fld M a 7 3) := am_run_kf (x := (.getfield 38, 3, 7, 3, 1049, 0)) (by decide +kernel) rfl
theorem r_Ta_readNot_74 {G : Nat → Value} {d : Nat} {st : List Value} {M : am_M} {l0 l1 l2 : Option Value} : am_run G d K_Ta_readNot (74, [l0, l1, l2], st, M) = am_run G d K_Ta_readNot (76, [l0, l1, l2], .int 60 :: st, M) := am_run_next (x := (.bipush 60, 2, 0, 0, 0, 0)) (by decide +kernel) rfl
theorem r_Ta_readNot_76 {G : Nat → Value} {d : Nat} {st : List Value} {M : am_M} {l0 l1 l2 : Option Value} {a b : Int32} : am_run G d K_Ta_readNot (76, [l0, l1, l2], .int b :: .int a :: st, M) = if ¬ a = b then am_run G d K_Ta_readNot (84, [l0, l1, l2], st, M) else am_run G d K_Ta_readNot (79, [l0, l1, l2], st, M) := by
  split
  · next h => exact am_run_next (x := (.if_icmp .ne 8, 3, 0, 0, 0, 0)) (by decide +kernel) (am_br_t (decide_eq_true h) (by decide))
  · next h => exact am_run_next (x := (.if_icmp .ne 8, 3, 0, 0, 0, 0)) (by decide +kernel) (am_br_f (decide_eq_false h) (by decide))
theorem r_Ta_readNot_79 {G : Nat → Value} {d : Nat} {st : List Value} {M : am_M} {l0 l1 l2 : Option Value} : am_run G d K_Ta_readNot (79, [l0, l1, l2], st, M) = am_run G d K_Ta_readNot (81, [l0, l1, l2], .int (-13) :: st, M) := am_run_next (x := (.bipush (-13), 2, 0, 0, 0, 0)) (by decide +kernel) rfl
theorem r_Ta_readNot_81 {G : Nat → Value} {d : Nat} {st : List Value} {M : am_M} {l0 l1 l2 : Option Value} : am_run G d K_Ta_readNot (81, [l0, l1, l2], st, M) = am_run G d K_Ta_readNot (86, [l0, l1, l2], st, M) := am_run_next (x := (.goto 5, 3, 0, 0, 0, 0)) (by decide +kernel) rfl
theorem r_Ta_readNot_84 {G : Nat → Value} {d : Nat} {st : List Value} {M : am_M} {l0 l1 l2 : Option Value} : am_run G d K_Ta_readNot (84, [l0, l1, l2], st, M) = am_run G d K_Ta_readNot (86, [l0, l1, l2], .int (-14) :: st, M) := am_run_next (x := (.bipush (-14), 2, 0, 0, 0, 0)) (by decide +kernel) rfl
theorem r_Ta_readNot_86 {G : Nat → Value} {d : Nat} {st : List Value} {M : am_M} {l0 l1 l2 : Option Value} {v : Int32} (hc : am_c1 l1 = true) : am_run G d K_Ta_readNot (86, [l0, l1, l2], .int v :: st, M) = am_run G d K_Ta_readNot (87, [l0, l1, some (.int v)], st, M) := by
  rcases am_c1_cases hc with rfl | ⟨q, rfl⟩ | ⟨q, rfl⟩ | rfl
  · exact am_run_next (x := (.istore_n 2, 1, 0, 0, 0, 0)) (by decide +kernel) rfl
  · exact am_run_next (x := (.istore_n 2, 1, 0, 0, 0, 0)) (by decide +kernel) rfl
  · exact am_run_next (x := (.istore_n 2, 1, 0, 0, 0, 0)) (by decide +kernel) rfl
  · exact am_run_next (x := (.istore_n 2, 1, 0, 0, 0, 0)) (by decide +kernel) rfl
theorem r_Ta_readNot_86_k {G : Nat → Value} {d : Nat} {st : List Value} {M : am_M} {l0 l2 : Option Value} {v : Int32} {z : Int64} : am_run G d K_Ta_readNot (86, [l0, some (.long z), l2], .int v :: st, M) = am_run G d K_Ta_readNot (87, [l0, none, some (.int v)], st, M) := am_run_next (x := (.istore_n 2, 1, 0, 0, 0, 0)) (by decide +kernel) rfl
theorem r_Ta_readNot_87 {G : Nat → Value} {d : Nat} {st : List Value} {M : am_M} {l1 l2 : Option Value} {v : Value} (hv : am_isr v = true) : am_run G d K_Ta_readNot (87, [some v, l1, l2], st, M) = am_run G d K_Ta_readNot (88, [some v, l1, l2], v :: st, M) := by
  rcases am_isr_cases hv with ⟨q, rfl⟩ | rfl
  · exact am_run_next (x := (.aload_n 0, 1, 0, 0, 0, 0)) (by decide +kernel) rfl
  · exact am_run_next (x := (.aload_n 0, 1, 0, 0, 0, 0)) (by decide +kernel) rfl
theorem r_Ta_readNot_88 {G : Nat → Value} {d : Nat} {st : List Value} {M : am_M} {l0 l1 l2 : Option Value} {q : Nat} (hq : am_cls M q = some 7) (h8 : am_sw st ≤ 8) : am_run G d K_Ta_readNot (88, [l0, l1, l2], .ref q :: st, M) = am_k G d K_Ta_readNot 91 [l0, l1, l2] st (am_ex G d K_Ta_step [.ref q] M) := am_run_iv (i := 25) (n := 0) (pl := 1180) (Bs := []) (z := K_Ta_step) (by decide +kernel) hq h8 rfl (Nat.le_of_ble_eq_true rfl) rfl
theorem r_Ta_readNot_91 {G : Nat → Value} {d : Nat} {st : List Value} {M : am_M} {l1 l2 : Option Value} {v : Value} (hv : am_isr v = true) : am_run G d K_Ta_readNot (91, [some v, l1, l2], st, M) = am_run G d K_Ta_readNot (92, [some v, l1, l2], v :: st, M) := by
  rcases am_isr_cases hv with ⟨q, rfl⟩ | rfl
  · exact am_run_next (x := (.aload_n 0, 1, 0, 0, 0, 0)) (by decide +kernel) rfl
  · exact am_run_next (x := (.aload_n 0, 1, 0, 0, 0, 0)) (by decide +kernel) rfl
theorem r_Ta_readNot_92 {G : Nat → Value} {d : Nat} {st : List Value} {M : am_M} {l0 l2 : Option Value} {v : Int32} : am_run G d K_Ta_readNot (92, [l0, some (.int v), l2], st, M) = am_run G d K_Ta_readNot (93, [l0, some (.int v), l2], .int v :: st, M) := am_run_next (x := (.iload_n 1, 1, 0, 0, 0, 0)) (by decide +kernel) rfl
theorem r_Ta_readNot_93 {G : Nat → Value} {d : Nat} {st : List Value} {M : am_M} {l0 l1 l2 : Option Value} {q : Nat} {a0 : Int32} (hq : am_cls M q = some 7) (h8 : am_sw st ≤ 8) : am_run G d K_Ta_readNot (93, [l0, l1, l2], .int a0 :: .ref q :: st, M) = am_k G d K_Ta_readNot 96 [l0, l1, l2] st (am_ex G d K_Ta_readSum [.ref q, .int a0] M) := am_run_iv (i := 69) (n := 1) (pl := 2062) (Bs := [.int a0]) (z := K_Ta_readSum) (by decide +kernel) hq h8 rfl (Nat.le_of_ble_eq_true rfl) rfl
theorem r_Ta_readNot_96 {G : Nat → Value} {d : Nat} {st : List Value} {M : am_M} {l0 l1 l2 : Option Value} {a : Int32} : am_run G d K_Ta_readNot (96, [l0, l1, l2], .int a :: st, M) = if ¬ a = 0 then am_run G d K_Ta_readNot (101, [l0, l1, l2], st, M) else am_run G d K_Ta_readNot (99, [l0, l1, l2], st, M) := by
  split
  · next h => exact am_run_next (x := (.ifCond .ne 5, 3, 0, 0, 0, 0)) (by decide +kernel) (am_br_t (decide_eq_true h) (by decide))
  · next h => exact am_run_next (x := (.ifCond .ne 5, 3, 0, 0, 0, 0)) (by decide +kernel) (am_br_f (decide_eq_false h) (by decide))
theorem r_Ta_readNot_99 {G : Nat → Value} {d : Nat} {st : List Value} {M : am_M} {l0 l1 l2 : Option Value} : am_run G d K_Ta_readNot (99, [l0, l1, l2], st, M) = am_run G d K_Ta_readNot (100, [l0, l1, l2], .int 0 :: st, M) := am_run_next (x := (.iconst 0, 1, 0, 0, 0, 0)) (by decide +kernel) rfl
theorem r_Ta_readNot_100 {G : Nat → Value} {d : Nat} {M : am_M} {l0 l1 l2 : Option Value} {a : Int32} (ha : a = 0 ∨ a = 1) : am_run G d K_Ta_readNot (100, [l0, l1, l2], [.int a], M) = some (some (.int a), M) := am_run_ret (x := (.ireturn, 1, 0, 0, 0, 0)) (by decide +kernel) (if_pos (decide_eq_true ha))
theorem r_Ta_readNot_101 {G : Nat → Value} {d : Nat} {st : List Value} {M : am_M} {l1 l2 : Option Value} {v : Value} (hv : am_isr v = true) : am_run G d K_Ta_readNot (101, [some v, l1, l2], st, M) = am_run G d K_Ta_readNot (102, [some v, l1, l2], v :: st, M) := by
  rcases am_isr_cases hv with ⟨q, rfl⟩ | rfl
  · exact am_run_next (x := (.aload_n 0, 1, 0, 0, 0, 0)) (by decide +kernel) rfl
  · exact am_run_next (x := (.aload_n 0, 1, 0, 0, 0, 0)) (by decide +kernel) rfl
theorem r_Ta_readNot_102 {G : Nat → Value} {d : Nat} {st : List Value} {M : am_M} {l0 l1 : Option Value} {v : Int32} : am_run G d K_Ta_readNot (102, [l0, l1, some (.int v)], st, M) = am_run G d K_Ta_readNot (103, [l0, l1, some (.int v)], .int v :: st, M) := am_run_next (x := (.iload_n 2, 1, 0, 0, 0, 0)) (by decide +kernel) rfl
theorem r_Ta_readNot_103 {G : Nat → Value} {d : Nat} {st : List Value} {M : am_M} {l0 l1 l2 : Option Value} {q : Nat} {a0 : Int32} (hq : am_cls M q = some 7) (h8 : am_sw st ≤ 8) : am_run G d K_Ta_readNot (103, [l0, l1, l2], .int a0 :: .ref q :: st, M) = am_k G d K_Ta_readNot 106 [l0, l1, l2] st (am_ex G d K_Ta_write [.ref q, .int a0] M) := am_run_iv (i := 62) (n := 1) (pl := 2058) (Bs := [.int a0]) (z := K_Ta_write) (by decide +kernel) hq h8 rfl (Nat.le_of_ble_eq_true rfl) rfl
theorem r_Ta_readNot_106 {G : Nat → Value} {d : Nat} {st : List Value} {M : am_M} {l0 l1 l2 : Option Value} : am_run G d K_Ta_readNot (106, [l0, l1, l2], st, M) = am_run G d K_Ta_readNot (107, [l0, l1, l2], .int 1 :: st, M) := am_run_next (x := (.iconst 1, 1, 0, 0, 0, 0)) (by decide +kernel) rfl
theorem r_Ta_readNot_107 {G : Nat → Value} {d : Nat} {M : am_M} {l0 l1 l2 : Option Value} {a : Int32} (ha : a = 0 ∨ a = 1) : am_run G d K_Ta_readNot (107, [l0, l1, l2], [.int a], M) = some (some (.int a), M) := am_run_ret (x := (.ireturn, 1, 0, 0, 0, 0)) (by decide +kernel) (if_pos (decide_eq_true ha))
theorem r_Ta_write_0 {G : Nat → Value} {d : Nat} {st : List Value} {M : am_M} {l1 : Option Value} {v : Value} (hv : am_isr v = true) : am_run G d K_Ta_write (0, [some v, l1], st, M) = am_run G d K_Ta_write (1, [some v, l1], v :: st, M) := by
  rcases am_isr_cases hv with ⟨q, rfl⟩ | rfl
  · exact am_run_next (x := (.aload_n 0, 1, 0, 0, 0, 0)) (by decide +kernel) rfl
  · exact am_run_next (x := (.aload_n 0, 1, 0, 0, 0, 0)) (by decide +kernel) rfl
theorem r_Ta_write_1 {G : Nat → Value} {d : Nat} {st : List Value} {M : am_M} {l0 l1 : Option Value} {a : Nat} : am_run G d K_Ta_write (1, [l0, l1], .ref a :: st, M) = am_kf G d K_Ta_write 4 [l0, l1] st M (am_fld M a 7 8) := am_run_kf (x := (.getfield 46, 3, 7, 8, 1055, 0)) (by decide +kernel) rfl
theorem r_Ta_write_4 {G : Nat → Value} {d : Nat} {st : List Value} {M : am_M} {l1 : Option Value} {v : Value} (hv : am_isr v = true) : am_run G d K_Ta_write (4, [some v, l1], st, M) = am_run G d K_Ta_write (5, [some v, l1], v :: st, M) := by
  rcases am_isr_cases hv with ⟨q, rfl⟩ | rfl
  · exact am_run_next (x := (.aload_n 0, 1, 0, 0, 0, 0)) (by decide +kernel) rfl
  · exact am_run_next (x := (.aload_n 0, 1, 0, 0, 0, 0)) (by decide +kernel) rfl
theorem r_Ta_write_5 {G : Nat → Value} {d : Nat} {st : List Value} {M : am_M} {l0 l1 : Option Value} {a : Nat} : am_run G d K_Ta_write (5, [l0, l1], .ref a :: st, M) = am_kf G d K_Ta_write 8 [l0, l1] st M (am_fld M a 7 7) := am_run_kf (x := (.getfield 15, 3, 7, 7, 1054, 0)) (by decide +kernel) rfl
theorem r_Ta_write_8 {G : Nat → Value} {d : Nat} {st : List Value} {M : am_M} {l0 l1 : Option Value} {a : Nat} : am_run G d K_Ta_write (8, [l0, l1], .ref a :: st, M) = am_kn G d K_Ta_write 9 [l0, l1] st M (am_len M a) := am_run_kn (x := (.arraylength, 1, 0, 0, 0, 0)) (by decide +kernel) rfl
theorem r_Ta_write_9 {G : Nat → Value} {d : Nat} {st : List Value} {M : am_M} {l0 l1 : Option Value} {a b : Int32} : am_run G d K_Ta_write (9, [l0, l1], .int b :: .int a :: st, M) = if a < b then am_run G d K_Ta_write (13, [l0, l1], st, M) else am_run G d K_Ta_write (12, [l0, l1], st, M) := by
  split
  · next h => exact am_run_next (x := (.if_icmp .lt 4, 3, 0, 0, 0, 0)) (by decide +kernel) (am_br_t (decide_eq_true h) (by decide))
  · next h => exact am_run_next (x := (.if_icmp .lt 4, 3, 0, 0, 0, 0)) (by decide +kernel) (am_br_f (decide_eq_false h) (by decide))
theorem r_Ta_write_12 {G : Nat → Value} {d : Nat} {M : am_M} {l0 l1 : Option Value} : am_run G d K_Ta_write (12, [l0, l1], [], M) = some (none, M) := am_run_ret (x := (.return_, 1, 0, 0, 0, 0)) (by decide +kernel) rfl
theorem r_Ta_write_13 {G : Nat → Value} {d : Nat} {st : List Value} {M : am_M} {l1 : Option Value} {v : Value} (hv : am_isr v = true) : am_run G d K_Ta_write (13, [some v, l1], st, M) = am_run G d K_Ta_write (14, [some v, l1], v :: st, M) := by
  rcases am_isr_cases hv with ⟨q, rfl⟩ | rfl
  · exact am_run_next (x := (.aload_n 0, 1, 0, 0, 0, 0)) (by decide +kernel) rfl
  · exact am_run_next (x := (.aload_n 0, 1, 0, 0, 0, 0)) (by decide +kernel) rfl
theorem r_Ta_write_14 {G : Nat → Value} {d : Nat} {st : List Value} {M : am_M} {l0 l1 : Option Value} {a : Nat} : am_run G d K_Ta_write (14, [l0, l1], .ref a :: st, M) = am_kf G d K_Ta_write 17 [l0, l1] st M (am_fld M a 7 7) := am_run_kf (x := (.getfield 15, 3, 7, 7, 1054, 0)) (by decide +kernel) rfl
theorem r_Ta_write_17 {G : Nat → Value} {d : Nat} {st : List Value} {M : am_M} {l1 : Option Value} {v : Value} (hv : am_isr v = true) : am_run G d K_Ta_write (17, [some v, l1], st, M) = am_run G d K_Ta_write (18, [some v, l1], v :: st, M) := by
  rcases am_isr_cases hv with ⟨q, rfl⟩ | rfl
  · exact am_run_next (x := (.aload_n 0, 1, 0, 0, 0, 0)) (by decide +kernel) rfl
  · exact am_run_next (x := (.aload_n 0, 1, 0, 0, 0, 0)) (by decide +kernel) rfl
theorem r_Ta_write_18 {G : Nat → Value} {d : Nat} {st : List Value} {M : am_M} {l0 l1 : Option Value} {a : Nat} : am_run G d K_Ta_write (18, [l0, l1], .ref a :: st, M) = am_kf G d K_Ta_write 21 [l0, l1] st M (am_fld M a 7 8) := am_run_kf (x := (.getfield 46, 3, 7, 8, 1055, 0)) (by decide +kernel) rfl
theorem r_Ta_write_21 {G : Nat → Value} {d : Nat} {st : List Value} {M : am_M} {l0 : Option Value} {v : Int32} : am_run G d K_Ta_write (21, [l0, some (.int v)], st, M) = am_run G d K_Ta_write (22, [l0, some (.int v)], .int v :: st, M) := am_run_next (x := (.iload_n 1, 1, 0, 0, 0, 0)) (by decide +kernel) rfl
theorem r_Ta_write_22 {G : Nat → Value} {d : Nat} {st : List Value} {M : am_M} {l0 l1 : Option Value} {a : Nat} {i x : Int32} : am_run G d K_Ta_write (22, [l0, l1], .int x :: .int i :: .ref a :: st, M) = am_km G d K_Ta_write 23 [l0, l1] st (am_pi M a i x) := am_run_km (x := (.iastore, 1, 0, 0, 0, 0)) (by decide +kernel) rfl
theorem r_Ta_write_23 {G : Nat → Value} {d : Nat} {st : List Value} {M : am_M} {l1 : Option Value} {v : Value} (hv : am_isr v = true) : am_run G d K_Ta_write (23, [some v, l1], st, M) = am_run G d K_Ta_write (24, [some v, l1], v :: st, M) := by
  rcases am_isr_cases hv with ⟨q, rfl⟩ | rfl
  · exact am_run_next (x := (.aload_n 0, 1, 0, 0, 0, 0)) (by decide +kernel) rfl
  · exact am_run_next (x := (.aload_n 0, 1, 0, 0, 0, 0)) (by decide +kernel) rfl
theorem r_Ta_write_24 {G : Nat → Value} {d : Nat} {st : List Value} {M : am_M} {l0 l1 : Option Value} {v : Value} (hv : v.category = 1) : am_run G d K_Ta_write (24, [l0, l1], v :: st, M) = am_run G d K_Ta_write (25, [l0, l1], v :: v :: st, M) := am_run_next (x := (.dup, 1, 0, 0, 0, 0)) (by decide +kernel) (if_pos hv)
theorem r_Ta_write_25 {G : Nat → Value} {d : Nat} {st : List Value} {M : am_M} {l0 l1 : Option Value} {a : Nat} : am_run G d K_Ta_write (25, [l0, l1], .ref a :: st, M) = am_kf G d K_Ta_write 28 [l0, l1] st M (am_fld M a 7 8) := am_run_kf (x := (.getfield 46, 3, 7, 8, 1055, 0)) (by decide +kernel) rfl
theorem r_Ta_write_28 {G : Nat → Value} {d : Nat} {st : List Value} {M : am_M} {l0 l1 : Option Value} : am_run G d K_Ta_write (28, [l0, l1], st, M) = am_run G d K_Ta_write (29, [l0, l1], .int 1 :: st, M) := am_run_next (x := (.iconst 1, 1, 0, 0, 0, 0)) (by decide +kernel) rfl
theorem r_Ta_write_29 {G : Nat → Value} {d : Nat} {st : List Value} {M : am_M} {l0 l1 : Option Value} {a b : Int32} : am_run G d K_Ta_write (29, [l0, l1], .int b :: .int a :: st, M) = am_run G d K_Ta_write (30, [l0, l1], .int (a + b) :: st, M) := am_run_next (x := (.iadd, 1, 0, 0, 0, 0)) (by decide +kernel) rfl
theorem r_Ta_write_30 {G : Nat → Value} {d : Nat} {st : List Value} {M : am_M} {l0 l1 : Option Value} {a : Nat} {v : Value} : am_run G d K_Ta_write (30, [l0, l1], v :: .ref a :: st, M) = am_km G d K_Ta_write 33 [l0, l1] st (am_pf M a 7 8 .int v) := am_run_km (x := (.putfield 46, 3, 7, 8, 1055, 0)) (by decide +kernel) rfl
theorem r_Ta_write_33 {G : Nat → Value} {d : Nat} {M : am_M} {l0 l1 : Option Value} : am_run G d K_Ta_write (33, [l0, l1], [], M) = some (none, M) := am_run_ret (x := (.return_, 1, 0, 0, 0, 0)) (by decide +kernel) rfl
theorem r_Ta_readSum_0 {G : Nat → Value} {d : Nat} {st : List Value} {M : am_M} {l1 l2 l3 : Option Value} {v : Value} (hv : am_isr v = true) : am_run G d K_Ta_readSum (0, [some v, l1, l2, l3], st, M) = am_run G d K_Ta_readSum (1, [some v, l1, l2, l3], v :: st, M) := by
  rcases am_isr_cases hv with ⟨q, rfl⟩ | rfl
  · exact am_run_next (x := (.aload_n 0, 1, 0, 0, 0, 0)) (by decide +kernel) rfl
  · exact am_run_next (x := (.aload_n 0, 1, 0, 0, 0, 0)) (by decide +kernel) rfl
theorem r_Ta_readSum_1 {G : Nat → Value} {d : Nat} {st : List Value} {M : am_M} {l0 l2 l3 : Option Value} {v : Int32} : am_run G d K_Ta_readSum (1, [l0, some (.int v), l2, l3], st, M) = am_run G d K_Ta_readSum (2, [l0, some (.int v), l2, l3], .int v :: st, M) := am_run_next (x := (.iload_n 1, 1, 0, 0, 0, 0)) (by decide +kernel) rfl
theorem r_Ta_readSum_2 {G : Nat → Value} {d : Nat} {st : List Value} {M : am_M} {l0 l1 l2 l3 : Option Value} {q : Nat} {a0 : Int32} (hq : am_cls M q = some 7) (h8 : am_sw st ≤ 8) : am_run G d K_Ta_readSum (2, [l0, l1, l2, l3], .int a0 :: .ref q :: st, M) = am_k G d K_Ta_readSum 5 [l0, l1, l2, l3] st (am_ex G d K_Ta_readTerm [.ref q, .int a0] M) := am_run_iv (i := 72) (n := 1) (pl := 2066) (Bs := [.int a0]) (z := K_Ta_readTerm) (by decide +kernel) hq h8 rfl (Nat.le_of_ble_eq_true rfl) rfl
theorem r_Ta_readSum_5 {G : Nat → Value} {d : Nat} {st : List Value} {M : am_M} {l0 l1 l2 l3 : Option Value} {a : Int32} : am_run G d K_Ta_readSum (5, [l0, l1, l2, l3], .int a :: st, M) = if ¬ a = 0 then am_run G d K_Ta_readSum (10, [l0, l1, l2, l3], st, M) else am_run G d K_Ta_readSum (8, [l0, l1, l2, l3], st, M) := by
  split
  · next h => exact am_run_next (x := (.ifCond .ne 5, 3, 0, 0, 0, 0)) (by decide +kernel) (am_br_t (decide_eq_true h) (by decide))
  · next h => exact am_run_next (x := (.ifCond .ne 5, 3, 0, 0, 0, 0)) (by decide +kernel) (am_br_f (decide_eq_false h) (by decide))
theorem r_Ta_readSum_8 {G : Nat → Value} {d : Nat} {st : List Value} {M : am_M} {l0 l1 l2 l3 : Option Value} : am_run G d K_Ta_readSum (8, [l0, l1, l2, l3], st, M) = am_run G d K_Ta_readSum (9, [l0, l1, l2, l3], .int 0 :: st, M) := am_run_next (x := (.iconst 0, 1, 0, 0, 0, 0)) (by decide +kernel) rfl
theorem r_Ta_readSum_9 {G : Nat → Value} {d : Nat} {M : am_M} {l0 l1 l2 l3 : Option Value} {a : Int32} (ha : a = 0 ∨ a = 1) : am_run G d K_Ta_readSum (9, [l0, l1, l2, l3], [.int a], M) = some (some (.int a), M) := am_run_ret (x := (.ireturn, 1, 0, 0, 0, 0)) (by decide +kernel) (if_pos (decide_eq_true ha))
theorem r_Ta_readSum_10 {G : Nat → Value} {d : Nat} {st : List Value} {M : am_M} {l0 l1 l2 l3 : Option Value} : am_run G d K_Ta_readSum (10, [l0, l1, l2, l3], st, M) = am_run G d K_Ta_readSum (11, [l0, l1, l2, l3], .int 0 :: st, M) := am_run_next (x := (.iconst 0, 1, 0, 0, 0, 0)) (by decide +kernel) rfl
theorem r_Ta_readSum_11 {G : Nat → Value} {d : Nat} {st : List Value} {M : am_M} {l0 l1 l2 l3 : Option Value} {v : Int32} (hc : am_c1 l1 = true) : am_run G d K_Ta_readSum (11, [l0, l1, l2, l3], .int v :: st, M) = am_run G d K_Ta_readSum (12, [l0, l1, some (.int v), l3], st, M) := by
  rcases am_c1_cases hc with rfl | ⟨q, rfl⟩ | ⟨q, rfl⟩ | rfl
  · exact am_run_next (x := (.istore_n 2, 1, 0, 0, 0, 0)) (by decide +kernel) rfl
  · exact am_run_next (x := (.istore_n 2, 1, 0, 0, 0, 0)) (by decide +kernel) rfl
  · exact am_run_next (x := (.istore_n 2, 1, 0, 0, 0, 0)) (by decide +kernel) rfl
  · exact am_run_next (x := (.istore_n 2, 1, 0, 0, 0, 0)) (by decide +kernel) rfl
theorem r_Ta_readSum_11_k {G : Nat → Value} {d : Nat} {st : List Value} {M : am_M} {l0 l2 l3 : Option Value} {v : Int32} {z : Int64} : am_run G d K_Ta_readSum (11, [l0, some (.long z), l2, l3], .int v :: st, M) = am_run G d K_Ta_readSum (12, [l0, none, some (.int v), l3], st, M) := am_run_next (x := (.istore_n 2, 1, 0, 0, 0, 0)) (by decide +kernel) rfl
theorem r_Ta_readSum_12 {G : Nat → Value} {d : Nat} {st : List Value} {M : am_M} {l1 l2 l3 : Option Value} {v : Value} (hv : am_isr v = true) : am_run G d K_Ta_readSum (12, [some v, l1, l2, l3], st, M) = am_run G d K_Ta_readSum (13, [some v, l1, l2, l3], v :: st, M) := by
  rcases am_isr_cases hv with ⟨q, rfl⟩ | rfl
  · exact am_run_next (x := (.aload_n 0, 1, 0, 0, 0, 0)) (by decide +kernel) rfl
  · exact am_run_next (x := (.aload_n 0, 1, 0, 0, 0, 0)) (by decide +kernel) rfl
theorem r_Ta_readSum_13 {G : Nat → Value} {d : Nat} {st : List Value} {M : am_M} {l0 l1 l2 l3 : Option Value} {a : Nat} : am_run G d K_Ta_readSum (13, [l0, l1, l2, l3], .ref a :: st, M) = am_kf G d K_Ta_readSum 16 [l0, l1, l2, l3] st M (am_fld M a 7 3) := am_run_kf (x := (.getfield 38, 3, 7, 3, 1049, 0)) (by decide +kernel) rfl
theorem r_Ta_readSum_16 {G : Nat → Value} {d : Nat} {st : List Value} {M : am_M} {l0 l1 l2 l3 : Option Value} : am_run G d K_Ta_readSum (16, [l0, l1, l2, l3], st, M) = am_run G d K_Ta_readSum (18, [l0, l1, l2, l3], .int 43 :: st, M) := am_run_next (x := (.bipush 43, 2, 0, 0, 0, 0)) (by decide +kernel) rfl
theorem r_Ta_readSum_18 {G : Nat → Value} {d : Nat} {st : List Value} {M : am_M} {l0 l1 l2 l3 : Option Value} {a b : Int32} : am_run G d K_Ta_readSum (18, [l0, l1, l2, l3], .int b :: .int a :: st, M) = if a = b then am_run G d K_Ta_readSum (30, [l0, l1, l2, l3], st, M) else am_run G d K_Ta_readSum (21, [l0, l1, l2, l3], st, M) := by
  split
  · next h => exact am_run_next (x := (.if_icmp .eq 12, 3, 0, 0, 0, 0)) (by decide +kernel) (am_br_t (decide_eq_true h) (by decide))
  · next h => exact am_run_next (x := (.if_icmp .eq 12, 3, 0, 0, 0, 0)) (by decide +kernel) (am_br_f (decide_eq_false h) (by decide))
theorem r_Ta_readSum_21 {G : Nat → Value} {d : Nat} {st : List Value} {M : am_M} {l1 l2 l3 : Option Value} {v : Value} (hv : am_isr v = true) : am_run G d K_Ta_readSum (21, [some v, l1, l2, l3], st, M) = am_run G d K_Ta_readSum (22, [some v, l1, l2, l3], v :: st, M) := by
  rcases am_isr_cases hv with ⟨q, rfl⟩ | rfl
  · exact am_run_next (x := (.aload_n 0, 1, 0, 0, 0, 0)) (by decide +kernel) rfl
  · exact am_run_next (x := (.aload_n 0, 1, 0, 0, 0, 0)) (by decide +kernel) rfl
theorem r_Ta_readSum_22 {G : Nat → Value} {d : Nat} {st : List Value} {M : am_M} {l0 l1 l2 l3 : Option Value} {a : Nat} : am_run G d K_Ta_readSum (22, [l0, l1, l2, l3], .ref a :: st, M) = am_kf G d K_Ta_readSum 25 [l0, l1, l2, l3] st M (am_fld M a 7 3) := am_run_kf (x := (.getfield 38, 3, 7, 3, 1049, 0)) (by decide +kernel) rfl
theorem r_Ta_readSum_25 {G : Nat → Value} {d : Nat} {st : List Value} {M : am_M} {l0 l1 l2 l3 : Option Value} : am_run G d K_Ta_readSum (25, [l0, l1, l2, l3], st, M) = am_run G d K_Ta_readSum (27, [l0, l1, l2, l3], .int 45 :: st, M) := am_run_next (x := (.bipush 45, 2, 0, 0, 0, 0)) (by decide +kernel) rfl
theorem r_Ta_readSum_27 {G : Nat → Value} {d : Nat} {st : List Value} {M : am_M} {l0 l1 l2 l3 : Option Value} {a b : Int32} : am_run G d K_Ta_readSum (27, [l0, l1, l2, l3], .int b :: .int a :: st, M) = if ¬ a = b then am_run G d K_Ta_readSum (79, [l0, l1, l2, l3], st, M) else am_run G d K_Ta_readSum (30, [l0, l1, l2, l3], st, M) := by
  split
  · next h => exact am_run_next (x := (.if_icmp .ne 52, 3, 0, 0, 0, 0)) (by decide +kernel) (am_br_t (decide_eq_true h) (by decide))
  · next h => exact am_run_next (x := (.if_icmp .ne 52, 3, 0, 0, 0, 0)) (by decide +kernel) (am_br_f (decide_eq_false h) (by decide))
theorem r_Ta_readSum_30 {G : Nat → Value} {d : Nat} {st : List Value} {M : am_M} {l0 l1 l3 : Option Value} {v : Int32} : am_run G d K_Ta_readSum (30, [l0, l1, some (.int v), l3], st, M) = am_run G d K_Ta_readSum (31, [l0, l1, some (.int v), l3], .int v :: st, M) := am_run_next (x := (.iload_n 2, 1, 0, 0, 0, 0)) (by decide +kernel) rfl
theorem r_Ta_readSum_31 {G : Nat → Value} {d : Nat} {st : List Value} {M : am_M} {l0 l1 l2 l3 : Option Value} : am_run G d K_Ta_readSum (31, [l0, l1, l2, l3], st, M) = am_run G d K_Ta_readSum (34, [l0, l1, l2, l3], .int 160 :: st, M) := am_run_next (x := (.sipush 160, 3, 0, 0, 0, 0)) (by decide +kernel) rfl
theorem r_Ta_readSum_34 {G : Nat → Value} {d : Nat} {st : List Value} {M : am_M} {l0 l1 l2 l3 : Option Value} {a b : Int32} : am_run G d K_Ta_readSum (34, [l0, l1, l2, l3], .int b :: .int a :: st, M) = if b ≤ a then am_run G d K_Ta_readSum (79, [l0, l1, l2, l3], st, M) else am_run G d K_Ta_readSum (37, [l0, l1, l2, l3], st, M) := by
  split
  · next h => exact am_run_next (x := (.if_icmp .ge 45, 3, 0, 0, 0, 0)) (by decide +kernel) (am_br_t (decide_eq_true h) (by decide))
  · next h => exact am_run_next (x := (.if_icmp .ge 45, 3, 0, 0, 0, 0)) (by decide +kernel) (am_br_f (decide_eq_false h) (by decide))
theorem r_Ta_readSum_37 {G : Nat → Value} {d : Nat} {st : List Value} {M : am_M} {l1 l2 l3 : Option Value} {v : Value} (hv : am_isr v = true) : am_run G d K_Ta_readSum (37, [some v, l1, l2, l3], st, M) = am_run G d K_Ta_readSum (38, [some v, l1, l2, l3], v :: st, M) := by
  rcases am_isr_cases hv with ⟨q, rfl⟩ | rfl
  · exact am_run_next (x := (.aload_n 0, 1, 0, 0, 0, 0)) (by decide +kernel) rfl
  · exact am_run_next (x := (.aload_n 0, 1, 0, 0, 0, 0)) (by decide +kernel) rfl
theorem r_Ta_readSum_38 {G : Nat → Value} {d : Nat} {st : List Value} {M : am_M} {l0 l1 l2 l3 : Option Value} {a : Nat} : am_run G d K_Ta_readSum (38, [l0, l1, l2, l3], .ref a :: st, M) = am_kf G d K_Ta_readSum 41 [l0, l1, l2, l3] st M (am_fld M a 7 3) := am_run_kf (x := (.getfield 38, 3, 7, 3, 1049, 0)) (by decide +kernel) rfl
theorem r_Ta_readSum_41 {G : Nat → Value} {d : Nat} {st : List Value} {M : am_M} {l0 l1 l2 l3 : Option Value} : am_run G d K_Ta_readSum (41, [l0, l1, l2, l3], st, M) = am_run G d K_Ta_readSum (43, [l0, l1, l2, l3], .int 43 :: st, M) := am_run_next (x := (.bipush 43, 2, 0, 0, 0, 0)) (by decide +kernel) rfl
theorem r_Ta_readSum_43 {G : Nat → Value} {d : Nat} {st : List Value} {M : am_M} {l0 l1 l2 l3 : Option Value} {a b : Int32} : am_run G d K_Ta_readSum (43, [l0, l1, l2, l3], .int b :: .int a :: st, M) = if ¬ a = b then am_run G d K_Ta_readSum (51, [l0, l1, l2, l3], st, M) else am_run G d K_Ta_readSum (46, [l0, l1, l2, l3], st, M) := by
  split
  · next h => exact am_run_next (x := (.if_icmp .ne 8, 3, 0, 0, 0, 0)) (by decide +kernel) (am_br_t (decide_eq_true h) (by decide))
  · next h => exact am_run_next (x := (.if_icmp .ne 8, 3, 0, 0, 0, 0)) (by decide +kernel) (am_br_f (decide_eq_false h) (by decide))
theorem r_Ta_readSum_46 {G : Nat → Value} {d : Nat} {st : List Value} {M : am_M} {l0 l1 l2 l3 : Option Value} : am_run G d K_Ta_readSum (46, [l0, l1, l2, l3], st, M) = am_run G d K_Ta_readSum (48, [l0, l1, l2, l3], .int (-10) :: st, M) := am_run_next (x := (.bipush (-10), 2, 0, 0, 0, 0)) (by decide +kernel) rfl
theorem r_Ta_readSum_48 {G : Nat → Value} {d : Nat} {st : List Value} {M : am_M} {l0 l1 l2 l3 : Option Value} : am_run G d K_Ta_readSum (48, [l0, l1, l2, l3], st, M) = am_run G d K_Ta_readSum (53, [l0, l1, l2, l3], st, M) := am_run_next (x := (.goto 5, 3, 0, 0, 0, 0)) (by decide +kernel) rfl
theorem r_Ta_readSum_51 {G : Nat → Value} {d : Nat} {st : List Value} {M : am_M} {l0 l1 l2 l3 : Option Value} : am_run G d K_Ta_readSum (51, [l0, l1, l2, l3], st, M) = am_run G d K_Ta_readSum (53, [l0, l1, l2, l3], .int (-11) :: st, M) := am_run_next (x := (.bipush (-11), 2, 0, 0, 0, 0)) (by decide +kernel) rfl
theorem r_Ta_readSum_53 {G : Nat → Value} {d : Nat} {st : List Value} {M : am_M} {l0 l1 l2 l3 : Option Value} {v : Int32} (hc : am_c1 l2 = true) : am_run G d K_Ta_readSum (53, [l0, l1, l2, l3], .int v :: st, M) = am_run G d K_Ta_readSum (54, [l0, l1, l2, some (.int v)], st, M) := by
  rcases am_c1_cases hc with rfl | ⟨q, rfl⟩ | ⟨q, rfl⟩ | rfl
  · exact am_run_next (x := (.istore_n 3, 1, 0, 0, 0, 0)) (by decide +kernel) rfl
  · exact am_run_next (x := (.istore_n 3, 1, 0, 0, 0, 0)) (by decide +kernel) rfl
  · exact am_run_next (x := (.istore_n 3, 1, 0, 0, 0, 0)) (by decide +kernel) rfl
  · exact am_run_next (x := (.istore_n 3, 1, 0, 0, 0, 0)) (by decide +kernel) rfl
theorem r_Ta_readSum_53_k {G : Nat → Value} {d : Nat} {st : List Value} {M : am_M} {l0 l1 l3 : Option Value} {v : Int32} {z : Int64} : am_run G d K_Ta_readSum (53, [l0, l1, some (.long z), l3], .int v :: st, M) = am_run G d K_Ta_readSum (54, [l0, l1, none, some (.int v)], st, M) := am_run_next (x := (.istore_n 3, 1, 0, 0, 0, 0)) (by decide +kernel) rfl
theorem r_Ta_readSum_54 {G : Nat → Value} {d : Nat} {st : List Value} {M : am_M} {l1 l2 l3 : Option Value} {v : Value} (hv : am_isr v = true) : am_run G d K_Ta_readSum (54, [some v, l1, l2, l3], st, M) = am_run G d K_Ta_readSum (55, [some v, l1, l2, l3], v :: st, M) := by
  rcases am_isr_cases hv with ⟨q, rfl⟩ | rfl
  · exact am_run_next (x := (.aload_n 0, 1, 0, 0, 0, 0)) (by decide +kernel) rfl
  · exact am_run_next (x := (.aload_n 0, 1, 0, 0, 0, 0)) (by decide +kernel) rfl
theorem r_Ta_readSum_55 {G : Nat → Value} {d : Nat} {st : List Value} {M : am_M} {l0 l1 l2 l3 : Option Value} {q : Nat} (hq : am_cls M q = some 7) (h8 : am_sw st ≤ 8) : am_run G d K_Ta_readSum (55, [l0, l1, l2, l3], .ref q :: st, M) = am_k G d K_Ta_readSum 58 [l0, l1, l2, l3] st (am_ex G d K_Ta_step [.ref q] M) := am_run_iv (i := 25) (n := 0) (pl := 1180) (Bs := []) (z := K_Ta_step) (by decide +kernel) hq h8 rfl (Nat.le_of_ble_eq_true rfl) rfl
theorem r_Ta_readSum_58 {G : Nat → Value} {d : Nat} {st : List Value} {M : am_M} {l1 l2 l3 : Option Value} {v : Value} (hv : am_isr v = true) : am_run G d K_Ta_readSum (58, [some v, l1, l2, l3], st, M) = am_run G d K_Ta_readSum (59, [some v, l1, l2, l3], v :: st, M) := by
  rcases am_isr_cases hv with ⟨q, rfl⟩ | rfl
  · exact am_run_next (x := (.aload_n 0, 1, 0, 0, 0, 0)) (by decide +kernel) rfl
  · exact am_run_next (x := (.aload_n 0, 1, 0, 0, 0, 0)) (by decide +kernel) rfl
theorem r_Ta_readSum_59 {G : Nat → Value} {d : Nat} {st : List Value} {M : am_M} {l0 l2 l3 : Option Value} {v : Int32} : am_run G d K_Ta_readSum (59, [l0, some (.int v), l2, l3], st, M) = am_run G d K_Ta_readSum (60, [l0, some (.int v), l2, l3], .int v :: st, M) := am_run_next (x := (.iload_n 1, 1, 0, 0, 0, 0)) (by decide +kernel) rfl
theorem r_Ta_readSum_60 {G : Nat → Value} {d : Nat} {st : List Value} {M : am_M} {l0 l1 l2 l3 : Option Value} {q : Nat} {a0 : Int32} (hq : am_cls M q = some 7) (h8 : am_sw st ≤ 8) : am_run G d K_Ta_readSum (60, [l0, l1, l2, l3], .int a0 :: .ref q :: st, M) = am_k G d K_Ta_readSum 63 [l0, l1, l2, l3] st (am_ex G d K_Ta_readTerm [.ref q, .int a0] M) := am_run_iv (i := 72) (n := 1) (pl := 2066) (Bs := [.int a0]) (z := K_Ta_readTerm) (by decide +kernel) hq h8 rfl (Nat.le_of_ble_eq_true rfl) rfl
theorem r_Ta_readSum_63 {G : Nat → Value} {d : Nat} {st : List Value} {M : am_M} {l0 l1 l2 l3 : Option Value} {a : Int32} : am_run G d K_Ta_readSum (63, [l0, l1, l2, l3], .int a :: st, M) = if ¬ a = 0 then am_run G d K_Ta_readSum (68, [l0, l1, l2, l3], st, M) else am_run G d K_Ta_readSum (66, [l0, l1, l2, l3], st, M) := by
  split
  · next h => exact am_run_next (x := (.ifCond .ne 5, 3, 0, 0, 0, 0)) (by decide +kernel) (am_br_t (decide_eq_true h) (by decide))
  · next h => exact am_run_next (x := (.ifCond .ne 5, 3, 0, 0, 0, 0)) (by decide +kernel) (am_br_f (decide_eq_false h) (by decide))
theorem r_Ta_readSum_66 {G : Nat → Value} {d : Nat} {st : List Value} {M : am_M} {l0 l1 l2 l3 : Option Value} : am_run G d K_Ta_readSum (66, [l0, l1, l2, l3], st, M) = am_run G d K_Ta_readSum (67, [l0, l1, l2, l3], .int 0 :: st, M) := am_run_next (x := (.iconst 0, 1, 0, 0, 0, 0)) (by decide +kernel) rfl
theorem r_Ta_readSum_67 {G : Nat → Value} {d : Nat} {M : am_M} {l0 l1 l2 l3 : Option Value} {a : Int32} (ha : a = 0 ∨ a = 1) : am_run G d K_Ta_readSum (67, [l0, l1, l2, l3], [.int a], M) = some (some (.int a), M) := am_run_ret (x := (.ireturn, 1, 0, 0, 0, 0)) (by decide +kernel) (if_pos (decide_eq_true ha))
theorem r_Ta_readSum_68 {G : Nat → Value} {d : Nat} {st : List Value} {M : am_M} {l1 l2 l3 : Option Value} {v : Value} (hv : am_isr v = true) : am_run G d K_Ta_readSum (68, [some v, l1, l2, l3], st, M) = am_run G d K_Ta_readSum (69, [some v, l1, l2, l3], v :: st, M) := by
  rcases am_isr_cases hv with ⟨q, rfl⟩ | rfl
  · exact am_run_next (x := (.aload_n 0, 1, 0, 0, 0, 0)) (by decide +kernel) rfl
  · exact am_run_next (x := (.aload_n 0, 1, 0, 0, 0, 0)) (by decide +kernel) rfl
theorem r_Ta_readSum_69 {G : Nat → Value} {d : Nat} {st : List Value} {M : am_M} {l0 l1 l2 : Option Value} {v : Int32} : am_run G d K_Ta_readSum (69, [l0, l1, l2, some (.int v)], st, M) = am_run G d K_Ta_readSum (70, [l0, l1, l2, some (.int v)], .int v :: st, M) := am_run_next (x := (.iload_n 3, 1, 0, 0, 0, 0)) (by decide +kernel) rfl
theorem r_Ta_readSum_70 {G : Nat → Value} {d : Nat} {st : List Value} {M : am_M} {l0 l1 l2 l3 : Option Value} {q : Nat} {a0 : Int32} (hq : am_cls M q = some 7) (h8 : am_sw st ≤ 8) : am_run G d K_Ta_readSum (70, [l0, l1, l2, l3], .int a0 :: .ref q :: st, M) = am_k G d K_Ta_readSum 73 [l0, l1, l2, l3] st (am_ex G d K_Ta_write [.ref q, .int a0] M) := am_run_iv (i := 62) (n := 1) (pl := 2058) (Bs := [.int a0]) (z := K_Ta_write) (by decide +kernel) hq h8 rfl (Nat.le_of_ble_eq_true rfl) rfl
theorem r_Ta_readSum_73 {G : Nat → Value} {d : Nat} {st : List Value} {M : am_M} {l0 l1 l3 : Option Value} {v : Int32} (hc : am_c1 l1 = true) : am_run G d K_Ta_readSum (73, [l0, l1, some (.int v), l3], st, M) = am_run G d K_Ta_readSum (76, [l0, l1, some (.int (v + 1)), l3], st, M) := by
  rcases am_c1_cases hc with rfl | ⟨q, rfl⟩ | ⟨q, rfl⟩ | rfl
  · exact am_run_next (x := (.iinc 2 1, 3, 0, 0, 0, 0)) (by decide +kernel) rfl
  · exact am_run_next (x := (.iinc 2 1, 3, 0, 0, 0, 0)) (by decide +kernel) rfl
  · exact am_run_next (x := (.iinc 2 1, 3, 0, 0, 0, 0)) (by decide +kernel) rfl
  · exact am_run_next (x := (.iinc 2 1, 3, 0, 0, 0, 0)) (by decide +kernel) rfl
theorem r_Ta_readSum_73_k {G : Nat → Value} {d : Nat} {st : List Value} {M : am_M} {l0 l3 : Option Value} {v : Int32} {z : Int64} : am_run G d K_Ta_readSum (73, [l0, some (.long z), some (.int v), l3], st, M) = am_run G d K_Ta_readSum (76, [l0, none, some (.int (v + 1)), l3], st, M) := am_run_next (x := (.iinc 2 1, 3, 0, 0, 0, 0)) (by decide +kernel) rfl
theorem r_Ta_readSum_76 {G : Nat → Value} {d : Nat} {st : List Value} {M : am_M} {l0 l1 l2 l3 : Option Value} : am_run G d K_Ta_readSum (76, [l0, l1, l2, l3], st, M) = am_run G d K_Ta_readSum (12, [l0, l1, l2, l3], st, M) := am_run_next (x := (.goto (-64), 3, 0, 0, 0, 0)) (by decide +kernel) rfl
theorem r_Ta_readSum_79 {G : Nat → Value} {d : Nat} {st : List Value} {M : am_M} {l0 l1 l2 l3 : Option Value} : am_run G d K_Ta_readSum (79, [l0, l1, l2, l3], st, M) = am_run G d K_Ta_readSum (80, [l0, l1, l2, l3], .int 1 :: st, M) := am_run_next (x := (.iconst 1, 1, 0, 0, 0, 0)) (by decide +kernel) rfl
theorem r_Ta_readSum_80 {G : Nat → Value} {d : Nat} {M : am_M} {l0 l1 l2 l3 : Option Value} {a : Int32} (ha : a = 0 ∨ a = 1) : am_run G d K_Ta_readSum (80, [l0, l1, l2, l3], [.int a], M) = some (some (.int a), M) := am_run_ret (x := (.ireturn, 1, 0, 0, 0, 0)) (by decide +kernel) (if_pos (decide_eq_true ha))
theorem r_Ta_readTerm_0 {G : Nat → Value} {d : Nat} {st : List Value} {M : am_M} {l1 l2 : Option Value} {v : Value} (hv : am_isr v = true) : am_run G d K_Ta_readTerm (0, [some v, l1, l2], st, M) = am_run G d K_Ta_readTerm (1, [some v, l1, l2], v :: st, M) := by
  rcases am_isr_cases hv with ⟨q, rfl⟩ | rfl
  · exact am_run_next (x := (.aload_n 0, 1, 0, 0, 0, 0)) (by decide +kernel) rfl
  · exact am_run_next (x := (.aload_n 0, 1, 0, 0, 0, 0)) (by decide +kernel) rfl
theorem r_Ta_readTerm_1 {G : Nat → Value} {d : Nat} {st : List Value} {M : am_M} {l0 l2 : Option Value} {v : Int32} : am_run G d K_Ta_readTerm (1, [l0, some (.int v), l2], st, M) = am_run G d K_Ta_readTerm (2, [l0, some (.int v), l2], .int v :: st, M) := am_run_next (x := (.iload_n 1, 1, 0, 0, 0, 0)) (by decide +kernel) rfl
theorem r_Ta_readTerm_2 {G : Nat → Value} {d : Nat} {st : List Value} {M : am_M} {l0 l1 l2 : Option Value} {q : Nat} {a0 : Int32} (hq : am_cls M q = some 7) (h8 : am_sw st ≤ 8) : am_run G d K_Ta_readTerm (2, [l0, l1, l2], .int a0 :: .ref q :: st, M) = am_k G d K_Ta_readTerm 5 [l0, l1, l2] st (am_ex G d K_Ta_readOne [.ref q, .int a0] M) := am_run_iv (i := 75) (n := 1) (pl := 2070) (Bs := [.int a0]) (z := K_Ta_readOne) (by decide +kernel) hq h8 rfl (Nat.le_of_ble_eq_true rfl) rfl
theorem r_Ta_readTerm_5 {G : Nat → Value} {d : Nat} {st : List Value} {M : am_M} {l0 l1 l2 : Option Value} {a : Int32} : am_run G d K_Ta_readTerm (5, [l0, l1, l2], .int a :: st, M) = if ¬ a = 0 then am_run G d K_Ta_readTerm (10, [l0, l1, l2], st, M) else am_run G d K_Ta_readTerm (8, [l0, l1, l2], st, M) := by
  split
  · next h => exact am_run_next (x := (.ifCond .ne 5, 3, 0, 0, 0, 0)) (by decide +kernel) (am_br_t (decide_eq_true h) (by decide))
  · next h => exact am_run_next (x := (.ifCond .ne 5, 3, 0, 0, 0, 0)) (by decide +kernel) (am_br_f (decide_eq_false h) (by decide))
theorem r_Ta_readTerm_8 {G : Nat → Value} {d : Nat} {st : List Value} {M : am_M} {l0 l1 l2 : Option Value} : am_run G d K_Ta_readTerm (8, [l0, l1, l2], st, M) = am_run G d K_Ta_readTerm (9, [l0, l1, l2], .int 0 :: st, M) := am_run_next (x := (.iconst 0, 1, 0, 0, 0, 0)) (by decide +kernel) rfl
theorem r_Ta_readTerm_9 {G : Nat → Value} {d : Nat} {M : am_M} {l0 l1 l2 : Option Value} {a : Int32} (ha : a = 0 ∨ a = 1) : am_run G d K_Ta_readTerm (9, [l0, l1, l2], [.int a], M) = some (some (.int a), M) := am_run_ret (x := (.ireturn, 1, 0, 0, 0, 0)) (by decide +kernel) (if_pos (decide_eq_true ha))
theorem r_Ta_readTerm_10 {G : Nat → Value} {d : Nat} {st : List Value} {M : am_M} {l0 l1 l2 : Option Value} : am_run G d K_Ta_readTerm (10, [l0, l1, l2], st, M) = am_run G d K_Ta_readTerm (11, [l0, l1, l2], .int 0 :: st, M) := am_run_next (x := (.iconst 0, 1, 0, 0, 0, 0)) (by decide +kernel) rfl
theorem r_Ta_readTerm_11 {G : Nat → Value} {d : Nat} {st : List Value} {M : am_M} {l0 l1 l2 : Option Value} {v : Int32} (hc : am_c1 l1 = true) : am_run G d K_Ta_readTerm (11, [l0, l1, l2], .int v :: st, M) = am_run G d K_Ta_readTerm (12, [l0, l1, some (.int v)], st, M) := by
  rcases am_c1_cases hc with rfl | ⟨q, rfl⟩ | ⟨q, rfl⟩ | rfl
  · exact am_run_next (x := (.istore_n 2, 1, 0, 0, 0, 0)) (by decide +kernel) rfl
  · exact am_run_next (x := (.istore_n 2, 1, 0, 0, 0, 0)) (by decide +kernel) rfl
  · exact am_run_next (x := (.istore_n 2, 1, 0, 0, 0, 0)) (by decide +kernel) rfl
  · exact am_run_next (x := (.istore_n 2, 1, 0, 0, 0, 0)) (by decide +kernel) rfl
theorem r_Ta_readTerm_11_k {G : Nat → Value} {d : Nat} {st : List Value} {M : am_M} {l0 l2 : Option Value} {v : Int32} {z : Int64} : am_run G d K_Ta_readTerm (11, [l0, some (.long z), l2], .int v :: st, M) = am_run G d K_Ta_readTerm (12, [l0, none, some (.int v)], st, M) := am_run_next (x := (.istore_n 2, 1, 0, 0, 0, 0)) (by decide +kernel) rfl
theorem r_Ta_readTerm_12 {G : Nat → Value} {d : Nat} {st : List Value} {M : am_M} {l1 l2 : Option Value} {v : Value} (hv : am_isr v = true) : am_run G d K_Ta_readTerm (12, [some v, l1, l2], st, M) = am_run G d K_Ta_readTerm (13, [some v, l1, l2], v :: st, M) := by
  rcases am_isr_cases hv with ⟨q, rfl⟩ | rfl
  · exact am_run_next (x := (.aload_n 0, 1, 0, 0, 0, 0)) (by decide +kernel) rfl
  · exact am_run_next (x := (.aload_n 0, 1, 0, 0, 0, 0)) (by decide +kernel) rfl
theorem r_Ta_readTerm_13 {G : Nat → Value} {d : Nat} {st : List Value} {M : am_M} {l0 l1 l2 : Option Value} {a : Nat} : am_run G d K_Ta_readTerm (13, [l0, l1, l2], .ref a :: st, M) = am_kf G d K_Ta_readTerm 16 [l0, l1, l2] st M (am_fld M a 7 3) := am_run_kf (x := (.getfield 38, 3, 7, 3, 1049, 0)) (by decide +kernel) rfl
theorem r_Ta_readTerm_16 {G : Nat → Value} {d : Nat} {st : List Value} {M : am_M} {l0 l1 l2 : Option Value} : am_run G d K_Ta_readTerm (16, [l0, l1, l2], st, M) = am_run G d K_Ta_readTerm (18, [l0, l1, l2], .int 42 :: st, M) := am_run_next (x := (.bipush 42, 2, 0, 0, 0, 0)) (by decide +kernel) rfl
theorem r_Ta_readTerm_18 {G : Nat → Value} {d : Nat} {st : List Value} {M : am_M} {l0 l1 l2 : Option Value} {a b : Int32} : am_run G d K_Ta_readTerm (18, [l0, l1, l2], .int b :: .int a :: st, M) = if ¬ a = b then am_run G d K_Ta_readTerm (54, [l0, l1, l2], st, M) else am_run G d K_Ta_readTerm (21, [l0, l1, l2], st, M) := by
  split
  · next h => exact am_run_next (x := (.if_icmp .ne 36, 3, 0, 0, 0, 0)) (by decide +kernel) (am_br_t (decide_eq_true h) (by decide))
  · next h => exact am_run_next (x := (.if_icmp .ne 36, 3, 0, 0, 0, 0)) (by decide +kernel) (am_br_f (decide_eq_false h) (by decide))
theorem r_Ta_readTerm_21 {G : Nat → Value} {d : Nat} {st : List Value} {M : am_M} {l0 l1 : Option Value} {v : Int32} : am_run G d K_Ta_readTerm (21, [l0, l1, some (.int v)], st, M) = am_run G d K_Ta_readTerm (22, [l0, l1, some (.int v)], .int v :: st, M) := am_run_next (x := (.iload_n 2, 1, 0, 0, 0, 0)) (by decide +kernel) rfl
theorem r_Ta_readTerm_22 {G : Nat → Value} {d : Nat} {st : List Value} {M : am_M} {l0 l1 l2 : Option Value} : am_run G d K_Ta_readTerm (22, [l0, l1, l2], st, M) = am_run G d K_Ta_readTerm (25, [l0, l1, l2], .int 160 :: st, M) := am_run_next (x := (.sipush 160, 3, 0, 0, 0, 0)) (by decide +kernel) rfl
theorem r_Ta_readTerm_25 {G : Nat → Value} {d : Nat} {st : List Value} {M : am_M} {l0 l1 l2 : Option Value} {a b : Int32} : am_run G d K_Ta_readTerm (25, [l0, l1, l2], .int b :: .int a :: st, M) = if b ≤ a then am_run G d K_Ta_readTerm (54, [l0, l1, l2], st, M) else am_run G d K_Ta_readTerm (28, [l0, l1, l2], st, M) := by
  split
  · next h => exact am_run_next (x := (.if_icmp .ge 29, 3, 0, 0, 0, 0)) (by decide +kernel) (am_br_t (decide_eq_true h) (by decide))
  · next h => exact am_run_next (x := (.if_icmp .ge 29, 3, 0, 0, 0, 0)) (by decide +kernel) (am_br_f (decide_eq_false h) (by decide))
theorem r_Ta_readTerm_28 {G : Nat → Value} {d : Nat} {st : List Value} {M : am_M} {l1 l2 : Option Value} {v : Value} (hv : am_isr v = true) : am_run G d K_Ta_readTerm (28, [some v, l1, l2], st, M) = am_run G d K_Ta_readTerm (29, [some v, l1, l2], v :: st, M) := by
  rcases am_isr_cases hv with ⟨q, rfl⟩ | rfl
  · exact am_run_next (x := (.aload_n 0, 1, 0, 0, 0, 0)) (by decide +kernel) rfl
  · exact am_run_next (x := (.aload_n 0, 1, 0, 0, 0, 0)) (by decide +kernel) rfl
theorem r_Ta_readTerm_29 {G : Nat → Value} {d : Nat} {st : List Value} {M : am_M} {l0 l1 l2 : Option Value} {q : Nat} (hq : am_cls M q = some 7) (h8 : am_sw st ≤ 8) : am_run G d K_Ta_readTerm (29, [l0, l1, l2], .ref q :: st, M) = am_k G d K_Ta_readTerm 32 [l0, l1, l2] st (am_ex G d K_Ta_step [.ref q] M) := am_run_iv (i := 25) (n := 0) (pl := 1180) (Bs := []) (z := K_Ta_step) (by decide +kernel) hq h8 rfl (Nat.le_of_ble_eq_true rfl) rfl
theorem r_Ta_readTerm_32 {G : Nat → Value} {d : Nat} {st : List Value} {M : am_M} {l1 l2 : Option Value} {v : Value} (hv : am_isr v = true) : am_run G d K_Ta_readTerm (32, [some v, l1, l2], st, M) = am_run G d K_Ta_readTerm (33, [some v, l1, l2], v :: st, M) := by
  rcases am_isr_cases hv with ⟨q, rfl⟩ | rfl
  · exact am_run_next (x := (.aload_n 0, 1, 0, 0, 0, 0)) (by decide +kernel) rfl
  · exact am_run_next (x := (.aload_n 0, 1, 0, 0, 0, 0)) (by decide +kernel) rfl
theorem r_Ta_readTerm_33 {G : Nat → Value} {d : Nat} {st : List Value} {M : am_M} {l0 l2 : Option Value} {v : Int32} : am_run G d K_Ta_readTerm (33, [l0, some (.int v), l2], st, M) = am_run G d K_Ta_readTerm (34, [l0, some (.int v), l2], .int v :: st, M) := am_run_next (x := (.iload_n 1, 1, 0, 0, 0, 0)) (by decide +kernel) rfl
theorem r_Ta_readTerm_34 {G : Nat → Value} {d : Nat} {st : List Value} {M : am_M} {l0 l1 l2 : Option Value} {q : Nat} {a0 : Int32} (hq : am_cls M q = some 7) (h8 : am_sw st ≤ 8) : am_run G d K_Ta_readTerm (34, [l0, l1, l2], .int a0 :: .ref q :: st, M) = am_k G d K_Ta_readTerm 37 [l0, l1, l2] st (am_ex G d K_Ta_readOne [.ref q, .int a0] M) := am_run_iv (i := 75) (n := 1) (pl := 2070) (Bs := [.int a0]) (z := K_Ta_readOne) (by decide +kernel) hq h8 rfl (Nat.le_of_ble_eq_true rfl) rfl
theorem r_Ta_readTerm_37 {G : Nat → Value} {d : Nat} {st : List Value} {M : am_M} {l0 l1 l2 : Option Value} {a : Int32} : am_run G d K_Ta_readTerm (37, [l0, l1, l2], .int a :: st, M) = if ¬ a = 0 then am_run G d K_Ta_readTerm (42, [l0, l1, l2], st, M) else am_run G d K_Ta_readTerm (40, [l0, l1, l2], st, M) := by
  split
  · next h => exact am_run_next (x := (.ifCond .ne 5, 3, 0, 0, 0, 0)) (by decide +kernel) (am_br_t (decide_eq_true h) (by decide))
  · next h => exact am_run_next (x := (.ifCond .ne 5, 3, 0, 0, 0, 0)) (by decide +kernel) (am_br_f (decide_eq_false h) (by decide))
theorem r_Ta_readTerm_40 {G : Nat → Value} {d : Nat} {st : List Value} {M : am_M} {l0 l1 l2 : Option Value} : am_run G d K_Ta_readTerm (40, [l0, l1, l2], st, M) = am_run G d K_Ta_readTerm (41, [l0, l1, l2], .int 0 :: st, M) := am_run_next (x := (.iconst 0, 1, 0, 0, 0, 0)) (by decide +kernel) rfl
theorem r_Ta_readTerm_41 {G : Nat → Value} {d : Nat} {M : am_M} {l0 l1 l2 : Option Value} {a : Int32} (ha : a = 0 ∨ a = 1) : am_run G d K_Ta_readTerm (41, [l0, l1, l2], [.int a], M) = some (some (.int a), M) := am_run_ret (x := (.ireturn, 1, 0, 0, 0, 0)) (by decide +kernel) (if_pos (decide_eq_true ha))
theorem r_Ta_readTerm_42 {G : Nat → Value} {d : Nat} {st : List Value} {M : am_M} {l1 l2 : Option Value} {v : Value} (hv : am_isr v = true) : am_run G d K_Ta_readTerm (42, [some v, l1, l2], st, M) = am_run G d K_Ta_readTerm (43, [some v, l1, l2], v :: st, M) := by
  rcases am_isr_cases hv with ⟨q, rfl⟩ | rfl
  · exact am_run_next (x := (.aload_n 0, 1, 0, 0, 0, 0)) (by decide +kernel) rfl
  · exact am_run_next (x := (.aload_n 0, 1, 0, 0, 0, 0)) (by decide +kernel) rfl
theorem r_Ta_readTerm_43 {G : Nat → Value} {d : Nat} {st : List Value} {M : am_M} {l0 l1 l2 : Option Value} : am_run G d K_Ta_readTerm (43, [l0, l1, l2], st, M) = am_run G d K_Ta_readTerm (45, [l0, l1, l2], .int (-12) :: st, M) := am_run_next (x := (.bipush (-12), 2, 0, 0, 0, 0)) (by decide +kernel) rfl
theorem r_Ta_readTerm_45 {G : Nat → Value} {d : Nat} {st : List Value} {M : am_M} {l0 l1 l2 : Option Value} {q : Nat} {a0 : Int32} (hq : am_cls M q = some 7) (h8 : am_sw st ≤ 8) : am_run G d K_Ta_readTerm (45, [l0, l1, l2], .int a0 :: .ref q :: st, M) = am_k G d K_Ta_readTerm 48 [l0, l1, l2] st (am_ex G d K_Ta_write [.ref q, .int a0] M) := am_run_iv (i := 62) (n := 1) (pl := 2058) (Bs := [.int a0]) (z := K_Ta_write) (by decide +kernel) hq h8 rfl (Nat.le_of_ble_eq_true rfl) rfl
theorem r_Ta_readTerm_48 {G : Nat → Value} {d : Nat} {st : List Value} {M : am_M} {l0 l1 : Option Value} {v : Int32} (hc : am_c1 l1 = true) : am_run G d K_Ta_readTerm (48, [l0, l1, some (.int v)], st, M) = am_run G d K_Ta_readTerm (51, [l0, l1, some (.int (v + 1))], st, M) := by
  rcases am_c1_cases hc with rfl | ⟨q, rfl⟩ | ⟨q, rfl⟩ | rfl
  · exact am_run_next (x := (.iinc 2 1, 3, 0, 0, 0, 0)) (by decide +kernel) rfl
  · exact am_run_next (x := (.iinc 2 1, 3, 0, 0, 0, 0)) (by decide +kernel) rfl
  · exact am_run_next (x := (.iinc 2 1, 3, 0, 0, 0, 0)) (by decide +kernel) rfl
  · exact am_run_next (x := (.iinc 2 1, 3, 0, 0, 0, 0)) (by decide +kernel) rfl
theorem r_Ta_readTerm_48_k {G : Nat → Value} {d : Nat} {st : List Value} {M : am_M} {l0 : Option Value} {v : Int32} {z : Int64} : am_run G d K_Ta_readTerm (48, [l0, some (.long z), some (.int v)], st, M) = am_run G d K_Ta_readTerm (51, [l0, none, some (.int (v + 1))], st, M) := am_run_next (x := (.iinc 2 1, 3, 0, 0, 0, 0)) (by decide +kernel) rfl
theorem r_Ta_readTerm_51 {G : Nat → Value} {d : Nat} {st : List Value} {M : am_M} {l0 l1 l2 : Option Value} : am_run G d K_Ta_readTerm (51, [l0, l1, l2], st, M) = am_run G d K_Ta_readTerm (12, [l0, l1, l2], st, M) := am_run_next (x := (.goto (-39), 3, 0, 0, 0, 0)) (by decide +kernel) rfl
theorem r_Ta_readTerm_54 {G : Nat → Value} {d : Nat} {st : List Value} {M : am_M} {l0 l1 l2 : Option Value} : am_run G d K_Ta_readTerm (54, [l0, l1, l2], st, M) = am_run G d K_Ta_readTerm (55, [l0, l1, l2], .int 1 :: st, M) := am_run_next (x := (.iconst 1, 1, 0, 0, 0, 0)) (by decide +kernel) rfl
theorem r_Ta_readTerm_55 {G : Nat → Value} {d : Nat} {M : am_M} {l0 l1 l2 : Option Value} {a : Int32} (ha : a = 0 ∨ a = 1) : am_run G d K_Ta_readTerm (55, [l0, l1, l2], [.int a], M) = some (some (.int a), M) := am_run_ret (x := (.ireturn, 1, 0, 0, 0, 0)) (by decide +kernel) (if_pos (decide_eq_true ha))
theorem r_Ta_readOne_0 {G : Nat → Value} {d : Nat} {st : List Value} {M : am_M} {l1 : Option Value} {v : Value} (hv : am_isr v = true) : am_run G d K_Ta_readOne (0, [some v, l1], st, M) = am_run G d K_Ta_readOne (1, [some v, l1], v :: st, M) := by
  rcases am_isr_cases hv with ⟨q, rfl⟩ | rfl
  · exact am_run_next (x := (.aload_n 0, 1, 0, 0, 0, 0)) (by decide +kernel) rfl
  · exact am_run_next (x := (.aload_n 0, 1, 0, 0, 0, 0)) (by decide +kernel) rfl
theorem r_Ta_readOne_1 {G : Nat → Value} {d : Nat} {st : List Value} {M : am_M} {l0 l1 : Option Value} {a : Nat} : am_run G d K_Ta_readOne (1, [l0, l1], .ref a :: st, M) = am_kf G d K_Ta_readOne 4 [l0, l1] st M (am_fld M a 7 3) := am_run_kf (x := (.getfield 38, 3, 7, 3, 1049, 0)) (by decide +kernel) rfl
theorem r_Ta_readOne_4 {G : Nat → Value} {d : Nat} {st : List Value} {M : am_M} {l0 l1 : Option Value} : am_run G d K_Ta_readOne (4, [l0, l1], st, M) = am_run G d K_Ta_readOne (6, [l0, l1], .int (-3) :: st, M) := am_run_next (x := (.bipush (-3), 2, 0, 0, 0, 0)) (by decide +kernel) rfl
theorem r_Ta_readOne_6 {G : Nat → Value} {d : Nat} {st : List Value} {M : am_M} {l0 l1 : Option Value} {a b : Int32} : am_run G d K_Ta_readOne (6, [l0, l1], .int b :: .int a :: st, M) = if a = b then am_run G d K_Ta_readOne (18, [l0, l1], st, M) else am_run G d K_Ta_readOne (9, [l0, l1], st, M) := by
  split
  · next h => exact am_run_next (x := (.if_icmp .eq 12, 3, 0, 0, 0, 0)) (by decide +kernel) (am_br_t (decide_eq_true h) (by decide))
  · next h => exact am_run_next (x := (.if_icmp .eq 12, 3, 0, 0, 0, 0)) (by decide +kernel) (am_br_f (decide_eq_false h) (by decide))
theorem r_Ta_readOne_9 {G : Nat → Value} {d : Nat} {st : List Value} {M : am_M} {l1 : Option Value} {v : Value} (hv : am_isr v = true) : am_run G d K_Ta_readOne (9, [some v, l1], st, M) = am_run G d K_Ta_readOne (10, [some v, l1], v :: st, M) := by
  rcases am_isr_cases hv with ⟨q, rfl⟩ | rfl
  · exact am_run_next (x := (.aload_n 0, 1, 0, 0, 0, 0)) (by decide +kernel) rfl
  · exact am_run_next (x := (.aload_n 0, 1, 0, 0, 0, 0)) (by decide +kernel) rfl
theorem r_Ta_readOne_10 {G : Nat → Value} {d : Nat} {st : List Value} {M : am_M} {l0 l1 : Option Value} {a : Nat} : am_run G d K_Ta_readOne (10, [l0, l1], .ref a :: st, M) = am_kf G d K_Ta_readOne 13 [l0, l1] st M (am_fld M a 7 3) := am_run_kf (x := (.getfield 38, 3, 7, 3, 1049, 0)) (by decide +kernel) rfl
theorem r_Ta_readOne_13 {G : Nat → Value} {d : Nat} {st : List Value} {M : am_M} {l0 l1 : Option Value} : am_run G d K_Ta_readOne (13, [l0, l1], st, M) = am_run G d K_Ta_readOne (15, [l0, l1], .int (-4) :: st, M) := am_run_next (x := (.bipush (-4), 2, 0, 0, 0, 0)) (by decide +kernel) rfl
theorem r_Ta_readOne_15 {G : Nat → Value} {d : Nat} {st : List Value} {M : am_M} {l0 l1 : Option Value} {a b : Int32} : am_run G d K_Ta_readOne (15, [l0, l1], .int b :: .int a :: st, M) = if ¬ a = b then am_run G d K_Ta_readOne (50, [l0, l1], st, M) else am_run G d K_Ta_readOne (18, [l0, l1], st, M) := by
  split
  · next h => exact am_run_next (x := (.if_icmp .ne 35, 3, 0, 0, 0, 0)) (by decide +kernel) (am_br_t (decide_eq_true h) (by decide))
  · next h => exact am_run_next (x := (.if_icmp .ne 35, 3, 0, 0, 0, 0)) (by decide +kernel) (am_br_f (decide_eq_false h) (by decide))
theorem r_Ta_readOne_18 {G : Nat → Value} {d : Nat} {st : List Value} {M : am_M} {l1 : Option Value} {v : Value} (hv : am_isr v = true) : am_run G d K_Ta_readOne (18, [some v, l1], st, M) = am_run G d K_Ta_readOne (19, [some v, l1], v :: st, M) := by
  rcases am_isr_cases hv with ⟨q, rfl⟩ | rfl
  · exact am_run_next (x := (.aload_n 0, 1, 0, 0, 0, 0)) (by decide +kernel) rfl
  · exact am_run_next (x := (.aload_n 0, 1, 0, 0, 0, 0)) (by decide +kernel) rfl
theorem r_Ta_readOne_19 {G : Nat → Value} {d : Nat} {st : List Value} {M : am_M} {l1 : Option Value} {v : Value} (hv : am_isr v = true) : am_run G d K_Ta_readOne (19, [some v, l1], st, M) = am_run G d K_Ta_readOne (20, [some v, l1], v :: st, M) := by
  rcases am_isr_cases hv with ⟨q, rfl⟩ | rfl
  · exact am_run_next (x := (.aload_n 0, 1, 0, 0, 0, 0)) (by decide +kernel) rfl
  · exact am_run_next (x := (.aload_n 0, 1, 0, 0, 0, 0)) (by decide +kernel) rfl
theorem r_Ta_readOne_20 {G : Nat → Value} {d : Nat} {st : List Value} {M : am_M} {l0 l1 : Option Value} {a : Nat} : am_run G d K_Ta_readOne (20, [l0, l1], .ref a :: st, M) = am_kf G d K_Ta_readOne 23 [l0, l1] st M (am_fld M a 7 3) := am_run_kf (x := (.getfield 38, 3, 7, 3, 1049, 0)) (by decide +kernel) rfl
theorem r_Ta_readOne_23 {G : Nat → Value} {d : Nat} {st : List Value} {M : am_M} {l0 l1 : Option Value} : am_run G d K_Ta_readOne (23, [l0, l1], st, M) = am_run G d K_Ta_readOne (25, [l0, l1], .int (-3) :: st, M) := am_run_next (x := (.bipush (-3), 2, 0, 0, 0, 0)) (by decide +kernel) rfl
theorem r_Ta_readOne_25 {G : Nat → Value} {d : Nat} {st : List Value} {M : am_M} {l0 l1 : Option Value} {a b : Int32} : am_run G d K_Ta_readOne (25, [l0, l1], .int b :: .int a :: st, M) = if ¬ a = b then am_run G d K_Ta_readOne (35, [l0, l1], st, M) else am_run G d K_Ta_readOne (28, [l0, l1], st, M) := by
  split
  · next h => exact am_run_next (x := (.if_icmp .ne 10, 3, 0, 0, 0, 0)) (by decide +kernel) (am_br_t (decide_eq_true h) (by decide))
  · next h => exact am_run_next (x := (.if_icmp .ne 10, 3, 0, 0, 0, 0)) (by decide +kernel) (am_br_f (decide_eq_false h) (by decide))
theorem r_Ta_readOne_28 {G : Nat → Value} {d : Nat} {st : List Value} {M : am_M} {l1 : Option Value} {v : Value} (hv : am_isr v = true) : am_run G d K_Ta_readOne (28, [some v, l1], st, M) = am_run G d K_Ta_readOne (29, [some v, l1], v :: st, M) := by
  rcases am_isr_cases hv with ⟨q, rfl⟩ | rfl
  · exact am_run_next (x := (.aload_n 0, 1, 0, 0, 0, 0)) (by decide +kernel) rfl
  · exact am_run_next (x := (.aload_n 0, 1, 0, 0, 0, 0)) (by decide +kernel) rfl
theorem r_Ta_readOne_29 {G : Nat → Value} {d : Nat} {st : List Value} {M : am_M} {l0 l1 : Option Value} {a : Nat} : am_run G d K_Ta_readOne (29, [l0, l1], .ref a :: st, M) = am_kf G d K_Ta_readOne 32 [l0, l1] st M (am_fld M a 7 5) := am_run_kf (x := (.getfield 78, 3, 7, 5, 1051, 0)) (by decide +kernel) rfl
theorem r_Ta_readOne_32 {G : Nat → Value} {d : Nat} {st : List Value} {M : am_M} {l0 l1 : Option Value} : am_run G d K_Ta_readOne (32, [l0, l1], st, M) = am_run G d K_Ta_readOne (41, [l0, l1], st, M) := am_run_next (x := (.goto 9, 3, 0, 0, 0, 0)) (by decide +kernel) rfl
theorem r_Ta_readOne_35 {G : Nat → Value} {d : Nat} {st : List Value} {M : am_M} {l0 l1 : Option Value} : am_run G d K_Ta_readOne (35, [l0, l1], st, M) = am_run G d K_Ta_readOne (36, [l0, l1], .int (-1) :: st, M) := am_run_next (x := (.iconst (-1), 1, 0, 0, 0, 0)) (by decide +kernel) rfl
theorem r_Ta_readOne_36 {G : Nat → Value} {d : Nat} {st : List Value} {M : am_M} {l1 : Option Value} {v : Value} (hv : am_isr v = true) : am_run G d K_Ta_readOne (36, [some v, l1], st, M) = am_run G d K_Ta_readOne (37, [some v, l1], v :: st, M) := by
  rcases am_isr_cases hv with ⟨q, rfl⟩ | rfl
  · exact am_run_next (x := (.aload_n 0, 1, 0, 0, 0, 0)) (by decide +kernel) rfl
  · exact am_run_next (x := (.aload_n 0, 1, 0, 0, 0, 0)) (by decide +kernel) rfl
theorem r_Ta_readOne_37 {G : Nat → Value} {d : Nat} {st : List Value} {M : am_M} {l0 l1 : Option Value} {a : Nat} : am_run G d K_Ta_readOne (37, [l0, l1], .ref a :: st, M) = am_kf G d K_Ta_readOne 40 [l0, l1] st M (am_fld M a 7 5) := am_run_kf (x := (.getfield 78, 3, 7, 5, 1051, 0)) (by decide +kernel) rfl
theorem r_Ta_readOne_40 {G : Nat → Value} {d : Nat} {st : List Value} {M : am_M} {l0 l1 : Option Value} {a b : Int32} : am_run G d K_Ta_readOne (40, [l0, l1], .int b :: .int a :: st, M) = am_run G d K_Ta_readOne (41, [l0, l1], .int (a - b) :: st, M) := am_run_next (x := (.isub, 1, 0, 0, 0, 0)) (by decide +kernel) rfl
theorem r_Ta_readOne_41 {G : Nat → Value} {d : Nat} {st : List Value} {M : am_M} {l0 l1 : Option Value} {q : Nat} {a0 : Int32} (hq : am_cls M q = some 7) (h8 : am_sw st ≤ 8) : am_run G d K_Ta_readOne (41, [l0, l1], .int a0 :: .ref q :: st, M) = am_k G d K_Ta_readOne 44 [l0, l1] st (am_ex G d K_Ta_write [.ref q, .int a0] M) := am_run_iv (i := 62) (n := 1) (pl := 2058) (Bs := [.int a0]) (z := K_Ta_write) (by decide +kernel) hq h8 rfl (Nat.le_of_ble_eq_true rfl) rfl
theorem r_Ta_readOne_44 {G : Nat → Value} {d : Nat} {st : List Value} {M : am_M} {l1 : Option Value} {v : Value} (hv : am_isr v = true) : am_run G d K_Ta_readOne (44, [some v, l1], st, M) = am_run G d K_Ta_readOne (45, [some v, l1], v :: st, M) := by
  rcases am_isr_cases hv with ⟨q, rfl⟩ | rfl
  · exact am_run_next (x := (.aload_n 0, 1, 0, 0, 0, 0)) (by decide +kernel) rfl
  · exact am_run_next (x := (.aload_n 0, 1, 0, 0, 0, 0)) (by decide +kernel) rfl
theorem r_Ta_readOne_45 {G : Nat → Value} {d : Nat} {st : List Value} {M : am_M} {l0 l1 : Option Value} {q : Nat} (hq : am_cls M q = some 7) (h8 : am_sw st ≤ 8) : am_run G d K_Ta_readOne (45, [l0, l1], .ref q :: st, M) = am_k G d K_Ta_readOne 48 [l0, l1] st (am_ex G d K_Ta_step [.ref q] M) := am_run_iv (i := 25) (n := 0) (pl := 1180) (Bs := []) (z := K_Ta_step) (by decide +kernel) hq h8 rfl (Nat.le_of_ble_eq_true rfl) rfl
theorem r_Ta_readOne_48 {G : Nat → Value} {d : Nat} {st : List Value} {M : am_M} {l0 l1 : Option Value} : am_run G d K_Ta_readOne (48, [l0, l1], st, M) = am_run G d K_Ta_readOne (49, [l0, l1], .int 1 :: st, M) := am_run_next (x := (.iconst 1, 1, 0, 0, 0, 0)) (by decide +kernel) rfl
theorem r_Ta_readOne_49 {G : Nat → Value} {d : Nat} {M : am_M} {l0 l1 : Option Value} {a : Int32} (ha : a = 0 ∨ a = 1) : am_run G d K_Ta_readOne (49, [l0, l1], [.int a], M) = some (some (.int a), M) := am_run_ret (x := (.ireturn, 1, 0, 0, 0, 0)) (by decide +kernel) (if_pos (decide_eq_true ha))
theorem r_Ta_readOne_50 {G : Nat → Value} {d : Nat} {st : List Value} {M : am_M} {l1 : Option Value} {v : Value} (hv : am_isr v = true) : am_run G d K_Ta_readOne (50, [some v, l1], st, M) = am_run G d K_Ta_readOne (51, [some v, l1], v :: st, M) := by
  rcases am_isr_cases hv with ⟨q, rfl⟩ | rfl
  · exact am_run_next (x := (.aload_n 0, 1, 0, 0, 0, 0)) (by decide +kernel) rfl
  · exact am_run_next (x := (.aload_n 0, 1, 0, 0, 0, 0)) (by decide +kernel) rfl
theorem r_Ta_readOne_51 {G : Nat → Value} {d : Nat} {st : List Value} {M : am_M} {l0 l1 : Option Value} {a : Nat} : am_run G d K_Ta_readOne (51, [l0, l1], .ref a :: st, M) = am_kf G d K_Ta_readOne 54 [l0, l1] st M (am_fld M a 7 3) := am_run_kf (x := (.getfield 38, 3, 7, 3, 1049, 0)) (by decide +kernel) rfl
theorem r_Ta_readOne_54 {G : Nat → Value} {d : Nat} {st : List Value} {M : am_M} {l0 l1 : Option Value} : am_run G d K_Ta_readOne (54, [l0, l1], st, M) = am_run G d K_Ta_readOne (56, [l0, l1], .int 45 :: st, M) := am_run_next (x := (.bipush 45, 2, 0, 0, 0, 0)) (by decide +kernel) rfl
theorem r_Ta_readOne_56 {G : Nat → Value} {d : Nat} {st : List Value} {M : am_M} {l0 l1 : Option Value} {a b : Int32} : am_run G d K_Ta_readOne (56, [l0, l1], .int b :: .int a :: st, M) = if a = b then am_run G d K_Ta_readOne (68, [l0, l1], st, M) else am_run G d K_Ta_readOne (59, [l0, l1], st, M) := by
  split
  · next h => exact am_run_next (x := (.if_icmp .eq 12, 3, 0, 0, 0, 0)) (by decide +kernel) (am_br_t (decide_eq_true h) (by decide))
  · next h => exact am_run_next (x := (.if_icmp .eq 12, 3, 0, 0, 0, 0)) (by decide +kernel) (am_br_f (decide_eq_false h) (by decide))
theorem r_Ta_readOne_59 {G : Nat → Value} {d : Nat} {st : List Value} {M : am_M} {l1 : Option Value} {v : Value} (hv : am_isr v = true) : am_run G d K_Ta_readOne (59, [some v, l1], st, M) = am_run G d K_Ta_readOne (60, [some v, l1], v :: st, M) := by
  rcases am_isr_cases hv with ⟨q, rfl⟩ | rfl
  · exact am_run_next (x := (.aload_n 0, 1, 0, 0, 0, 0)) (by decide +kernel) rfl
  · exact am_run_next (x := (.aload_n 0, 1, 0, 0, 0, 0)) (by decide +kernel) rfl
theorem r_Ta_readOne_60 {G : Nat → Value} {d : Nat} {st : List Value} {M : am_M} {l0 l1 : Option Value} {a : Nat} : am_run G d K_Ta_readOne (60, [l0, l1], .ref a :: st, M) = am_kf G d K_Ta_readOne 63 [l0, l1] st M (am_fld M a 7 3) := am_run_kf (x := (.getfield 38, 3, 7, 3, 1049, 0)) (by decide +kernel) rfl
theorem r_Ta_readOne_63 {G : Nat → Value} {d : Nat} {st : List Value} {M : am_M} {l0 l1 : Option Value} : am_run G d K_Ta_readOne (63, [l0, l1], st, M) = am_run G d K_Ta_readOne (65, [l0, l1], .int 40 :: st, M) := am_run_next (x := (.bipush 40, 2, 0, 0, 0, 0)) (by decide +kernel) rfl
theorem r_Ta_readOne_65 {G : Nat → Value} {d : Nat} {st : List Value} {M : am_M} {l0 l1 : Option Value} {a b : Int32} : am_run G d K_Ta_readOne (65, [l0, l1], .int b :: .int a :: st, M) = if ¬ a = b then am_run G d K_Ta_readOne (73, [l0, l1], st, M) else am_run G d K_Ta_readOne (68, [l0, l1], st, M) := by
  split
  · next h => exact am_run_next (x := (.if_icmp .ne 8, 3, 0, 0, 0, 0)) (by decide +kernel) (am_br_t (decide_eq_true h) (by decide))
  · next h => exact am_run_next (x := (.if_icmp .ne 8, 3, 0, 0, 0, 0)) (by decide +kernel) (am_br_f (decide_eq_false h) (by decide))
theorem r_Ta_readOne_68 {G : Nat → Value} {d : Nat} {st : List Value} {M : am_M} {l0 : Option Value} {v : Int32} : am_run G d K_Ta_readOne (68, [l0, some (.int v)], st, M) = am_run G d K_Ta_readOne (69, [l0, some (.int v)], .int v :: st, M) := am_run_next (x := (.iload_n 1, 1, 0, 0, 0, 0)) (by decide +kernel) rfl
theorem r_Ta_readOne_69 {G : Nat → Value} {d : Nat} {st : List Value} {M : am_M} {l0 l1 : Option Value} : am_run G d K_Ta_readOne (69, [l0, l1], st, M) = am_run G d K_Ta_readOne (70, [l0, l1], .int 5 :: st, M) := am_run_next (x := (.iconst 5, 1, 0, 0, 0, 0)) (by decide +kernel) rfl
theorem r_Ta_readOne_70 {G : Nat → Value} {d : Nat} {st : List Value} {M : am_M} {l0 l1 : Option Value} {a b : Int32} : am_run G d K_Ta_readOne (70, [l0, l1], .int b :: .int a :: st, M) = if a < b then am_run G d K_Ta_readOne (75, [l0, l1], st, M) else am_run G d K_Ta_readOne (73, [l0, l1], st, M) := by
  split
  · next h => exact am_run_next (x := (.if_icmp .lt 5, 3, 0, 0, 0, 0)) (by decide +kernel) (am_br_t (decide_eq_true h) (by decide))
  · next h => exact am_run_next (x := (.if_icmp .lt 5, 3, 0, 0, 0, 0)) (by decide +kernel) (am_br_f (decide_eq_false h) (by decide))
theorem r_Ta_readOne_73 {G : Nat → Value} {d : Nat} {st : List Value} {M : am_M} {l0 l1 : Option Value} : am_run G d K_Ta_readOne (73, [l0, l1], st, M) = am_run G d K_Ta_readOne (74, [l0, l1], .int 0 :: st, M) := am_run_next (x := (.iconst 0, 1, 0, 0, 0, 0)) (by decide +kernel) rfl
theorem r_Ta_readOne_74 {G : Nat → Value} {d : Nat} {M : am_M} {l0 l1 : Option Value} {a : Int32} (ha : a = 0 ∨ a = 1) : am_run G d K_Ta_readOne (74, [l0, l1], [.int a], M) = some (some (.int a), M) := am_run_ret (x := (.ireturn, 1, 0, 0, 0, 0)) (by decide +kernel) (if_pos (decide_eq_true ha))
theorem r_Ta_readOne_75 {G : Nat → Value} {d : Nat} {st : List Value} {M : am_M} {l1 : Option Value} {v : Value} (hv : am_isr v = true) : am_run G d K_Ta_readOne (75, [some v, l1], st, M) = am_run G d K_Ta_readOne (76, [some v, l1], v :: st, M) := by
  rcases am_isr_cases hv with ⟨q, rfl⟩ | rfl
  · exact am_run_next (x := (.aload_n 0, 1, 0, 0, 0, 0)) (by decide +kernel) rfl
  · exact am_run_next (x := (.aload_n 0, 1, 0, 0, 0, 0)) (by decide +kernel) rfl
theorem r_Ta_readOne_76 {G : Nat → Value} {d : Nat} {st : List Value} {M : am_M} {l0 l1 : Option Value} {a : Nat} : am_run G d K_Ta_readOne (76, [l0, l1], .ref a :: st, M) = am_kf G d K_Ta_readOne 79 [l0, l1] st M (am_fld M a 7 3) := am_run_kf (x := (.getfield 38, 3, 7, 3, 1049, 0)) (by decide +kernel) rfl
theorem r_Ta_readOne_79 {G : Nat → Value} {d : Nat} {st : List Value} {M : am_M} {l0 l1 : Option Value} : am_run G d K_Ta_readOne (79, [l0, l1], st, M) = am_run G d K_Ta_readOne (81, [l0, l1], .int 45 :: st, M) := am_run_next (x := (.bipush 45, 2, 0, 0, 0, 0)) (by decide +kernel) rfl
theorem r_Ta_readOne_81 {G : Nat → Value} {d : Nat} {st : List Value} {M : am_M} {l0 l1 : Option Value} {a b : Int32} : am_run G d K_Ta_readOne (81, [l0, l1], .int b :: .int a :: st, M) = if ¬ a = b then am_run G d K_Ta_readOne (108, [l0, l1], st, M) else am_run G d K_Ta_readOne (84, [l0, l1], st, M) := by
  split
  · next h => exact am_run_next (x := (.if_icmp .ne 27, 3, 0, 0, 0, 0)) (by decide +kernel) (am_br_t (decide_eq_true h) (by decide))
  · next h => exact am_run_next (x := (.if_icmp .ne 27, 3, 0, 0, 0, 0)) (by decide +kernel) (am_br_f (decide_eq_false h) (by decide))
theorem r_Ta_readOne_84 {G : Nat → Value} {d : Nat} {st : List Value} {M : am_M} {l1 : Option Value} {v : Value} (hv : am_isr v = true) : am_run G d K_Ta_readOne (84, [some v, l1], st, M) = am_run G d K_Ta_readOne (85, [some v, l1], v :: st, M) := by
  rcases am_isr_cases hv with ⟨q, rfl⟩ | rfl
  · exact am_run_next (x := (.aload_n 0, 1, 0, 0, 0, 0)) (by decide +kernel) rfl
  · exact am_run_next (x := (.aload_n 0, 1, 0, 0, 0, 0)) (by decide +kernel) rfl
theorem r_Ta_readOne_85 {G : Nat → Value} {d : Nat} {st : List Value} {M : am_M} {l0 l1 : Option Value} {q : Nat} (hq : am_cls M q = some 7) (h8 : am_sw st ≤ 8) : am_run G d K_Ta_readOne (85, [l0, l1], .ref q :: st, M) = am_k G d K_Ta_readOne 88 [l0, l1] st (am_ex G d K_Ta_step [.ref q] M) := am_run_iv (i := 25) (n := 0) (pl := 1180) (Bs := []) (z := K_Ta_step) (by decide +kernel) hq h8 rfl (Nat.le_of_ble_eq_true rfl) rfl
theorem r_Ta_readOne_88 {G : Nat → Value} {d : Nat} {st : List Value} {M : am_M} {l1 : Option Value} {v : Value} (hv : am_isr v = true) : am_run G d K_Ta_readOne (88, [some v, l1], st, M) = am_run G d K_Ta_readOne (89, [some v, l1], v :: st, M) := by
  rcases am_isr_cases hv with ⟨q, rfl⟩ | rfl
  · exact am_run_next (x := (.aload_n 0, 1, 0, 0, 0, 0)) (by decide +kernel) rfl
  · exact am_run_next (x := (.aload_n 0, 1, 0, 0, 0, 0)) (by decide +kernel) rfl
theorem r_Ta_readOne_89 {G : Nat → Value} {d : Nat} {st : List Value} {M : am_M} {l0 : Option Value} {v : Int32} : am_run G d K_Ta_readOne (89, [l0, some (.int v)], st, M) = am_run G d K_Ta_readOne (90, [l0, some (.int v)], .int v :: st, M) := am_run_next (x := (.iload_n 1, 1, 0, 0, 0, 0)) (by decide +kernel) rfl
theorem r_Ta_readOne_90 {G : Nat → Value} {d : Nat} {st : List Value} {M : am_M} {l0 l1 : Option Value} : am_run G d K_Ta_readOne (90, [l0, l1], st, M) = am_run G d K_Ta_readOne (91, [l0, l1], .int 1 :: st, M) := am_run_next (x := (.iconst 1, 1, 0, 0, 0, 0)) (by decide +kernel) rfl
theorem r_Ta_readOne_91 {G : Nat → Value} {d : Nat} {st : List Value} {M : am_M} {l0 l1 : Option Value} {a b : Int32} : am_run G d K_Ta_readOne (91, [l0, l1], .int b :: .int a :: st, M) = am_run G d K_Ta_readOne (92, [l0, l1], .int (a + b) :: st, M) := am_run_next (x := (.iadd, 1, 0, 0, 0, 0)) (by decide +kernel) rfl
theorem r_Ta_readOne_92 {G : Nat → Value} {d : Nat} {st : List Value} {M : am_M} {l0 l1 : Option Value} {q : Nat} {a0 : Int32} (hq : am_cls M q = some 7) (h8 : am_sw st ≤ 8) : am_run G d K_Ta_readOne (92, [l0, l1], .int a0 :: .ref q :: st, M) = am_k G d K_Ta_readOne 95 [l0, l1] st (am_ex G d K_Ta_readOne [.ref q, .int a0] M) := am_run_iv (i := 75) (n := 1) (pl := 2070) (Bs := [.int a0]) (z := K_Ta_readOne) (by decide +kernel) hq h8 rfl (Nat.le_of_ble_eq_true rfl) rfl
theorem r_Ta_readOne_95 {G : Nat → Value} {d : Nat} {st : List Value} {M : am_M} {l0 l1 : Option Value} {a : Int32} : am_run G d K_Ta_readOne (95, [l0, l1], .int a :: st, M) = if ¬ a = 0 then am_run G d K_Ta_readOne (100, [l0, l1], st, M) else am_run G d K_Ta_readOne (98, [l0, l1], st, M) := by
  split
  · next h => exact am_run_next (x := (.ifCond .ne 5, 3, 0, 0, 0, 0)) (by decide +kernel) (am_br_t (decide_eq_true h) (by decide))
  · next h => exact am_run_next (x := (.ifCond .ne 5, 3, 0, 0, 0, 0)) (by decide +kernel) (am_br_f (decide_eq_false h) (by decide))
theorem r_Ta_readOne_98 {G : Nat → Value} {d : Nat} {st : List Value} {M : am_M} {l0 l1 : Option Value} : am_run G d K_Ta_readOne (98, [l0, l1], st, M) = am_run G d K_Ta_readOne (99, [l0, l1], .int 0 :: st, M) := am_run_next (x := (.iconst 0, 1, 0, 0, 0, 0)) (by decide +kernel) rfl
theorem r_Ta_readOne_99 {G : Nat → Value} {d : Nat} {M : am_M} {l0 l1 : Option Value} {a : Int32} (ha : a = 0 ∨ a = 1) : am_run G d K_Ta_readOne (99, [l0, l1], [.int a], M) = some (some (.int a), M) := am_run_ret (x := (.ireturn, 1, 0, 0, 0, 0)) (by decide +kernel) (if_pos (decide_eq_true ha))
theorem r_Ta_readOne_100 {G : Nat → Value} {d : Nat} {st : List Value} {M : am_M} {l1 : Option Value} {v : Value} (hv : am_isr v = true) : am_run G d K_Ta_readOne (100, [some v, l1], st, M) = am_run G d K_Ta_readOne (101, [some v, l1], v :: st, M) := by
  rcases am_isr_cases hv with ⟨q, rfl⟩ | rfl
  · exact am_run_next (x := (.aload_n 0, 1, 0, 0, 0, 0)) (by decide +kernel) rfl
  · exact am_run_next (x := (.aload_n 0, 1, 0, 0, 0, 0)) (by decide +kernel) rfl
theorem r_Ta_readOne_101 {G : Nat → Value} {d : Nat} {st : List Value} {M : am_M} {l0 l1 : Option Value} : am_run G d K_Ta_readOne (101, [l0, l1], st, M) = am_run G d K_Ta_readOne (103, [l0, l1], .int (-20) :: st, M) := am_run_next (x := (.bipush (-20), 2, 0, 0, 0, 0)) (by decide +kernel) rfl
theorem r_Ta_readOne_103 {G : Nat → Value} {d : Nat} {st : List Value} {M : am_M} {l0 l1 : Option Value} {q : Nat} {a0 : Int32} (hq : am_cls M q = some 7) (h8 : am_sw st ≤ 8) : am_run G d K_Ta_readOne (103, [l0, l1], .int a0 :: .ref q :: st, M) = am_k G d K_Ta_readOne 106 [l0, l1] st (am_ex G d K_Ta_write [.ref q, .int a0] M) := am_run_iv (i := 62) (n := 1) (pl := 2058) (Bs := [.int a0]) (z := K_Ta_write) (by decide +kernel) hq h8 rfl (Nat.le_of_ble_eq_true rfl) rfl
theorem r_Ta_readOne_106 {G : Nat → Value} {d : Nat} {st : List Value} {M : am_M} {l0 l1 : Option Value} : am_run G d K_Ta_readOne (106, [l0, l1], st, M) = am_run G d K_Ta_readOne (107, [l0, l1], .int 1 :: st, M) := am_run_next (x := (.iconst 1, 1, 0, 0, 0, 0)) (by decide +kernel) rfl
theorem r_Ta_readOne_107 {G : Nat → Value} {d : Nat} {M : am_M} {l0 l1 : Option Value} {a : Int32} (ha : a = 0 ∨ a = 1) : am_run G d K_Ta_readOne (107, [l0, l1], [.int a], M) = some (some (.int a), M) := am_run_ret (x := (.ireturn, 1, 0, 0, 0, 0)) (by decide +kernel) (if_pos (decide_eq_true ha))
theorem r_Ta_readOne_108 {G : Nat → Value} {d : Nat} {st : List Value} {M : am_M} {l1 : Option Value} {v : Value} (hv : am_isr v = true) : am_run G d K_Ta_readOne (108, [some v, l1], st, M) = am_run G d K_Ta_readOne (109, [some v, l1], v :: st, M) := by
  rcases am_isr_cases hv with ⟨q, rfl⟩ | rfl
  · exact am_run_next (x := (.aload_n 0, 1, 0, 0, 0, 0)) (by decide +kernel) rfl
  · exact am_run_next (x := (.aload_n 0, 1, 0, 0, 0, 0)) (by decide +kernel) rfl
theorem r_Ta_readOne_109 {G : Nat → Value} {d : Nat} {st : List Value} {M : am_M} {l0 l1 : Option Value} {q : Nat} (hq : am_cls M q = some 7) (h8 : am_sw st ≤ 8) : am_run G d K_Ta_readOne (109, [l0, l1], .ref q :: st, M) = am_k G d K_Ta_readOne 112 [l0, l1] st (am_ex G d K_Ta_step [.ref q] M) := am_run_iv (i := 25) (n := 0) (pl := 1180) (Bs := []) (z := K_Ta_step) (by decide +kernel) hq h8 rfl (Nat.le_of_ble_eq_true rfl) rfl
theorem r_Ta_readOne_112 {G : Nat → Value} {d : Nat} {st : List Value} {M : am_M} {l1 : Option Value} {v : Value} (hv : am_isr v = true) : am_run G d K_Ta_readOne (112, [some v, l1], st, M) = am_run G d K_Ta_readOne (113, [some v, l1], v :: st, M) := by
  rcases am_isr_cases hv with ⟨q, rfl⟩ | rfl
  · exact am_run_next (x := (.aload_n 0, 1, 0, 0, 0, 0)) (by decide +kernel) rfl
  · exact am_run_next (x := (.aload_n 0, 1, 0, 0, 0, 0)) (by decide +kernel) rfl
theorem r_Ta_readOne_113 {G : Nat → Value} {d : Nat} {st : List Value} {M : am_M} {l0 : Option Value} {v : Int32} : am_run G d K_Ta_readOne (113, [l0, some (.int v)], st, M) = am_run G d K_Ta_readOne (114, [l0, some (.int v)], .int v :: st, M) := am_run_next (x := (.iload_n 1, 1, 0, 0, 0, 0)) (by decide +kernel) rfl
theorem r_Ta_readOne_114 {G : Nat → Value} {d : Nat} {st : List Value} {M : am_M} {l0 l1 : Option Value} : am_run G d K_Ta_readOne (114, [l0, l1], st, M) = am_run G d K_Ta_readOne (115, [l0, l1], .int 1 :: st, M) := am_run_next (x := (.iconst 1, 1, 0, 0, 0, 0)) (by decide +kernel) rfl
theorem r_Ta_readOne_115 {G : Nat → Value} {d : Nat} {st : List Value} {M : am_M} {l0 l1 : Option Value} {a b : Int32} : am_run G d K_Ta_readOne (115, [l0, l1], .int b :: .int a :: st, M) = am_run G d K_Ta_readOne (116, [l0, l1], .int (a + b) :: st, M) := am_run_next (x := (.iadd, 1, 0, 0, 0, 0)) (by decide +kernel) rfl
theorem r_Ta_readOne_116 {G : Nat → Value} {d : Nat} {st : List Value} {M : am_M} {l0 l1 : Option Value} {q : Nat} {a0 : Int32} (hq : am_cls M q = some 7) (h8 : am_sw st ≤ 8) : am_run G d K_Ta_readOne (116, [l0, l1], .int a0 :: .ref q :: st, M) = am_k G d K_Ta_readOne 119 [l0, l1] st (am_ex G d K_Ta_readE [.ref q, .int a0] M) := am_run_iv (i := 49) (n := 1) (pl := 2046) (Bs := [.int a0]) (z := K_Ta_readE) (by decide +kernel) hq h8 rfl (Nat.le_of_ble_eq_true rfl) rfl
theorem r_Ta_readOne_119 {G : Nat → Value} {d : Nat} {st : List Value} {M : am_M} {l0 l1 : Option Value} {a : Int32} : am_run G d K_Ta_readOne (119, [l0, l1], .int a :: st, M) = if a = 0 then am_run G d K_Ta_readOne (131, [l0, l1], st, M) else am_run G d K_Ta_readOne (122, [l0, l1], st, M) := by
  split
  · next h => exact am_run_next (x := (.ifCond .eq 12, 3, 0, 0, 0, 0)) (by decide +kernel) (am_br_t (decide_eq_true h) (by decide))
  · next h => exact am_run_next (x := (.ifCond .eq 12, 3, 0, 0, 0, 0)) (by decide +kernel) (am_br_f (decide_eq_false h) (by decide))
theorem r_Ta_readOne_122 {G : Nat → Value} {d : Nat} {st : List Value} {M : am_M} {l1 : Option Value} {v : Value} (hv : am_isr v = true) : am_run G d K_Ta_readOne (122, [some v, l1], st, M) = am_run G d K_Ta_readOne (123, [some v, l1], v :: st, M) := by
  rcases am_isr_cases hv with ⟨q, rfl⟩ | rfl
  · exact am_run_next (x := (.aload_n 0, 1, 0, 0, 0, 0)) (by decide +kernel) rfl
  · exact am_run_next (x := (.aload_n 0, 1, 0, 0, 0, 0)) (by decide +kernel) rfl
theorem r_Ta_readOne_123 {G : Nat → Value} {d : Nat} {st : List Value} {M : am_M} {l0 l1 : Option Value} {a : Nat} : am_run G d K_Ta_readOne (123, [l0, l1], .ref a :: st, M) = am_kf G d K_Ta_readOne 126 [l0, l1] st M (am_fld M a 7 3) := am_run_kf (x := (.getfield 38, 3, 7, 3, 1049, 0)) (by decide +kernel) rfl
theorem r_Ta_readOne_126 {G : Nat → Value} {d : Nat} {st : List Value} {M : am_M} {l0 l1 : Option Value} : am_run G d K_Ta_readOne (126, [l0, l1], st, M) = am_run G d K_Ta_readOne (128, [l0, l1], .int 41 :: st, M) := am_run_next (x := (.bipush 41, 2, 0, 0, 0, 0)) (by decide +kernel) rfl
theorem r_Ta_readOne_128 {G : Nat → Value} {d : Nat} {st : List Value} {M : am_M} {l0 l1 : Option Value} {a b : Int32} : am_run G d K_Ta_readOne (128, [l0, l1], .int b :: .int a :: st, M) = if a = b then am_run G d K_Ta_readOne (133, [l0, l1], st, M) else am_run G d K_Ta_readOne (131, [l0, l1], st, M) := by
  split
  · next h => exact am_run_next (x := (.if_icmp .eq 5, 3, 0, 0, 0, 0)) (by decide +kernel) (am_br_t (decide_eq_true h) (by decide))
  · next h => exact am_run_next (x := (.if_icmp .eq 5, 3, 0, 0, 0, 0)) (by decide +kernel) (am_br_f (decide_eq_false h) (by decide))
theorem r_Ta_readOne_131 {G : Nat → Value} {d : Nat} {st : List Value} {M : am_M} {l0 l1 : Option Value} : am_run G d K_Ta_readOne (131, [l0, l1], st, M) = am_run G d K_Ta_readOne (132, [l0, l1], .int 0 :: st, M) := am_run_next (x := (.iconst 0, 1, 0, 0, 0, 0)) (by decide +kernel) rfl
theorem r_Ta_readOne_132 {G : Nat → Value} {d : Nat} {M : am_M} {l0 l1 : Option Value} {a : Int32} (ha : a = 0 ∨ a = 1) : am_run G d K_Ta_readOne (132, [l0, l1], [.int a], M) = some (some (.int a), M) := am_run_ret (x := (.ireturn, 1, 0, 0, 0, 0)) (by decide +kernel) (if_pos (decide_eq_true ha))
theorem r_Ta_readOne_133 {G : Nat → Value} {d : Nat} {st : List Value} {M : am_M} {l1 : Option Value} {v : Value} (hv : am_isr v = true) : am_run G d K_Ta_readOne (133, [some v, l1], st, M) = am_run G d K_Ta_readOne (134, [some v, l1], v :: st, M) := by
  rcases am_isr_cases hv with ⟨q, rfl⟩ | rfl
  · exact am_run_next (x := (.aload_n 0, 1, 0, 0, 0, 0)) (by decide +kernel) rfl
  · exact am_run_next (x := (.aload_n 0, 1, 0, 0, 0, 0)) (by decide +kernel) rfl
theorem r_Ta_readOne_134 {G : Nat → Value} {d : Nat} {st : List Value} {M : am_M} {l0 l1 : Option Value} {q : Nat} (hq : am_cls M q = some 7) (h8 : am_sw st ≤ 8) : am_run G d K_Ta_readOne (134, [l0, l1], .ref q :: st, M) = am_k G d K_Ta_readOne 137 [l0, l1] st (am_ex G d K_Ta_step [.ref q] M) := am_run_iv (i := 25) (n := 0) (pl := 1180) (Bs := []) (z := K_Ta_step) (by decide +kernel) hq h8 rfl (Nat.le_of_ble_eq_true rfl) rfl
theorem r_Ta_readOne_137 {G : Nat → Value} {d : Nat} {st : List Value} {M : am_M} {l0 l1 : Option Value} : am_run G d K_Ta_readOne (137, [l0, l1], st, M) = am_run G d K_Ta_readOne (138, [l0, l1], .int 1 :: st, M) := am_run_next (x := (.iconst 1, 1, 0, 0, 0, 0)) (by decide +kernel) rfl
theorem r_Ta_readOne_138 {G : Nat → Value} {d : Nat} {M : am_M} {l0 l1 : Option Value} {a : Int32} (ha : a = 0 ∨ a = 1) : am_run G d K_Ta_readOne (138, [l0, l1], [.int a], M) = some (some (.int a), M) := am_run_ret (x := (.ireturn, 1, 0, 0, 0, 0)) (by decide +kernel) (if_pos (decide_eq_true ha))
theorem r_Te_init_0 {G : Nat → Value} {d : Nat} {st : List Value} {M : am_M} {l1 l2 : Option Value} {v : Value} (hv : am_isr v = true) : am_run G d K_Te_init (0, [some v, l1, l2], st, M) = am_run G d K_Te_init (1, [some v, l1, l2], v :: st, M) := by
  rcases am_isr_cases hv with ⟨q, rfl⟩ | rfl
  · exact am_run_next (x := (.aload_n 0, 1, 0, 0, 0, 0)) (by decide +kernel) rfl
  · exact am_run_next (x := (.aload_n 0, 1, 0, 0, 0, 0)) (by decide +kernel) rfl
theorem r_Te_init_1 {G : Nat → Value} {d : Nat} {st : List Value} {M : am_M} {l0 l1 l2 : Option Value} {a : Nat} (h8 : am_sw st ≤ 8) : am_run G d K_Te_init (1, [l0, l1, l2], .ref a :: st, M) = am_run G d K_Te_init (4, [l0, l1, l2], st, M) := am_run_next (x := (.invokespecial 1, 3, 0, 0, 2093, 5)) (by decide +kernel) (if_pos h8)
theorem r_Te_init_4 {G : Nat → Value} {d : Nat} {st : List Value} {M : am_M} {l1 l2 : Option Value} {v : Value} (hv : am_isr v = true) : am_run G d K_Te_init (4, [some v, l1, l2], st, M) = am_run G d K_Te_init (5, [some v, l1, l2], v :: st, M) := by
  rcases am_isr_cases hv with ⟨q, rfl⟩ | rfl
  · exact am_run_next (x := (.aload_n 0, 1, 0, 0, 0, 0)) (by decide +kernel) rfl
  · exact am_run_next (x := (.aload_n 0, 1, 0, 0, 0, 0)) (by decide +kernel) rfl
theorem r_Te_init_5 {G : Nat → Value} {d : Nat} {st : List Value} {M : am_M} {l0 l2 : Option Value} {v : Value} (hv : am_isr v = true) : am_run G d K_Te_init (5, [l0, some v, l2], st, M) = am_run G d K_Te_init (6, [l0, some v, l2], v :: st, M) := by
  rcases am_isr_cases hv with ⟨q, rfl⟩ | rfl
  · exact am_run_next (x := (.aload_n 1, 1, 0, 0, 0, 0)) (by decide +kernel) rfl
  · exact am_run_next (x := (.aload_n 1, 1, 0, 0, 0, 0)) (by decide +kernel) rfl
theorem r_Te_init_6 {G : Nat → Value} {d : Nat} {st : List Value} {M : am_M} {l0 l1 l2 : Option Value} {a : Nat} {v : Value} : am_run G d K_Te_init (6, [l0, l1, l2], v :: .ref a :: st, M) = am_km G d K_Te_init 9 [l0, l1, l2] st (am_pf M a 8 0 (am_fty 8 0) v) := am_run_km (x := (.putfield 7, 3, 8, 0, 2095, 0)) (by decide +kernel) rfl
theorem r_Te_init_9 {G : Nat → Value} {d : Nat} {st : List Value} {M : am_M} {l1 l2 : Option Value} {v : Value} (hv : am_isr v = true) : am_run G d K_Te_init (9, [some v, l1, l2], st, M) = am_run G d K_Te_init (10, [some v, l1, l2], v :: st, M) := by
  rcases am_isr_cases hv with ⟨q, rfl⟩ | rfl
  · exact am_run_next (x := (.aload_n 0, 1, 0, 0, 0, 0)) (by decide +kernel) rfl
  · exact am_run_next (x := (.aload_n 0, 1, 0, 0, 0, 0)) (by decide +kernel) rfl
theorem r_Te_init_10 {G : Nat → Value} {d : Nat} {st : List Value} {M : am_M} {l0 l1 : Option Value} {v : Value} (hv : am_isr v = true) : am_run G d K_Te_init (10, [l0, l1, some v], st, M) = am_run G d K_Te_init (11, [l0, l1, some v], v :: st, M) := by
  rcases am_isr_cases hv with ⟨q, rfl⟩ | rfl
  · exact am_run_next (x := (.aload_n 2, 1, 0, 0, 0, 0)) (by decide +kernel) rfl
  · exact am_run_next (x := (.aload_n 2, 1, 0, 0, 0, 0)) (by decide +kernel) rfl
theorem r_Te_init_11 {G : Nat → Value} {d : Nat} {st : List Value} {M : am_M} {l0 l1 l2 : Option Value} {a : Nat} {v : Value} : am_run G d K_Te_init (11, [l0, l1, l2], v :: .ref a :: st, M) = am_km G d K_Te_init 14 [l0, l1, l2] st (am_pf M a 8 1 (am_fty 8 1) v) := am_run_km (x := (.putfield 13, 3, 8, 1, 2096, 0)) (by decide +kernel) rfl
theorem r_Te_init_14 {G : Nat → Value} {d : Nat} {st : List Value} {M : am_M} {l1 l2 : Option Value} {v : Value} (hv : am_isr v = true) : am_run G d K_Te_init (14, [some v, l1, l2], st, M) = am_run G d K_Te_init (15, [some v, l1, l2], v :: st, M) := by
  rcases am_isr_cases hv with ⟨q, rfl⟩ | rfl
  · exact am_run_next (x := (.aload_n 0, 1, 0, 0, 0, 0)) (by decide +kernel) rfl
  · exact am_run_next (x := (.aload_n 0, 1, 0, 0, 0, 0)) (by decide +kernel) rfl
theorem r_Te_init_15 {G : Nat → Value} {d : Nat} {st : List Value} {M : am_M} {l0 l2 : Option Value} {v : Value} (hv : am_isr v = true) : am_run G d K_Te_init (15, [l0, some v, l2], st, M) = am_run G d K_Te_init (16, [l0, some v, l2], v :: st, M) := by
  rcases am_isr_cases hv with ⟨q, rfl⟩ | rfl
  · exact am_run_next (x := (.aload_n 1, 1, 0, 0, 0, 0)) (by decide +kernel) rfl
  · exact am_run_next (x := (.aload_n 1, 1, 0, 0, 0, 0)) (by decide +kernel) rfl
theorem r_Te_init_16 {G : Nat → Value} {d : Nat} {st : List Value} {M : am_M} {l0 l1 l2 : Option Value} {a : Nat} : am_run G d K_Te_init (16, [l0, l1, l2], .ref a :: st, M) = am_kn G d K_Te_init 17 [l0, l1, l2] st M (am_len M a) := am_run_kn (x := (.arraylength, 1, 0, 0, 0, 0)) (by decide +kernel) rfl
theorem r_Te_init_17 {G : Nat → Value} {d : Nat} {st : List Value} {M : am_M} {l0 l1 : Option Value} {v : Value} (hv : am_isr v = true) : am_run G d K_Te_init (17, [l0, l1, some v], st, M) = am_run G d K_Te_init (18, [l0, l1, some v], v :: st, M) := by
  rcases am_isr_cases hv with ⟨q, rfl⟩ | rfl
  · exact am_run_next (x := (.aload_n 2, 1, 0, 0, 0, 0)) (by decide +kernel) rfl
  · exact am_run_next (x := (.aload_n 2, 1, 0, 0, 0, 0)) (by decide +kernel) rfl
theorem r_Te_init_18 {G : Nat → Value} {d : Nat} {st : List Value} {M : am_M} {l0 l1 l2 : Option Value} {a : Nat} : am_run G d K_Te_init (18, [l0, l1, l2], .ref a :: st, M) = am_kn G d K_Te_init 19 [l0, l1, l2] st M (am_len M a) := am_run_kn (x := (.arraylength, 1, 0, 0, 0, 0)) (by decide +kernel) rfl
theorem r_Te_init_19 {G : Nat → Value} {d : Nat} {st : List Value} {M : am_M} {l0 l1 l2 : Option Value} {a b : Int32} (h8 : am_sw st ≤ 8) : am_run G d K_Te_init (19, [l0, l1, l2], .int b :: .int a :: st, M) = am_run G d K_Te_init (22, [l0, l1, l2], .int (if a < b then b else a) :: st, M) := am_run_next (x := (.invokestatic 16, 3, 0, 2, 2094, 10)) (by decide +kernel) (if_pos h8)
theorem r_Te_init_22 {G : Nat → Value} {d : Nat} {st : List Value} {M : am_M} {l0 l1 l2 : Option Value} {n : Int32} : am_run G d K_Te_init (22, [l0, l1, l2], .int n :: st, M) = am_km G d K_Te_init 24 [l0, l1, l2] (.ref M.1 :: st) (am_newa (some (0, .inl (fun _ => 0))) n M) := am_run_km (x := (.newarray .int, 2, 0, 0, 0, 0)) (by decide +kernel) rfl
theorem r_Te_init_24 {G : Nat → Value} {d : Nat} {st : List Value} {M : am_M} {l0 l1 l2 : Option Value} {a : Nat} {v : Value} : am_run G d K_Te_init (24, [l0, l1, l2], v :: .ref a :: st, M) = am_km G d K_Te_init 27 [l0, l1, l2] st (am_pf M a 8 2 (am_fty 8 2) v) := am_run_km (x := (.putfield 22, 3, 8, 2, 2097, 0)) (by decide +kernel) rfl
theorem r_Te_init_27 {G : Nat → Value} {d : Nat} {M : am_M} {l0 l1 l2 : Option Value} : am_run G d K_Te_init (27, [l0, l1, l2], [], M) = some (none, M) := am_run_ret (x := (.return_, 1, 0, 0, 0, 0)) (by decide +kernel) rfl
theorem r_Sh_init_0 {G : Nat → Value} {d : Nat} {st : List Value} {M : am_M} {v : Value} (hv : am_isr v = true) : am_run G d K_Sh_init (0, [some v], st, M) = am_run G d K_Sh_init (1, [some v], v :: st, M) := by
  rcases am_isr_cases hv with ⟨q, rfl⟩ | rfl
  · exact am_run_next (x := (.aload_n 0, 1, 0, 0, 0, 0)) (by decide +kernel) rfl
  · exact am_run_next (x := (.aload_n 0, 1, 0, 0, 0, 0)) (by decide +kernel) rfl
theorem r_Sh_init_1 {G : Nat → Value} {d : Nat} {st : List Value} {M : am_M} {l0 : Option Value} {a : Nat} (h8 : am_sw st ≤ 8) : am_run G d K_Sh_init (1, [l0], .ref a :: st, M) = am_run G d K_Sh_init (4, [l0], st, M) := am_run_next (x := (.invokespecial 3, 3, 0, 0, 2110, 5)) (by decide +kernel) (if_pos h8)
theorem r_Sh_init_4 {G : Nat → Value} {d : Nat} {st : List Value} {M : am_M} {v : Value} (hv : am_isr v = true) : am_run G d K_Sh_init (4, [some v], st, M) = am_run G d K_Sh_init (5, [some v], v :: st, M) := by
  rcases am_isr_cases hv with ⟨q, rfl⟩ | rfl
  · exact am_run_next (x := (.aload_n 0, 1, 0, 0, 0, 0)) (by decide +kernel) rfl
  · exact am_run_next (x := (.aload_n 0, 1, 0, 0, 0, 0)) (by decide +kernel) rfl
theorem r_Sh_init_5 {G : Nat → Value} {d : Nat} {st : List Value} {M : am_M} {l0 : Option Value} : am_run G d K_Sh_init (5, [l0], st, M) = am_run G d K_Sh_init (6, [l0], .int (-1) :: st, M) := am_run_next (x := (.iconst (-1), 1, 0, 0, 0, 0)) (by decide +kernel) rfl
theorem r_Sh_init_6 {G : Nat → Value} {d : Nat} {st : List Value} {M : am_M} {l0 : Option Value} {a : Nat} {v : Value} : am_run G d K_Sh_init (6, [l0], v :: .ref a :: st, M) = am_km G d K_Sh_init 9 [l0] st (am_pf M a 4 0 .int v) := am_run_km (x := (.putfield 11, 3, 4, 0, 2111, 0)) (by decide +kernel) rfl
theorem r_Sh_init_9 {G : Nat → Value} {d : Nat} {st : List Value} {M : am_M} {v : Value} (hv : am_isr v = true) : am_run G d K_Sh_init (9, [some v], st, M) = am_run G d K_Sh_init (10, [some v], v :: st, M) := by
  rcases am_isr_cases hv with ⟨q, rfl⟩ | rfl
  · exact am_run_next (x := (.aload_n 0, 1, 0, 0, 0, 0)) (by decide +kernel) rfl
  · exact am_run_next (x := (.aload_n 0, 1, 0, 0, 0, 0)) (by decide +kernel) rfl
theorem r_Sh_init_10 {G : Nat → Value} {d : Nat} {st : List Value} {M : am_M} {l0 : Option Value} : am_run G d K_Sh_init (10, [l0], st, M) = am_run G d K_Sh_init (12, [l0], .int 40 :: st, M) := am_run_next (x := (.bipush 40, 2, 0, 0, 0, 0)) (by decide +kernel) rfl
theorem r_Sh_init_12 {G : Nat → Value} {d : Nat} {st : List Value} {M : am_M} {l0 : Option Value} {n : Int32} : am_run G d K_Sh_init (12, [l0], .int n :: st, M) = am_km G d K_Sh_init 14 [l0] (.ref M.1 :: st) (am_newa (some (0, .inl (fun _ => 0))) n M) := am_run_km (x := (.newarray .int, 2, 0, 0, 0, 0)) (by decide +kernel) rfl
theorem r_Sh_init_14 {G : Nat → Value} {d : Nat} {st : List Value} {M : am_M} {l0 : Option Value} {a : Nat} {v : Value} : am_run G d K_Sh_init (14, [l0], v :: .ref a :: st, M) = am_km G d K_Sh_init 17 [l0] st (am_pf M a 4 2 (am_fty 4 2) v) := am_run_km (x := (.putfield 15, 3, 4, 2, 2115, 0)) (by decide +kernel) rfl
theorem r_Sh_init_17 {G : Nat → Value} {d : Nat} {M : am_M} {l0 : Option Value} : am_run G d K_Sh_init (17, [l0], [], M) = some (none, M) := am_run_ret (x := (.return_, 1, 0, 0, 0, 0)) (by decide +kernel) rfl
theorem r_H_stuff_0 {G : Nat → Value} {d : Nat} {st : List Value} {M : am_M} {l0 l2 : Option Value} {v : Int32} : am_run G d K_H_stuff (0, [l0, some (.int v), l2], st, M) = am_run G d K_H_stuff (1, [l0, some (.int v), l2], .int v :: st, M) := am_run_next (x := (.iload_n 1, 1, 0, 0, 0, 0)) (by decide +kernel) rfl
theorem r_H_stuff_1 {G : Nat → Value} {d : Nat} {st : List Value} {M : am_M} {l0 l1 l2 : Option Value} : am_run G d K_H_stuff (1, [l0, l1, l2], st, M) = am_run G d K_H_stuff (2, [l0, l1, l2], .int 0 :: st, M) := am_run_next (x := (.iconst 0, 1, 0, 0, 0, 0)) (by decide +kernel) rfl
theorem r_H_stuff_2 {G : Nat → Value} {d : Nat} {st : List Value} {M : am_M} {l0 l1 l2 : Option Value} : am_run G d K_H_stuff (2, [l0, l1, l2], st, M) = am_run G d K_H_stuff (4, [l0, l1, l2], .int 999999 :: st, M) := am_run_next (x := (.ldc 91, 2, 0, 0, 2183, 999999)) (by decide +kernel) rfl
theorem r_H_stuff_4 {G : Nat → Value} {d : Nat} {st : List Value} {M : am_M} {l0 l1 l2 : Option Value} {a0 : Int32} {a1 : Int32} {a2 : Int32} (h8 : am_sw st ≤ 8) : am_run G d K_H_stuff (4, [l0, l1, l2], .int a2 :: .int a1 :: .int a0 :: st, M) = am_k G d K_H_stuff 7 [l0, l1, l2] st (am_ex G d K_H_within [.int a0, .int a1, .int a2] M) := am_run_is (i := 92) (n := 3) (pl := 2184) (Bs := [.int a0, .int a1, .int a2]) (z := K_H_within) (v := 1) (by decide) (by decide) (by decide +kernel) h8 rfl (Nat.le_of_ble_eq_true rfl) rfl
theorem r_H_stuff_7 {G : Nat → Value} {d : Nat} {st : List Value} {M : am_M} {l0 l1 l2 : Option Value} {a : Int32} : am_run G d K_H_stuff (7, [l0, l1, l2], .int a :: st, M) = if a = 0 then am_run G d K_H_stuff (20, [l0, l1, l2], st, M) else am_run G d K_H_stuff (10, [l0, l1, l2], st, M) := by
  split
  · next h => exact am_run_next (x := (.ifCond .eq 13, 3, 0, 0, 0, 0)) (by decide +kernel) (am_br_t (decide_eq_true h) (by decide))
  · next h => exact am_run_next (x := (.ifCond .eq 13, 3, 0, 0, 0, 0)) (by decide +kernel) (am_br_f (decide_eq_false h) (by decide))
theorem r_H_stuff_10 {G : Nat → Value} {d : Nat} {st : List Value} {M : am_M} {l0 l1 : Option Value} {v : Int32} : am_run G d K_H_stuff (10, [l0, l1, some (.int v)], st, M) = am_run G d K_H_stuff (11, [l0, l1, some (.int v)], .int v :: st, M) := am_run_next (x := (.iload_n 2, 1, 0, 0, 0, 0)) (by decide +kernel) rfl
theorem r_H_stuff_11 {G : Nat → Value} {d : Nat} {st : List Value} {M : am_M} {l0 l1 l2 : Option Value} : am_run G d K_H_stuff (11, [l0, l1, l2], st, M) = am_run G d K_H_stuff (12, [l0, l1, l2], .int 0 :: st, M) := am_run_next (x := (.iconst 0, 1, 0, 0, 0, 0)) (by decide +kernel) rfl
theorem r_H_stuff_12 {G : Nat → Value} {d : Nat} {st : List Value} {M : am_M} {l0 l1 l2 : Option Value} : am_run G d K_H_stuff (12, [l0, l1, l2], st, M) = am_run G d K_H_stuff (14, [l0, l1, l2], .int 99 :: st, M) := am_run_next (x := (.bipush 99, 2, 0, 0, 0, 0)) (by decide +kernel) rfl
theorem r_H_stuff_14 {G : Nat → Value} {d : Nat} {st : List Value} {M : am_M} {l0 l1 l2 : Option Value} {a0 : Int32} {a1 : Int32} {a2 : Int32} (h8 : am_sw st ≤ 8) : am_run G d K_H_stuff (14, [l0, l1, l2], .int a2 :: .int a1 :: .int a0 :: st, M) = am_k G d K_H_stuff 17 [l0, l1, l2] st (am_ex G d K_H_within [.int a0, .int a1, .int a2] M) := am_run_is (i := 92) (n := 3) (pl := 2184) (Bs := [.int a0, .int a1, .int a2]) (z := K_H_within) (v := 1) (by decide) (by decide) (by decide +kernel) h8 rfl (Nat.le_of_ble_eq_true rfl) rfl
theorem r_H_stuff_17 {G : Nat → Value} {d : Nat} {st : List Value} {M : am_M} {l0 l1 l2 : Option Value} {a : Int32} : am_run G d K_H_stuff (17, [l0, l1, l2], .int a :: st, M) = if ¬ a = 0 then am_run G d K_H_stuff (23, [l0, l1, l2], st, M) else am_run G d K_H_stuff (20, [l0, l1, l2], st, M) := by
  split
  · next h => exact am_run_next (x := (.ifCond .ne 6, 3, 0, 0, 0, 0)) (by decide +kernel) (am_br_t (decide_eq_true h) (by decide))
  · next h => exact am_run_next (x := (.ifCond .ne 6, 3, 0, 0, 0, 0)) (by decide +kernel) (am_br_f (decide_eq_false h) (by decide))
theorem r_H_stuff_20 {G : Nat → Value} {d : Nat} {st : List Value} {M : am_M} {l0 l1 l2 : Option Value} : am_run G d K_H_stuff (20, [l0, l1, l2], st, M) = am_run G d K_H_stuff (22, [l0, l1, l2], .int (-2) :: st, M) := am_run_next (x := (.bipush (-2), 2, 0, 0, 0, 0)) (by decide +kernel) rfl
theorem r_H_stuff_22 {G : Nat → Value} {d : Nat} {M : am_M} {l0 l1 l2 : Option Value} {a : Int32} : am_run G d K_H_stuff (22, [l0, l1, l2], [.int a], M) = some (some (.int a), M) := am_run_ret (x := (.ireturn, 1, 0, 0, 0, 0)) (by decide +kernel) rfl
theorem r_H_stuff_23 {G : Nat → Value} {d : Nat} {st : List Value} {M : am_M} {l1 l2 : Option Value} {v : Value} (hv : am_isr v = true) : am_run G d K_H_stuff (23, [some v, l1, l2], st, M) = am_run G d K_H_stuff (24, [some v, l1, l2], v :: st, M) := by
  rcases am_isr_cases hv with ⟨q, rfl⟩ | rfl
  · exact am_run_next (x := (.aload_n 0, 1, 0, 0, 0, 0)) (by decide +kernel) rfl
  · exact am_run_next (x := (.aload_n 0, 1, 0, 0, 0, 0)) (by decide +kernel) rfl
theorem r_H_stuff_24 {G : Nat → Value} {d : Nat} {st : List Value} {M : am_M} {l0 l1 l2 : Option Value} {a : Nat} : am_run G d K_H_stuff (24, [l0, l1, l2], .ref a :: st, M) = am_kf G d K_H_stuff 27 [l0, l1, l2] st M (am_fld M a 9 5) := am_run_kf (x := (.getfield 96, 3, 9, 5, 2129, 0)) (by decide +kernel) rfl
theorem r_H_stuff_27 {G : Nat → Value} {d : Nat} {st : List Value} {M : am_M} {l1 l2 : Option Value} {v : Value} (hv : am_isr v = true) : am_run G d K_H_stuff (27, [some v, l1, l2], st, M) = am_run G d K_H_stuff (28, [some v, l1, l2], v :: st, M) := by
  rcases am_isr_cases hv with ⟨q, rfl⟩ | rfl
  · exact am_run_next (x := (.aload_n 0, 1, 0, 0, 0, 0)) (by decide +kernel) rfl
  · exact am_run_next (x := (.aload_n 0, 1, 0, 0, 0, 0)) (by decide +kernel) rfl
theorem r_H_stuff_28 {G : Nat → Value} {d : Nat} {st : List Value} {M : am_M} {l0 l1 l2 : Option Value} {a : Nat} : am_run G d K_H_stuff (28, [l0, l1, l2], .ref a :: st, M) = am_kf G d K_H_stuff 31 [l0, l1, l2] st M (am_fld M a 9 0) := am_run_kf (x := (.getfield 11, 3, 9, 0, 2124, 0)) (by decide +kernel) rfl
theorem r_H_stuff_31 {G : Nat → Value} {d : Nat} {st : List Value} {M : am_M} {l0 l1 l2 : Option Value} {a : Nat} : am_run G d K_H_stuff (31, [l0, l1, l2], .ref a :: st, M) = am_kn G d K_H_stuff 32 [l0, l1, l2] st M (am_len M a) := am_run_kn (x := (.arraylength, 1, 0, 0, 0, 0)) (by decide +kernel) rfl
theorem r_H_stuff_32 {G : Nat → Value} {d : Nat} {st : List Value} {M : am_M} {l0 l1 l2 : Option Value} {a b : Int32} : am_run G d K_H_stuff (32, [l0, l1, l2], .int b :: .int a :: st, M) = if a < b then am_run G d K_H_stuff (38, [l0, l1, l2], st, M) else am_run G d K_H_stuff (35, [l0, l1, l2], st, M) := by
  split
  · next h => exact am_run_next (x := (.if_icmp .lt 6, 3, 0, 0, 0, 0)) (by decide +kernel) (am_br_t (decide_eq_true h) (by decide))
  · next h => exact am_run_next (x := (.if_icmp .lt 6, 3, 0, 0, 0, 0)) (by decide +kernel) (am_br_f (decide_eq_false h) (by decide))
theorem r_H_stuff_35 {G : Nat → Value} {d : Nat} {st : List Value} {M : am_M} {l0 l1 l2 : Option Value} : am_run G d K_H_stuff (35, [l0, l1, l2], st, M) = am_run G d K_H_stuff (37, [l0, l1, l2], .int (-4) :: st, M) := am_run_next (x := (.bipush (-4), 2, 0, 0, 0, 0)) (by decide +kernel) rfl
theorem r_H_stuff_37 {G : Nat → Value} {d : Nat} {M : am_M} {l0 l1 l2 : Option Value} {a : Int32} : am_run G d K_H_stuff (37, [l0, l1, l2], [.int a], M) = some (some (.int a), M) := am_run_ret (x := (.ireturn, 1, 0, 0, 0, 0)) (by decide +kernel) rfl
theorem r_H_stuff_38 {G : Nat → Value} {d : Nat} {st : List Value} {M : am_M} {l1 l2 : Option Value} {v : Value} (hv : am_isr v = true) : am_run G d K_H_stuff (38, [some v, l1, l2], st, M) = am_run G d K_H_stuff (39, [some v, l1, l2], v :: st, M) := by
  rcases am_isr_cases hv with ⟨q, rfl⟩ | rfl
  · exact am_run_next (x := (.aload_n 0, 1, 0, 0, 0, 0)) (by decide +kernel) rfl
  · exact am_run_next (x := (.aload_n 0, 1, 0, 0, 0, 0)) (by decide +kernel) rfl
theorem r_H_stuff_39 {G : Nat → Value} {d : Nat} {st : List Value} {M : am_M} {l0 l1 l2 : Option Value} {a : Nat} : am_run G d K_H_stuff (39, [l0, l1, l2], .ref a :: st, M) = am_kf G d K_H_stuff 42 [l0, l1, l2] st M (am_fld M a 9 0) := am_run_kf (x := (.getfield 11, 3, 9, 0, 2124, 0)) (by decide +kernel) rfl
theorem r_H_stuff_42 {G : Nat → Value} {d : Nat} {st : List Value} {M : am_M} {l1 l2 : Option Value} {v : Value} (hv : am_isr v = true) : am_run G d K_H_stuff (42, [some v, l1, l2], st, M) = am_run G d K_H_stuff (43, [some v, l1, l2], v :: st, M) := by
  rcases am_isr_cases hv with ⟨q, rfl⟩ | rfl
  · exact am_run_next (x := (.aload_n 0, 1, 0, 0, 0, 0)) (by decide +kernel) rfl
  · exact am_run_next (x := (.aload_n 0, 1, 0, 0, 0, 0)) (by decide +kernel) rfl
theorem r_H_stuff_43 {G : Nat → Value} {d : Nat} {st : List Value} {M : am_M} {l0 l1 l2 : Option Value} {a : Nat} : am_run G d K_H_stuff (43, [l0, l1, l2], .ref a :: st, M) = am_kf G d K_H_stuff 46 [l0, l1, l2] st M (am_fld M a 9 5) := am_run_kf (x := (.getfield 96, 3, 9, 5, 2129, 0)) (by decide +kernel) rfl
theorem r_H_stuff_46 {G : Nat → Value} {d : Nat} {st : List Value} {M : am_M} {l0 l1 l2 : Option Value} : am_run G d K_H_stuff (46, [l0, l1, l2], st, M) = am_run G d K_H_stuff (49, [l0, l1, l2], .ref M.1 :: st, am_add M (.inr (6, [.int 0, .int 0]))) := am_run_next (x := (.new 9, 3, 6, 0, 1029, 0)) (by decide +kernel) rfl
theorem r_H_stuff_49 {G : Nat → Value} {d : Nat} {st : List Value} {M : am_M} {l0 l1 l2 : Option Value} {v : Value} (hv : v.category = 1) : am_run G d K_H_stuff (49, [l0, l1, l2], v :: st, M) = am_run G d K_H_stuff (50, [l0, l1, l2], v :: v :: st, M) := am_run_next (x := (.dup, 1, 0, 0, 0, 0)) (by decide +kernel) (if_pos hv)
theorem r_H_stuff_50 {G : Nat → Value} {d : Nat} {st : List Value} {M : am_M} {l0 l2 : Option Value} {v : Int32} : am_run G d K_H_stuff (50, [l0, some (.int v), l2], st, M) = am_run G d K_H_stuff (51, [l0, some (.int v), l2], .int v :: st, M) := am_run_next (x := (.iload_n 1, 1, 0, 0, 0, 0)) (by decide +kernel) rfl
theorem r_H_stuff_51 {G : Nat → Value} {d : Nat} {st : List Value} {M : am_M} {l0 l1 : Option Value} {v : Int32} : am_run G d K_H_stuff (51, [l0, l1, some (.int v)], st, M) = am_run G d K_H_stuff (52, [l0, l1, some (.int v)], .int v :: st, M) := am_run_next (x := (.iload_n 2, 1, 0, 0, 0, 0)) (by decide +kernel) rfl
theorem r_H_stuff_52 {G : Nat → Value} {d : Nat} {st : List Value} {M : am_M} {l0 l1 l2 : Option Value} {q : Nat} {a0 : Int32} {a1 : Int32} (h8 : am_sw st ≤ 8) : am_run G d K_H_stuff (52, [l0, l1, l2], .int a1 :: .int a0 :: .ref q :: st, M) = am_k G d K_H_stuff 55 [l0, l1, l2] st (am_ex G d K_Su_init [.ref q, .int a0, .int a1] M) := am_run_ip (i := 99) (n := 2) (pl := 2188) (Bs := [.int a0, .int a1]) (z := K_Su_init) (v := 2) (by decide) (by decide +kernel) h8 rfl (Nat.le_of_ble_eq_true rfl) rfl
theorem r_H_stuff_55 {G : Nat → Value} {d : Nat} {st : List Value} {M : am_M} {l0 l1 l2 : Option Value} {a v : Nat} {i : Int32} : am_run G d K_H_stuff (55, [l0, l1, l2], .ref v :: .int i :: .ref a :: st, M) = am_km G d K_H_stuff 56 [l0, l1, l2] st (am_pr M a i v) := am_run_km (x := (.aastore, 1, 0, 0, 0, 0)) (by decide +kernel) rfl
theorem r_H_stuff_56 {G : Nat → Value} {d : Nat} {st : List Value} {M : am_M} {l1 l2 : Option Value} {v : Value} (hv : am_isr v = true) : am_run G d K_H_stuff (56, [some v, l1, l2], st, M) = am_run G d K_H_stuff (57, [some v, l1, l2], v :: st, M) := by
  rcases am_isr_cases hv with ⟨q, rfl⟩ | rfl
  · exact am_run_next (x := (.aload_n 0, 1, 0, 0, 0, 0)) (by decide +kernel) rfl
  · exact am_run_next (x := (.aload_n 0, 1, 0, 0, 0, 0)) (by decide +kernel) rfl
theorem r_H_stuff_57 {G : Nat → Value} {d : Nat} {st : List Value} {M : am_M} {l0 l1 l2 : Option Value} {v : Value} (hv : v.category = 1) : am_run G d K_H_stuff (57, [l0, l1, l2], v :: st, M) = am_run G d K_H_stuff (58, [l0, l1, l2], v :: v :: st, M) := am_run_next (x := (.dup, 1, 0, 0, 0, 0)) (by decide +kernel) (if_pos hv)
theorem r_H_stuff_58 {G : Nat → Value} {d : Nat} {st : List Value} {M : am_M} {l0 l1 l2 : Option Value} {a : Nat} : am_run G d K_H_stuff (58, [l0, l1, l2], .ref a :: st, M) = am_kf G d K_H_stuff 61 [l0, l1, l2] st M (am_fld M a 9 5) := am_run_kf (x := (.getfield 96, 3, 9, 5, 2129, 0)) (by decide +kernel) rfl
theorem r_H_stuff_61 {G : Nat → Value} {d : Nat} {st : List Value} {M : am_M} {l0 l1 l2 : Option Value} {v w : Value} (hv : v.category = 1) (hw : w.category = 1) : am_run G d K_H_stuff (61, [l0, l1, l2], v :: w :: st, M) = am_run G d K_H_stuff (62, [l0, l1, l2], v :: w :: v :: st, M) := am_run_next (x := (.dup_x1, 1, 0, 0, 0, 0)) (by decide +kernel) (if_pos ⟨hv, hw⟩)
theorem r_H_stuff_62 {G : Nat → Value} {d : Nat} {st : List Value} {M : am_M} {l0 l1 l2 : Option Value} : am_run G d K_H_stuff (62, [l0, l1, l2], st, M) = am_run G d K_H_stuff (63, [l0, l1, l2], .int 1 :: st, M) := am_run_next (x := (.iconst 1, 1, 0, 0, 0, 0)) (by decide +kernel) rfl
theorem r_H_stuff_63 {G : Nat → Value} {d : Nat} {st : List Value} {M : am_M} {l0 l1 l2 : Option Value} {a b : Int32} : am_run G d K_H_stuff (63, [l0, l1, l2], .int b :: .int a :: st, M) = am_run G d K_H_stuff (64, [l0, l1, l2], .int (a + b) :: st, M) := am_run_next (x := (.iadd, 1, 0, 0, 0, 0)) (by decide +kernel) rfl
theorem r_H_stuff_64 {G : Nat → Value} {d : Nat} {st : List Value} {M : am_M} {l0 l1 l2 : Option Value} {a : Nat} {v : Value} : am_run G d K_H_stuff (64, [l0, l1, l2], v :: .ref a :: st, M) = am_km G d K_H_stuff 67 [l0, l1, l2] st (am_pf M a 9 5 .int v) := am_run_km (x := (.putfield 96, 3, 9, 5, 2129, 0)) (by decide +kernel) rfl
theorem r_H_stuff_67 {G : Nat → Value} {d : Nat} {M : am_M} {l0 l1 l2 : Option Value} {a : Int32} : am_run G d K_H_stuff (67, [l0, l1, l2], [.int a], M) = some (some (.int a), M) := am_run_ret (x := (.ireturn, 1, 0, 0, 0, 0)) (by decide +kernel) rfl
theorem r_H_within_0 {G : Nat → Value} {d : Nat} {st : List Value} {M : am_M} {l1 l2 : Option Value} {v : Int32} : am_run G d K_H_within (0, [some (.int v), l1, l2], st, M) = am_run G d K_H_within (1, [some (.int v), l1, l2], .int v :: st, M) := am_run_next (x := (.iload_n 0, 1, 0, 0, 0, 0)) (by decide +kernel) rfl
theorem r_H_within_1 {G : Nat → Value} {d : Nat} {st : List Value} {M : am_M} {l0 l2 : Option Value} {v : Int32} : am_run G d K_H_within (1, [l0, some (.int v), l2], st, M) = am_run G d K_H_within (2, [l0, some (.int v), l2], .int v :: st, M) := am_run_next (x := (.iload_n 1, 1, 0, 0, 0, 0)) (by decide +kernel) rfl
theorem r_H_within_2 {G : Nat → Value} {d : Nat} {st : List Value} {M : am_M} {l0 l1 l2 : Option Value} {a b : Int32} : am_run G d K_H_within (2, [l0, l1, l2], .int b :: .int a :: st, M) = if a < b then am_run G d K_H_within (14, [l0, l1, l2], st, M) else am_run G d K_H_within (5, [l0, l1, l2], st, M) := by
  split
  · next h => exact am_run_next (x := (.if_icmp .lt 12, 3, 0, 0, 0, 0)) (by decide +kernel) (am_br_t (decide_eq_true h) (by decide))
  · next h => exact am_run_next (x := (.if_icmp .lt 12, 3, 0, 0, 0, 0)) (by decide +kernel) (am_br_f (decide_eq_false h) (by decide))
theorem r_H_within_5 {G : Nat → Value} {d : Nat} {st : List Value} {M : am_M} {l1 l2 : Option Value} {v : Int32} : am_run G d K_H_within (5, [some (.int v), l1, l2], st, M) = am_run G d K_H_within (6, [some (.int v), l1, l2], .int v :: st, M) := am_run_next (x := (.iload_n 0, 1, 0, 0, 0, 0)) (by decide +kernel) rfl
theorem r_H_within_6 {G : Nat → Value} {d : Nat} {st : List Value} {M : am_M} {l0 l1 : Option Value} {v : Int32} : am_run G d K_H_within (6, [l0, l1, some (.int v)], st, M) = am_run G d K_H_within (7, [l0, l1, some (.int v)], .int v :: st, M) := am_run_next (x := (.iload_n 2, 1, 0, 0, 0, 0)) (by decide +kernel) rfl
theorem r_H_within_7 {G : Nat → Value} {d : Nat} {st : List Value} {M : am_M} {l0 l1 l2 : Option Value} {a b : Int32} : am_run G d K_H_within (7, [l0, l1, l2], .int b :: .int a :: st, M) = if b < a then am_run G d K_H_within (14, [l0, l1, l2], st, M) else am_run G d K_H_within (10, [l0, l1, l2], st, M) := by
  split
  · next h => exact am_run_next (x := (.if_icmp .gt 7, 3, 0, 0, 0, 0)) (by decide +kernel) (am_br_t (decide_eq_true h) (by decide))
  · next h => exact am_run_next (x := (.if_icmp .gt 7, 3, 0, 0, 0, 0)) (by decide +kernel) (am_br_f (decide_eq_false h) (by decide))
theorem r_H_within_10 {G : Nat → Value} {d : Nat} {st : List Value} {M : am_M} {l0 l1 l2 : Option Value} : am_run G d K_H_within (10, [l0, l1, l2], st, M) = am_run G d K_H_within (11, [l0, l1, l2], .int 1 :: st, M) := am_run_next (x := (.iconst 1, 1, 0, 0, 0, 0)) (by decide +kernel) rfl
theorem r_H_within_11 {G : Nat → Value} {d : Nat} {st : List Value} {M : am_M} {l0 l1 l2 : Option Value} : am_run G d K_H_within (11, [l0, l1, l2], st, M) = am_run G d K_H_within (15, [l0, l1, l2], st, M) := am_run_next (x := (.goto 4, 3, 0, 0, 0, 0)) (by decide +kernel) rfl
theorem r_H_within_14 {G : Nat → Value} {d : Nat} {st : List Value} {M : am_M} {l0 l1 l2 : Option Value} : am_run G d K_H_within (14, [l0, l1, l2], st, M) = am_run G d K_H_within (15, [l0, l1, l2], .int 0 :: st, M) := am_run_next (x := (.iconst 0, 1, 0, 0, 0, 0)) (by decide +kernel) rfl
theorem r_H_within_15 {G : Nat → Value} {d : Nat} {M : am_M} {l0 l1 l2 : Option Value} {a : Int32} (ha : a = 0 ∨ a = 1) : am_run G d K_H_within (15, [l0, l1, l2], [.int a], M) = some (some (.int a), M) := am_run_ret (x := (.ireturn, 1, 0, 0, 0, 0)) (by decide +kernel) (if_pos (decide_eq_true ha))
theorem r_Su_init_0 {G : Nat → Value} {d : Nat} {st : List Value} {M : am_M} {l1 l2 : Option Value} {v : Value} (hv : am_isr v = true) : am_run G d K_Su_init (0, [some v, l1, l2], st, M) = am_run G d K_Su_init (1, [some v, l1, l2], v :: st, M) := by
  rcases am_isr_cases hv with ⟨q, rfl⟩ | rfl
  · exact am_run_next (x := (.aload_n 0, 1, 0, 0, 0, 0)) (by decide +kernel) rfl
  · exact am_run_next (x := (.aload_n 0, 1, 0, 0, 0, 0)) (by decide +kernel) rfl
theorem r_Su_init_1 {G : Nat → Value} {d : Nat} {st : List Value} {M : am_M} {l0 l1 l2 : Option Value} {a : Nat} (h8 : am_sw st ≤ 8) : am_run G d K_Su_init (1, [l0, l1, l2], .ref a :: st, M) = am_run G d K_Su_init (4, [l0, l1, l2], st, M) := am_run_next (x := (.invokespecial 1, 3, 0, 0, 2191, 5)) (by decide +kernel) (if_pos h8)
theorem r_Su_init_4 {G : Nat → Value} {d : Nat} {st : List Value} {M : am_M} {l1 l2 : Option Value} {v : Value} (hv : am_isr v = true) : am_run G d K_Su_init (4, [some v, l1, l2], st, M) = am_run G d K_Su_init (5, [some v, l1, l2], v :: st, M) := by
  rcases am_isr_cases hv with ⟨q, rfl⟩ | rfl
  · exact am_run_next (x := (.aload_n 0, 1, 0, 0, 0, 0)) (by decide +kernel) rfl
  · exact am_run_next (x := (.aload_n 0, 1, 0, 0, 0, 0)) (by decide +kernel) rfl
theorem r_Su_init_5 {G : Nat → Value} {d : Nat} {st : List Value} {M : am_M} {l0 l2 : Option Value} {v : Int32} : am_run G d K_Su_init (5, [l0, some (.int v), l2], st, M) = am_run G d K_Su_init (6, [l0, some (.int v), l2], .int v :: st, M) := am_run_next (x := (.iload_n 1, 1, 0, 0, 0, 0)) (by decide +kernel) rfl
theorem r_Su_init_6 {G : Nat → Value} {d : Nat} {st : List Value} {M : am_M} {l0 l1 l2 : Option Value} {a : Nat} {v : Value} : am_run G d K_Su_init (6, [l0, l1, l2], v :: .ref a :: st, M) = am_km G d K_Su_init 9 [l0, l1, l2] st (am_pf M a 6 0 .int v) := am_run_km (x := (.putfield 7, 3, 6, 0, 2192, 0)) (by decide +kernel) rfl
theorem r_Su_init_9 {G : Nat → Value} {d : Nat} {st : List Value} {M : am_M} {l1 l2 : Option Value} {v : Value} (hv : am_isr v = true) : am_run G d K_Su_init (9, [some v, l1, l2], st, M) = am_run G d K_Su_init (10, [some v, l1, l2], v :: st, M) := by
  rcases am_isr_cases hv with ⟨q, rfl⟩ | rfl
  · exact am_run_next (x := (.aload_n 0, 1, 0, 0, 0, 0)) (by decide +kernel) rfl
  · exact am_run_next (x := (.aload_n 0, 1, 0, 0, 0, 0)) (by decide +kernel) rfl
theorem r_Su_init_10 {G : Nat → Value} {d : Nat} {st : List Value} {M : am_M} {l0 l1 : Option Value} {v : Int32} : am_run G d K_Su_init (10, [l0, l1, some (.int v)], st, M) = am_run G d K_Su_init (11, [l0, l1, some (.int v)], .int v :: st, M) := am_run_next (x := (.iload_n 2, 1, 0, 0, 0, 0)) (by decide +kernel) rfl
theorem r_Su_init_11 {G : Nat → Value} {d : Nat} {st : List Value} {M : am_M} {l0 l1 l2 : Option Value} {a : Nat} {v : Value} : am_run G d K_Su_init (11, [l0, l1, l2], v :: .ref a :: st, M) = am_km G d K_Su_init 14 [l0, l1, l2] st (am_pf M a 6 1 .int v) := am_run_km (x := (.putfield 13, 3, 6, 1, 2193, 0)) (by decide +kernel) rfl
theorem r_Su_init_14 {G : Nat → Value} {d : Nat} {M : am_M} {l0 l1 l2 : Option Value} : am_run G d K_Su_init (14, [l0, l1, l2], [], M) = some (none, M) := am_run_ret (x := (.return_, 1, 0, 0, 0, 0)) (by decide +kernel) rfl
theorem r_H_hall_0 {G : Nat → Value} {d : Nat} {st : List Value} {M : am_M} {l0 l2 l3 : Option Value} {v : Int32} : am_run G d K_H_hall (0, [l0, some (.int v), l2, l3], st, M) = am_run G d K_H_hall (1, [l0, some (.int v), l2, l3], .int v :: st, M) := am_run_next (x := (.iload_n 1, 1, 0, 0, 0, 0)) (by decide +kernel) rfl
theorem r_H_hall_1 {G : Nat → Value} {d : Nat} {st : List Value} {M : am_M} {l0 l1 l2 l3 : Option Value} : am_run G d K_H_hall (1, [l0, l1, l2, l3], st, M) = am_run G d K_H_hall (2, [l0, l1, l2, l3], .int 1 :: st, M) := am_run_next (x := (.iconst 1, 1, 0, 0, 0, 0)) (by decide +kernel) rfl
theorem r_H_hall_2 {G : Nat → Value} {d : Nat} {st : List Value} {M : am_M} {l0 l1 l2 l3 : Option Value} : am_run G d K_H_hall (2, [l0, l1, l2, l3], st, M) = am_run G d K_H_hall (4, [l0, l1, l2, l3], .int 99999 :: st, M) := am_run_next (x := (.ldc 102, 2, 0, 0, 2204, 99999)) (by decide +kernel) rfl
theorem r_H_hall_4 {G : Nat → Value} {d : Nat} {st : List Value} {M : am_M} {l0 l1 l2 l3 : Option Value} {a0 : Int32} {a1 : Int32} {a2 : Int32} (h8 : am_sw st ≤ 8) : am_run G d K_H_hall (4, [l0, l1, l2, l3], .int a2 :: .int a1 :: .int a0 :: st, M) = am_k G d K_H_hall 7 [l0, l1, l2, l3] st (am_ex G d K_H_within [.int a0, .int a1, .int a2] M) := am_run_is (i := 92) (n := 3) (pl := 2184) (Bs := [.int a0, .int a1, .int a2]) (z := K_H_within) (v := 1) (by decide) (by decide) (by decide +kernel) h8 rfl (Nat.le_of_ble_eq_true rfl) rfl
theorem r_H_hall_7 {G : Nat → Value} {d : Nat} {st : List Value} {M : am_M} {l0 l1 l2 l3 : Option Value} {a : Int32} : am_run G d K_H_hall (7, [l0, l1, l2, l3], .int a :: st, M) = if a = 0 then am_run G d K_H_hall (30, [l0, l1, l2, l3], st, M) else am_run G d K_H_hall (10, [l0, l1, l2, l3], st, M) := by
  split
  · next h => exact am_run_next (x := (.ifCond .eq 23, 3, 0, 0, 0, 0)) (by decide +kernel) (am_br_t (decide_eq_true h) (by decide))
  · next h => exact am_run_next (x := (.ifCond .eq 23, 3, 0, 0, 0, 0)) (by decide +kernel) (am_br_f (decide_eq_false h) (by decide))
theorem r_H_hall_10 {G : Nat → Value} {d : Nat} {st : List Value} {M : am_M} {l0 l1 l3 : Option Value} {v : Int32} : am_run G d K_H_hall (10, [l0, l1, some (.int v), l3], st, M) = am_run G d K_H_hall (11, [l0, l1, some (.int v), l3], .int v :: st, M) := am_run_next (x := (.iload_n 2, 1, 0, 0, 0, 0)) (by decide +kernel) rfl
theorem r_H_hall_11 {G : Nat → Value} {d : Nat} {st : List Value} {M : am_M} {l0 l1 l2 l3 : Option Value} : am_run G d K_H_hall (11, [l0, l1, l2, l3], st, M) = am_run G d K_H_hall (12, [l0, l1, l2, l3], .int 2 :: st, M) := am_run_next (x := (.iconst 2, 1, 0, 0, 0, 0)) (by decide +kernel) rfl
theorem r_H_hall_12 {G : Nat → Value} {d : Nat} {st : List Value} {M : am_M} {l0 l1 l2 l3 : Option Value} : am_run G d K_H_hall (12, [l0, l1, l2, l3], st, M) = am_run G d K_H_hall (14, [l0, l1, l2, l3], .int 20 :: st, M) := am_run_next (x := (.bipush 20, 2, 0, 0, 0, 0)) (by decide +kernel) rfl
theorem r_H_hall_14 {G : Nat → Value} {d : Nat} {st : List Value} {M : am_M} {l0 l1 l2 l3 : Option Value} {a0 : Int32} {a1 : Int32} {a2 : Int32} (h8 : am_sw st ≤ 8) : am_run G d K_H_hall (14, [l0, l1, l2, l3], .int a2 :: .int a1 :: .int a0 :: st, M) = am_k G d K_H_hall 17 [l0, l1, l2, l3] st (am_ex G d K_H_within [.int a0, .int a1, .int a2] M) := am_run_is (i := 92) (n := 3) (pl := 2184) (Bs := [.int a0, .int a1, .int a2]) (z := K_H_within) (v := 1) (by decide) (by decide) (by decide +kernel) h8 rfl (Nat.le_of_ble_eq_true rfl) rfl
theorem r_H_hall_17 {G : Nat → Value} {d : Nat} {st : List Value} {M : am_M} {l0 l1 l2 l3 : Option Value} {a : Int32} : am_run G d K_H_hall (17, [l0, l1, l2, l3], .int a :: st, M) = if a = 0 then am_run G d K_H_hall (30, [l0, l1, l2, l3], st, M) else am_run G d K_H_hall (20, [l0, l1, l2, l3], st, M) := by
  split
  · next h => exact am_run_next (x := (.ifCond .eq 13, 3, 0, 0, 0, 0)) (by decide +kernel) (am_br_t (decide_eq_true h) (by decide))
  · next h => exact am_run_next (x := (.ifCond .eq 13, 3, 0, 0, 0, 0)) (by decide +kernel) (am_br_f (decide_eq_false h) (by decide))
theorem r_H_hall_20 {G : Nat → Value} {d : Nat} {st : List Value} {M : am_M} {l0 l1 l2 : Option Value} {v : Int32} : am_run G d K_H_hall (20, [l0, l1, l2, some (.int v)], st, M) = am_run G d K_H_hall (21, [l0, l1, l2, some (.int v)], .int v :: st, M) := am_run_next (x := (.iload_n 3, 1, 0, 0, 0, 0)) (by decide +kernel) rfl
theorem r_H_hall_21 {G : Nat → Value} {d : Nat} {st : List Value} {M : am_M} {l0 l1 l2 l3 : Option Value} : am_run G d K_H_hall (21, [l0, l1, l2, l3], st, M) = am_run G d K_H_hall (22, [l0, l1, l2, l3], .int 2 :: st, M) := am_run_next (x := (.iconst 2, 1, 0, 0, 0, 0)) (by decide +kernel) rfl
theorem r_H_hall_22 {G : Nat → Value} {d : Nat} {st : List Value} {M : am_M} {l0 l1 l2 l3 : Option Value} : am_run G d K_H_hall (22, [l0, l1, l2, l3], st, M) = am_run G d K_H_hall (24, [l0, l1, l2, l3], .int 20 :: st, M) := am_run_next (x := (.bipush 20, 2, 0, 0, 0, 0)) (by decide +kernel) rfl
theorem r_H_hall_24 {G : Nat → Value} {d : Nat} {st : List Value} {M : am_M} {l0 l1 l2 l3 : Option Value} {a0 : Int32} {a1 : Int32} {a2 : Int32} (h8 : am_sw st ≤ 8) : am_run G d K_H_hall (24, [l0, l1, l2, l3], .int a2 :: .int a1 :: .int a0 :: st, M) = am_k G d K_H_hall 27 [l0, l1, l2, l3] st (am_ex G d K_H_within [.int a0, .int a1, .int a2] M) := am_run_is (i := 92) (n := 3) (pl := 2184) (Bs := [.int a0, .int a1, .int a2]) (z := K_H_within) (v := 1) (by decide) (by decide) (by decide +kernel) h8 rfl (Nat.le_of_ble_eq_true rfl) rfl
theorem r_H_hall_27 {G : Nat → Value} {d : Nat} {st : List Value} {M : am_M} {l0 l1 l2 l3 : Option Value} {a : Int32} : am_run G d K_H_hall (27, [l0, l1, l2, l3], .int a :: st, M) = if ¬ a = 0 then am_run G d K_H_hall (33, [l0, l1, l2, l3], st, M) else am_run G d K_H_hall (30, [l0, l1, l2, l3], st, M) := by
  split
  · next h => exact am_run_next (x := (.ifCond .ne 6, 3, 0, 0, 0, 0)) (by decide +kernel) (am_br_t (decide_eq_true h) (by decide))
  · next h => exact am_run_next (x := (.ifCond .ne 6, 3, 0, 0, 0, 0)) (by decide +kernel) (am_br_f (decide_eq_false h) (by decide))
theorem r_H_hall_30 {G : Nat → Value} {d : Nat} {st : List Value} {M : am_M} {l0 l1 l2 l3 : Option Value} : am_run G d K_H_hall (30, [l0, l1, l2, l3], st, M) = am_run G d K_H_hall (32, [l0, l1, l2, l3], .int (-2) :: st, M) := am_run_next (x := (.bipush (-2), 2, 0, 0, 0, 0)) (by decide +kernel) rfl
theorem r_H_hall_32 {G : Nat → Value} {d : Nat} {M : am_M} {l0 l1 l2 l3 : Option Value} {a : Int32} : am_run G d K_H_hall (32, [l0, l1, l2, l3], [.int a], M) = some (some (.int a), M) := am_run_ret (x := (.ireturn, 1, 0, 0, 0, 0)) (by decide +kernel) rfl
theorem r_H_hall_33 {G : Nat → Value} {d : Nat} {st : List Value} {M : am_M} {l1 l2 l3 : Option Value} {v : Value} (hv : am_isr v = true) : am_run G d K_H_hall (33, [some v, l1, l2, l3], st, M) = am_run G d K_H_hall (34, [some v, l1, l2, l3], v :: st, M) := by
  rcases am_isr_cases hv with ⟨q, rfl⟩ | rfl
  · exact am_run_next (x := (.aload_n 0, 1, 0, 0, 0, 0)) (by decide +kernel) rfl
  · exact am_run_next (x := (.aload_n 0, 1, 0, 0, 0, 0)) (by decide +kernel) rfl
theorem r_H_hall_34 {G : Nat → Value} {d : Nat} {st : List Value} {M : am_M} {l0 l1 l2 l3 : Option Value} {a : Nat} : am_run G d K_H_hall (34, [l0, l1, l2, l3], .ref a :: st, M) = am_kf G d K_H_hall 37 [l0, l1, l2, l3] st M (am_fld M a 9 6) := am_run_kf (x := (.getfield 103, 3, 9, 6, 2130, 0)) (by decide +kernel) rfl
theorem r_H_hall_37 {G : Nat → Value} {d : Nat} {st : List Value} {M : am_M} {l1 l2 l3 : Option Value} {v : Value} (hv : am_isr v = true) : am_run G d K_H_hall (37, [some v, l1, l2, l3], st, M) = am_run G d K_H_hall (38, [some v, l1, l2, l3], v :: st, M) := by
  rcases am_isr_cases hv with ⟨q, rfl⟩ | rfl
  · exact am_run_next (x := (.aload_n 0, 1, 0, 0, 0, 0)) (by decide +kernel) rfl
  · exact am_run_next (x := (.aload_n 0, 1, 0, 0, 0, 0)) (by decide +kernel) rfl
theorem r_H_hall_38 {G : Nat → Value} {d : Nat} {st : List Value} {M : am_M} {l0 l1 l2 l3 : Option Value} {a : Nat} : am_run G d K_H_hall (38, [l0, l1, l2, l3], .ref a :: st, M) = am_kf G d K_H_hall 41 [l0, l1, l2, l3] st M (am_fld M a 9 1) := am_run_kf (x := (.getfield 17, 3, 9, 1, 2125, 0)) (by decide +kernel) rfl
theorem r_H_hall_41 {G : Nat → Value} {d : Nat} {st : List Value} {M : am_M} {l0 l1 l2 l3 : Option Value} {a : Nat} : am_run G d K_H_hall (41, [l0, l1, l2, l3], .ref a :: st, M) = am_kn G d K_H_hall 42 [l0, l1, l2, l3] st M (am_len M a) := am_run_kn (x := (.arraylength, 1, 0, 0, 0, 0)) (by decide +kernel) rfl
theorem r_H_hall_42 {G : Nat → Value} {d : Nat} {st : List Value} {M : am_M} {l0 l1 l2 l3 : Option Value} {a b : Int32} : am_run G d K_H_hall (42, [l0, l1, l2, l3], .int b :: .int a :: st, M) = if a < b then am_run G d K_H_hall (48, [l0, l1, l2, l3], st, M) else am_run G d K_H_hall (45, [l0, l1, l2, l3], st, M) := by
  split
  · next h => exact am_run_next (x := (.if_icmp .lt 6, 3, 0, 0, 0, 0)) (by decide +kernel) (am_br_t (decide_eq_true h) (by decide))
  · next h => exact am_run_next (x := (.if_icmp .lt 6, 3, 0, 0, 0, 0)) (by decide +kernel) (am_br_f (decide_eq_false h) (by decide))
theorem r_H_hall_45 {G : Nat → Value} {d : Nat} {st : List Value} {M : am_M} {l0 l1 l2 l3 : Option Value} : am_run G d K_H_hall (45, [l0, l1, l2, l3], st, M) = am_run G d K_H_hall (47, [l0, l1, l2, l3], .int (-4) :: st, M) := am_run_next (x := (.bipush (-4), 2, 0, 0, 0, 0)) (by decide +kernel) rfl
theorem r_H_hall_47 {G : Nat → Value} {d : Nat} {M : am_M} {l0 l1 l2 l3 : Option Value} {a : Int32} : am_run G d K_H_hall (47, [l0, l1, l2, l3], [.int a], M) = some (some (.int a), M) := am_run_ret (x := (.ireturn, 1, 0, 0, 0, 0)) (by decide +kernel) rfl
theorem r_H_hall_48 {G : Nat → Value} {d : Nat} {st : List Value} {M : am_M} {l1 l2 l3 : Option Value} {v : Value} (hv : am_isr v = true) : am_run G d K_H_hall (48, [some v, l1, l2, l3], st, M) = am_run G d K_H_hall (49, [some v, l1, l2, l3], v :: st, M) := by
  rcases am_isr_cases hv with ⟨q, rfl⟩ | rfl
  · exact am_run_next (x := (.aload_n 0, 1, 0, 0, 0, 0)) (by decide +kernel) rfl
  · exact am_run_next (x := (.aload_n 0, 1, 0, 0, 0, 0)) (by decide +kernel) rfl
theorem r_H_hall_49 {G : Nat → Value} {d : Nat} {st : List Value} {M : am_M} {l0 l1 l2 l3 : Option Value} {a : Nat} : am_run G d K_H_hall (49, [l0, l1, l2, l3], .ref a :: st, M) = am_kf G d K_H_hall 52 [l0, l1, l2, l3] st M (am_fld M a 9 1) := am_run_kf (x := (.getfield 17, 3, 9, 1, 2125, 0)) (by decide +kernel) rfl
theorem r_H_hall_52 {G : Nat → Value} {d : Nat} {st : List Value} {M : am_M} {l1 l2 l3 : Option Value} {v : Value} (hv : am_isr v = true) : am_run G d K_H_hall (52, [some v, l1, l2, l3], st, M) = am_run G d K_H_hall (53, [some v, l1, l2, l3], v :: st, M) := by
  rcases am_isr_cases hv with ⟨q, rfl⟩ | rfl
  · exact am_run_next (x := (.aload_n 0, 1, 0, 0, 0, 0)) (by decide +kernel) rfl
  · exact am_run_next (x := (.aload_n 0, 1, 0, 0, 0, 0)) (by decide +kernel) rfl
theorem r_H_hall_53 {G : Nat → Value} {d : Nat} {st : List Value} {M : am_M} {l0 l1 l2 l3 : Option Value} {a : Nat} : am_run G d K_H_hall (53, [l0, l1, l2, l3], .ref a :: st, M) = am_kf G d K_H_hall 56 [l0, l1, l2, l3] st M (am_fld M a 9 6) := am_run_kf (x := (.getfield 103, 3, 9, 6, 2130, 0)) (by decide +kernel) rfl
theorem r_H_hall_56 {G : Nat → Value} {d : Nat} {st : List Value} {M : am_M} {l0 l1 l2 l3 : Option Value} : am_run G d K_H_hall (56, [l0, l1, l2, l3], st, M) = am_run G d K_H_hall (59, [l0, l1, l2, l3], .ref M.1 :: st, am_add M (.inr (2, [.int 0, .int 0, .int 0, .null, .null, .int 0, .null, .int 0]))) := am_run_next (x := (.new 15, 3, 2, 0, 1031, 0)) (by decide +kernel) rfl
theorem r_H_hall_59 {G : Nat → Value} {d : Nat} {st : List Value} {M : am_M} {l0 l1 l2 l3 : Option Value} {v : Value} (hv : v.category = 1) : am_run G d K_H_hall (59, [l0, l1, l2, l3], v :: st, M) = am_run G d K_H_hall (60, [l0, l1, l2, l3], v :: v :: st, M) := am_run_next (x := (.dup, 1, 0, 0, 0, 0)) (by decide +kernel) (if_pos hv)
theorem r_H_hall_60 {G : Nat → Value} {d : Nat} {st : List Value} {M : am_M} {l0 l2 l3 : Option Value} {v : Int32} : am_run G d K_H_hall (60, [l0, some (.int v), l2, l3], st, M) = am_run G d K_H_hall (61, [l0, some (.int v), l2, l3], .int v :: st, M) := am_run_next (x := (.iload_n 1, 1, 0, 0, 0, 0)) (by decide +kernel) rfl
theorem r_H_hall_61 {G : Nat → Value} {d : Nat} {st : List Value} {M : am_M} {l0 l1 l3 : Option Value} {v : Int32} : am_run G d K_H_hall (61, [l0, l1, some (.int v), l3], st, M) = am_run G d K_H_hall (62, [l0, l1, some (.int v), l3], .int v :: st, M) := am_run_next (x := (.iload_n 2, 1, 0, 0, 0, 0)) (by decide +kernel) rfl
theorem r_H_hall_62 {G : Nat → Value} {d : Nat} {st : List Value} {M : am_M} {l0 l1 l2 : Option Value} {v : Int32} : am_run G d K_H_hall (62, [l0, l1, l2, some (.int v)], st, M) = am_run G d K_H_hall (63, [l0, l1, l2, some (.int v)], .int v :: st, M) := am_run_next (x := (.iload_n 3, 1, 0, 0, 0, 0)) (by decide +kernel) rfl
theorem r_H_hall_63 {G : Nat → Value} {d : Nat} {st : List Value} {M : am_M} {l0 l1 l2 l3 : Option Value} {q : Nat} {a0 : Int32} {a1 : Int32} {a2 : Int32} (h8 : am_sw st ≤ 8) : am_run G d K_H_hall (63, [l0, l1, l2, l3], .int a2 :: .int a1 :: .int a0 :: .ref q :: st, M) = am_k G d K_H_hall 66 [l0, l1, l2, l3] st (am_ex G d K_Ha_init [.ref q, .int a0, .int a1, .int a2] M) := am_run_ip (i := 106) (n := 3) (pl := 2206) (Bs := [.int a0, .int a1, .int a2]) (z := K_Ha_init) (v := 2) (by decide) (by decide +kernel) h8 rfl (Nat.le_of_ble_eq_true rfl) rfl
theorem r_H_hall_66 {G : Nat → Value} {d : Nat} {st : List Value} {M : am_M} {l0 l1 l2 l3 : Option Value} {a v : Nat} {i : Int32} : am_run G d K_H_hall (66, [l0, l1, l2, l3], .ref v :: .int i :: .ref a :: st, M) = am_km G d K_H_hall 67 [l0, l1, l2, l3] st (am_pr M a i v) := am_run_km (x := (.aastore, 1, 0, 0, 0, 0)) (by decide +kernel) rfl
theorem r_H_hall_67 {G : Nat → Value} {d : Nat} {st : List Value} {M : am_M} {l1 l2 l3 : Option Value} {v : Value} (hv : am_isr v = true) : am_run G d K_H_hall (67, [some v, l1, l2, l3], st, M) = am_run G d K_H_hall (68, [some v, l1, l2, l3], v :: st, M) := by
  rcases am_isr_cases hv with ⟨q, rfl⟩ | rfl
  · exact am_run_next (x := (.aload_n 0, 1, 0, 0, 0, 0)) (by decide +kernel) rfl
  · exact am_run_next (x := (.aload_n 0, 1, 0, 0, 0, 0)) (by decide +kernel) rfl
theorem r_H_hall_68 {G : Nat → Value} {d : Nat} {st : List Value} {M : am_M} {l0 l1 l2 l3 : Option Value} {v : Value} (hv : v.category = 1) : am_run G d K_H_hall (68, [l0, l1, l2, l3], v :: st, M) = am_run G d K_H_hall (69, [l0, l1, l2, l3], v :: v :: st, M) := am_run_next (x := (.dup, 1, 0, 0, 0, 0)) (by decide +kernel) (if_pos hv)
theorem r_H_hall_69 {G : Nat → Value} {d : Nat} {st : List Value} {M : am_M} {l0 l1 l2 l3 : Option Value} {a : Nat} : am_run G d K_H_hall (69, [l0, l1, l2, l3], .ref a :: st, M) = am_kf G d K_H_hall 72 [l0, l1, l2, l3] st M (am_fld M a 9 6) := am_run_kf (x := (.getfield 103, 3, 9, 6, 2130, 0)) (by decide +kernel) rfl
theorem r_H_hall_72 {G : Nat → Value} {d : Nat} {st : List Value} {M : am_M} {l0 l1 l2 l3 : Option Value} {v w : Value} (hv : v.category = 1) (hw : w.category = 1) : am_run G d K_H_hall (72, [l0, l1, l2, l3], v :: w :: st, M) = am_run G d K_H_hall (73, [l0, l1, l2, l3], v :: w :: v :: st, M) := am_run_next (x := (.dup_x1, 1, 0, 0, 0, 0)) (by decide +kernel) (if_pos ⟨hv, hw⟩)
theorem r_H_hall_73 {G : Nat → Value} {d : Nat} {st : List Value} {M : am_M} {l0 l1 l2 l3 : Option Value} : am_run G d K_H_hall (73, [l0, l1, l2, l3], st, M) = am_run G d K_H_hall (74, [l0, l1, l2, l3], .int 1 :: st, M) := am_run_next (x := (.iconst 1, 1, 0, 0, 0, 0)) (by decide +kernel) rfl
theorem r_H_hall_74 {G : Nat → Value} {d : Nat} {st : List Value} {M : am_M} {l0 l1 l2 l3 : Option Value} {a b : Int32} : am_run G d K_H_hall (74, [l0, l1, l2, l3], .int b :: .int a :: st, M) = am_run G d K_H_hall (75, [l0, l1, l2, l3], .int (a + b) :: st, M) := am_run_next (x := (.iadd, 1, 0, 0, 0, 0)) (by decide +kernel) rfl
theorem r_H_hall_75 {G : Nat → Value} {d : Nat} {st : List Value} {M : am_M} {l0 l1 l2 l3 : Option Value} {a : Nat} {v : Value} : am_run G d K_H_hall (75, [l0, l1, l2, l3], v :: .ref a :: st, M) = am_km G d K_H_hall 78 [l0, l1, l2, l3] st (am_pf M a 9 6 .int v) := am_run_km (x := (.putfield 103, 3, 9, 6, 2130, 0)) (by decide +kernel) rfl
theorem r_H_hall_78 {G : Nat → Value} {d : Nat} {M : am_M} {l0 l1 l2 l3 : Option Value} {a : Int32} : am_run G d K_H_hall (78, [l0, l1, l2, l3], [.int a], M) = some (some (.int a), M) := am_run_ret (x := (.ireturn, 1, 0, 0, 0, 0)) (by decide +kernel) rfl
theorem r_Ha_init_0 {G : Nat → Value} {d : Nat} {st : List Value} {M : am_M} {l1 l2 l3 : Option Value} {v : Value} (hv : am_isr v = true) : am_run G d K_Ha_init (0, [some v, l1, l2, l3], st, M) = am_run G d K_Ha_init (1, [some v, l1, l2, l3], v :: st, M) := by
  rcases am_isr_cases hv with ⟨q, rfl⟩ | rfl
  · exact am_run_next (x := (.aload_n 0, 1, 0, 0, 0, 0)) (by decide +kernel) rfl
  · exact am_run_next (x := (.aload_n 0, 1, 0, 0, 0, 0)) (by decide +kernel) rfl
theorem r_Ha_init_1 {G : Nat → Value} {d : Nat} {st : List Value} {M : am_M} {l0 l1 l2 l3 : Option Value} {a : Nat} (h8 : am_sw st ≤ 8) : am_run G d K_Ha_init (1, [l0, l1, l2, l3], .ref a :: st, M) = am_run G d K_Ha_init (4, [l0, l1, l2, l3], st, M) := am_run_next (x := (.invokespecial 3, 3, 0, 0, 2209, 5)) (by decide +kernel) (if_pos h8)
theorem r_Ha_init_4 {G : Nat → Value} {d : Nat} {st : List Value} {M : am_M} {l1 l2 l3 : Option Value} {v : Value} (hv : am_isr v = true) : am_run G d K_Ha_init (4, [some v, l1, l2, l3], st, M) = am_run G d K_Ha_init (5, [some v, l1, l2, l3], v :: st, M) := by
  rcases am_isr_cases hv with ⟨q, rfl⟩ | rfl
  · exact am_run_next (x := (.aload_n 0, 1, 0, 0, 0, 0)) (by decide +kernel) rfl
  · exact am_run_next (x := (.aload_n 0, 1, 0, 0, 0, 0)) (by decide +kernel) rfl
theorem r_Ha_init_5 {G : Nat → Value} {d : Nat} {st : List Value} {M : am_M} {l0 l1 l2 l3 : Option Value} : am_run G d K_Ha_init (5, [l0, l1, l2, l3], st, M) = am_run G d K_Ha_init (7, [l0, l1, l2, l3], .int 6 :: st, M) := am_run_next (x := (.bipush 6, 2, 0, 0, 0, 0)) (by decide +kernel) rfl
theorem r_Ha_init_7 {G : Nat → Value} {d : Nat} {st : List Value} {M : am_M} {l0 l1 l2 l3 : Option Value} {n : Int32} : am_run G d K_Ha_init (7, [l0, l1, l2, l3], .int n :: st, M) = am_km G d K_Ha_init 9 [l0, l1, l2, l3] (.ref M.1 :: st) (am_newa (some (0, .inl (fun _ => 0))) n M) := am_run_km (x := (.newarray .int, 2, 0, 0, 0, 0)) (by decide +kernel) rfl
theorem r_Ha_init_9 {G : Nat → Value} {d : Nat} {st : List Value} {M : am_M} {l0 l1 l2 l3 : Option Value} {a : Nat} {v : Value} : am_run G d K_Ha_init (9, [l0, l1, l2, l3], v :: .ref a :: st, M) = am_km G d K_Ha_init 12 [l0, l1, l2, l3] st (am_pf M a 2 3 (am_fty 2 3) v) := am_run_km (x := (.putfield 9, 3, 2, 3, 2215, 0)) (by decide +kernel) rfl
theorem r_Ha_init_12 {G : Nat → Value} {d : Nat} {st : List Value} {M : am_M} {l1 l2 l3 : Option Value} {v : Value} (hv : am_isr v = true) : am_run G d K_Ha_init (12, [some v, l1, l2, l3], st, M) = am_run G d K_Ha_init (13, [some v, l1, l2, l3], v :: st, M) := by
  rcases am_isr_cases hv with ⟨q, rfl⟩ | rfl
  · exact am_run_next (x := (.aload_n 0, 1, 0, 0, 0, 0)) (by decide +kernel) rfl
  · exact am_run_next (x := (.aload_n 0, 1, 0, 0, 0, 0)) (by decide +kernel) rfl
theorem r_Ha_init_13 {G : Nat → Value} {d : Nat} {st : List Value} {M : am_M} {l0 l1 l2 l3 : Option Value} : am_run G d K_Ha_init (13, [l0, l1, l2, l3], st, M) = am_run G d K_Ha_init (15, [l0, l1, l2, l3], .int 6 :: st, M) := am_run_next (x := (.bipush 6, 2, 0, 0, 0, 0)) (by decide +kernel) rfl
theorem r_Ha_init_15 {G : Nat → Value} {d : Nat} {st : List Value} {M : am_M} {l0 l1 l2 l3 : Option Value} {n : Int32} : am_run G d K_Ha_init (15, [l0, l1, l2, l3], .int n :: st, M) = am_km G d K_Ha_init 17 [l0, l1, l2, l3] (.ref M.1 :: st) (am_newa (some (0, .inl (fun _ => 0))) n M) := am_run_km (x := (.newarray .int, 2, 0, 0, 0, 0)) (by decide +kernel) rfl
theorem r_Ha_init_17 {G : Nat → Value} {d : Nat} {st : List Value} {M : am_M} {l0 l1 l2 l3 : Option Value} {a : Nat} {v : Value} : am_run G d K_Ha_init (17, [l0, l1, l2, l3], v :: .ref a :: st, M) = am_km G d K_Ha_init 20 [l0, l1, l2, l3] st (am_pf M a 2 4 (am_fty 2 4) v) := am_run_km (x := (.putfield 15, 3, 2, 4, 2217, 0)) (by decide +kernel) rfl
theorem r_Ha_init_20 {G : Nat → Value} {d : Nat} {st : List Value} {M : am_M} {l1 l2 l3 : Option Value} {v : Value} (hv : am_isr v = true) : am_run G d K_Ha_init (20, [some v, l1, l2, l3], st, M) = am_run G d K_Ha_init (21, [some v, l1, l2, l3], v :: st, M) := by
  rcases am_isr_cases hv with ⟨q, rfl⟩ | rfl
  · exact am_run_next (x := (.aload_n 0, 1, 0, 0, 0, 0)) (by decide +kernel) rfl
  · exact am_run_next (x := (.aload_n 0, 1, 0, 0, 0, 0)) (by decide +kernel) rfl
theorem r_Ha_init_21 {G : Nat → Value} {d : Nat} {st : List Value} {M : am_M} {l0 l1 l2 l3 : Option Value} : am_run G d K_Ha_init (21, [l0, l1, l2, l3], st, M) = am_run G d K_Ha_init (23, [l0, l1, l2, l3], .int 6 :: st, M) := am_run_next (x := (.bipush 6, 2, 0, 0, 0, 0)) (by decide +kernel) rfl
theorem r_Ha_init_23 {G : Nat → Value} {d : Nat} {st : List Value} {M : am_M} {l0 l1 l2 l3 : Option Value} {n : Int32} : am_run G d K_Ha_init (23, [l0, l1, l2, l3], .int n :: st, M) = am_km G d K_Ha_init 25 [l0, l1, l2, l3] (.ref M.1 :: st) (am_newa (some (0, .inl (fun _ => 0))) n M) := am_run_km (x := (.newarray .int, 2, 0, 0, 0, 0)) (by decide +kernel) rfl
theorem r_Ha_init_25 {G : Nat → Value} {d : Nat} {st : List Value} {M : am_M} {l0 l1 l2 l3 : Option Value} {a : Nat} {v : Value} : am_run G d K_Ha_init (25, [l0, l1, l2, l3], v :: .ref a :: st, M) = am_km G d K_Ha_init 28 [l0, l1, l2, l3] st (am_pf M a 2 6 (am_fty 2 6) v) := am_run_km (x := (.putfield 18, 3, 2, 6, 2221, 0)) (by decide +kernel) rfl
theorem r_Ha_init_28 {G : Nat → Value} {d : Nat} {st : List Value} {M : am_M} {l1 l2 l3 : Option Value} {v : Value} (hv : am_isr v = true) : am_run G d K_Ha_init (28, [some v, l1, l2, l3], st, M) = am_run G d K_Ha_init (29, [some v, l1, l2, l3], v :: st, M) := by
  rcases am_isr_cases hv with ⟨q, rfl⟩ | rfl
  · exact am_run_next (x := (.aload_n 0, 1, 0, 0, 0, 0)) (by decide +kernel) rfl
  · exact am_run_next (x := (.aload_n 0, 1, 0, 0, 0, 0)) (by decide +kernel) rfl
theorem r_Ha_init_29 {G : Nat → Value} {d : Nat} {st : List Value} {M : am_M} {l0 l2 l3 : Option Value} {v : Int32} : am_run G d K_Ha_init (29, [l0, some (.int v), l2, l3], st, M) = am_run G d K_Ha_init (30, [l0, some (.int v), l2, l3], .int v :: st, M) := am_run_next (x := (.iload_n 1, 1, 0, 0, 0, 0)) (by decide +kernel) rfl
theorem r_Ha_init_30 {G : Nat → Value} {d : Nat} {st : List Value} {M : am_M} {l0 l1 l2 l3 : Option Value} {a : Nat} {v : Value} : am_run G d K_Ha_init (30, [l0, l1, l2, l3], v :: .ref a :: st, M) = am_km G d K_Ha_init 33 [l0, l1, l2, l3] st (am_pf M a 2 0 .int v) := am_run_km (x := (.putfield 21, 3, 2, 0, 2210, 0)) (by decide +kernel) rfl
theorem r_Ha_init_33 {G : Nat → Value} {d : Nat} {st : List Value} {M : am_M} {l1 l2 l3 : Option Value} {v : Value} (hv : am_isr v = true) : am_run G d K_Ha_init (33, [some v, l1, l2, l3], st, M) = am_run G d K_Ha_init (34, [some v, l1, l2, l3], v :: st, M) := by
  rcases am_isr_cases hv with ⟨q, rfl⟩ | rfl
  · exact am_run_next (x := (.aload_n 0, 1, 0, 0, 0, 0)) (by decide +kernel) rfl
  · exact am_run_next (x := (.aload_n 0, 1, 0, 0, 0, 0)) (by decide +kernel) rfl
theorem r_Ha_init_34 {G : Nat → Value} {d : Nat} {st : List Value} {M : am_M} {l0 l1 l3 : Option Value} {v : Int32} : am_run G d K_Ha_init (34, [l0, l1, some (.int v), l3], st, M) = am_run G d K_Ha_init (35, [l0, l1, some (.int v), l3], .int v :: st, M) := am_run_next (x := (.iload_n 2, 1, 0, 0, 0, 0)) (by decide +kernel) rfl
theorem r_Ha_init_35 {G : Nat → Value} {d : Nat} {st : List Value} {M : am_M} {l0 l1 l2 l3 : Option Value} {a : Nat} {v : Value} : am_run G d K_Ha_init (35, [l0, l1, l2, l3], v :: .ref a :: st, M) = am_km G d K_Ha_init 38 [l0, l1, l2, l3] st (am_pf M a 2 1 .int v) := am_run_km (x := (.putfield 25, 3, 2, 1, 2211, 0)) (by decide +kernel) rfl
theorem r_Ha_init_38 {G : Nat → Value} {d : Nat} {st : List Value} {M : am_M} {l1 l2 l3 : Option Value} {v : Value} (hv : am_isr v = true) : am_run G d K_Ha_init (38, [some v, l1, l2, l3], st, M) = am_run G d K_Ha_init (39, [some v, l1, l2, l3], v :: st, M) := by
  rcases am_isr_cases hv with ⟨q, rfl⟩ | rfl
  · exact am_run_next (x := (.aload_n 0, 1, 0, 0, 0, 0)) (by decide +kernel) rfl
  · exact am_run_next (x := (.aload_n 0, 1, 0, 0, 0, 0)) (by decide +kernel) rfl
theorem r_Ha_init_39 {G : Nat → Value} {d : Nat} {st : List Value} {M : am_M} {l0 l1 l2 : Option Value} {v : Int32} : am_run G d K_Ha_init (39, [l0, l1, l2, some (.int v)], st, M) = am_run G d K_Ha_init (40, [l0, l1, l2, some (.int v)], .int v :: st, M) := am_run_next (x := (.iload_n 3, 1, 0, 0, 0, 0)) (by decide +kernel) rfl
theorem r_Ha_init_40 {G : Nat → Value} {d : Nat} {st : List Value} {M : am_M} {l0 l1 l2 l3 : Option Value} {a : Nat} {v : Value} : am_run G d K_Ha_init (40, [l0, l1, l2, l3], v :: .ref a :: st, M) = am_km G d K_Ha_init 43 [l0, l1, l2, l3] st (am_pf M a 2 2 .int v) := am_run_km (x := (.putfield 28, 3, 2, 2, 2213, 0)) (by decide +kernel) rfl
theorem r_Ha_init_43 {G : Nat → Value} {d : Nat} {M : am_M} {l0 l1 l2 l3 : Option Value} : am_run G d K_Ha_init (43, [l0, l1, l2, l3], [], M) = some (none, M) := am_run_ret (x := (.return_, 1, 0, 0, 0, 0)) (by decide +kernel) rfl
theorem r_H_surface_0 {G : Nat → Value} {d : Nat} {st : List Value} {M : am_M} {l1 l2 l3 l4 : Option Value} {v : Value} (hv : am_isr v = true) : am_run G d K_H_surface (0, [some v, l1, l2, l3, l4], st, M) = am_run G d K_H_surface (1, [some v, l1, l2, l3, l4], v :: st, M) := by
  rcases am_isr_cases hv with ⟨q, rfl⟩ | rfl
  · exact am_run_next (x := (.aload_n 0, 1, 0, 0, 0, 0)) (by decide +kernel) rfl
  · exact am_run_next (x := (.aload_n 0, 1, 0, 0, 0, 0)) (by decide +kernel) rfl
theorem r_H_surface_1 {G : Nat → Value} {d : Nat} {st : List Value} {M : am_M} {l0 l2 l3 l4 : Option Value} {v : Int32} : am_run G d K_H_surface (1, [l0, some (.int v), l2, l3, l4], st, M) = am_run G d K_H_surface (2, [l0, some (.int v), l2, l3, l4], .int v :: st, M) := am_run_next (x := (.iload_n 1, 1, 0, 0, 0, 0)) (by decide +kernel) rfl
theorem r_H_surface_2 {G : Nat → Value} {d : Nat} {st : List Value} {M : am_M} {l0 l1 l2 l3 l4 : Option Value} {q : Nat} {a0 : Int32} (hq : am_cls M q = some 9) (h8 : am_sw st ≤ 8) : am_run G d K_H_surface (2, [l0, l1, l2, l3, l4], .int a0 :: .ref q :: st, M) = am_k G d K_H_surface 5 [l0, l1, l2, l3, l4] st (am_ex G d K_H_hallAt [.ref q, .int a0] M) := am_run_iv (i := 109) (n := 1) (pl := 3004) (Bs := [.int a0]) (z := K_H_hallAt) (by decide +kernel) hq h8 rfl (Nat.le_of_ble_eq_true rfl) rfl
theorem r_H_surface_5 {G : Nat → Value} {d : Nat} {st : List Value} {M : am_M} {l0 l1 l2 l3 l4 : Option Value} {v : Value} (hv : am_isr v = true) (hc : am_c1 l3 = true) : am_run G d K_H_surface (5, [l0, l1, l2, l3, l4], v :: st, M) = am_run G d K_H_surface (7, [l0, l1, l2, l3, some v], st, M) := by
  rcases am_isr_cases hv with ⟨q1, rfl⟩ | rfl
  · rcases am_c1_cases hc with rfl | ⟨q, rfl⟩ | ⟨q, rfl⟩ | rfl
    · exact am_run_next (x := (.astore 4, 2, 0, 0, 0, 0)) (by decide +kernel) rfl
    · exact am_run_next (x := (.astore 4, 2, 0, 0, 0, 0)) (by decide +kernel) rfl
    · exact am_run_next (x := (.astore 4, 2, 0, 0, 0, 0)) (by decide +kernel) rfl
    · exact am_run_next (x := (.astore 4, 2, 0, 0, 0, 0)) (by decide +kernel) rfl
  · rcases am_c1_cases hc with rfl | ⟨q, rfl⟩ | ⟨q, rfl⟩ | rfl
    · exact am_run_next (x := (.astore 4, 2, 0, 0, 0, 0)) (by decide +kernel) rfl
    · exact am_run_next (x := (.astore 4, 2, 0, 0, 0, 0)) (by decide +kernel) rfl
    · exact am_run_next (x := (.astore 4, 2, 0, 0, 0, 0)) (by decide +kernel) rfl
    · exact am_run_next (x := (.astore 4, 2, 0, 0, 0, 0)) (by decide +kernel) rfl
theorem r_H_surface_5_k {G : Nat → Value} {d : Nat} {st : List Value} {M : am_M} {l0 l1 l2 l4 : Option Value} {v : Value} {z : Int64} (hv : am_isr v = true) : am_run G d K_H_surface (5, [l0, l1, l2, some (.long z), l4], v :: st, M) = am_run G d K_H_surface (7, [l0, l1, l2, none, some v], st, M) := by
  rcases am_isr_cases hv with ⟨q, rfl⟩ | rfl
  · exact am_run_next (x := (.astore 4, 2, 0, 0, 0, 0)) (by decide +kernel) rfl
  · exact am_run_next (x := (.astore 4, 2, 0, 0, 0, 0)) (by decide +kernel) rfl
theorem r_H_surface_7 {G : Nat → Value} {d : Nat} {st : List Value} {M : am_M} {l0 l1 l2 l3 : Option Value} {v : Value} (hv : am_isr v = true) : am_run G d K_H_surface (7, [l0, l1, l2, l3, some v], st, M) = am_run G d K_H_surface (9, [l0, l1, l2, l3, some v], v :: st, M) := by
  rcases am_isr_cases hv with ⟨q, rfl⟩ | rfl
  · exact am_run_next (x := (.aload 4, 2, 0, 0, 0, 0)) (by decide +kernel) rfl
  · exact am_run_next (x := (.aload 4, 2, 0, 0, 0, 0)) (by decide +kernel) rfl
theorem r_H_surface_9 {G : Nat → Value} {d : Nat} {st : List Value} {M : am_M} {l0 l1 l2 l3 l4 : Option Value} {v : Value} (hv : am_isr v = true) : am_run G d K_H_surface (9, [l0, l1, l2, l3, l4], v :: st, M) = if v = .null then am_run G d K_H_surface (31, [l0, l1, l2, l3, l4], st, M) else am_run G d K_H_surface (12, [l0, l1, l2, l3, l4], st, M) := by
  split
  · next h => exact am_run_next (x := (.ifnull 22, 3, 0, 0, 0, 0)) (by decide +kernel) ((if_pos hv).trans (am_br_t (decide_eq_true h) (by decide)))
  · next h => exact am_run_next (x := (.ifnull 22, 3, 0, 0, 0, 0)) (by decide +kernel) ((if_pos hv).trans (am_br_f (decide_eq_false h) (by decide)))
theorem r_H_surface_12 {G : Nat → Value} {d : Nat} {st : List Value} {M : am_M} {l1 l2 l3 l4 : Option Value} {v : Value} (hv : am_isr v = true) : am_run G d K_H_surface (12, [some v, l1, l2, l3, l4], st, M) = am_run G d K_H_surface (13, [some v, l1, l2, l3, l4], v :: st, M) := by
  rcases am_isr_cases hv with ⟨q, rfl⟩ | rfl
  · exact am_run_next (x := (.aload_n 0, 1, 0, 0, 0, 0)) (by decide +kernel) rfl
  · exact am_run_next (x := (.aload_n 0, 1, 0, 0, 0, 0)) (by decide +kernel) rfl
theorem r_H_surface_13 {G : Nat → Value} {d : Nat} {st : List Value} {M : am_M} {l0 l1 l3 l4 : Option Value} {v : Int32} : am_run G d K_H_surface (13, [l0, l1, some (.int v), l3, l4], st, M) = am_run G d K_H_surface (14, [l0, l1, some (.int v), l3, l4], .int v :: st, M) := am_run_next (x := (.iload_n 2, 1, 0, 0, 0, 0)) (by decide +kernel) rfl
theorem r_H_surface_14 {G : Nat → Value} {d : Nat} {st : List Value} {M : am_M} {l0 l1 l2 l3 l4 : Option Value} {q : Nat} {a0 : Int32} (hq : am_cls M q = some 9) (h8 : am_sw st ≤ 8) : am_run G d K_H_surface (14, [l0, l1, l2, l3, l4], .int a0 :: .ref q :: st, M) = am_k G d K_H_surface 17 [l0, l1, l2, l3, l4] st (am_ex G d K_H_stuffAt [.ref q, .int a0] M) := am_run_iv (i := 113) (n := 1) (pl := 3008) (Bs := [.int a0]) (z := K_H_stuffAt) (by decide +kernel) hq h8 rfl (Nat.le_of_ble_eq_true rfl) rfl
theorem r_H_surface_17 {G : Nat → Value} {d : Nat} {st : List Value} {M : am_M} {l0 l1 l2 l3 l4 : Option Value} {v : Value} (hv : am_isr v = true) : am_run G d K_H_surface (17, [l0, l1, l2, l3, l4], v :: st, M) = if v = .null then am_run G d K_H_surface (31, [l0, l1, l2, l3, l4], st, M) else am_run G d K_H_surface (20, [l0, l1, l2, l3, l4], st, M) := by
  split
  · next h => exact am_run_next (x := (.ifnull 14, 3, 0, 0, 0, 0)) (by decide +kernel) ((if_pos hv).trans (am_br_t (decide_eq_true h) (by decide)))
  · next h => exact am_run_next (x := (.ifnull 14, 3, 0, 0, 0, 0)) (by decide +kernel) ((if_pos hv).trans (am_br_f (decide_eq_false h) (by decide)))
theorem r_H_surface_20 {G : Nat → Value} {d : Nat} {st : List Value} {M : am_M} {l0 l1 l2 l4 : Option Value} {v : Int32} : am_run G d K_H_surface (20, [l0, l1, l2, some (.int v), l4], st, M) = am_run G d K_H_surface (21, [l0, l1, l2, some (.int v), l4], .int v :: st, M) := am_run_next (x := (.iload_n 3, 1, 0, 0, 0, 0)) (by decide +kernel) rfl
theorem r_H_surface_21 {G : Nat → Value} {d : Nat} {st : List Value} {M : am_M} {l0 l1 l2 l3 l4 : Option Value} : am_run G d K_H_surface (21, [l0, l1, l2, l3, l4], st, M) = am_run G d K_H_surface (22, [l0, l1, l2, l3, l4], .int 0 :: st, M) := am_run_next (x := (.iconst 0, 1, 0, 0, 0, 0)) (by decide +kernel) rfl
theorem r_H_surface_22 {G : Nat → Value} {d : Nat} {st : List Value} {M : am_M} {l0 l1 l2 l3 l4 : Option Value} : am_run G d K_H_surface (22, [l0, l1, l2, l3, l4], st, M) = am_run G d K_H_surface (25, [l0, l1, l2, l3, l4], .int 9999 :: st, M) := am_run_next (x := (.sipush 9999, 3, 0, 0, 0, 0)) (by decide +kernel) rfl
theorem r_H_surface_25 {G : Nat → Value} {d : Nat} {st : List Value} {M : am_M} {l0 l1 l2 l3 l4 : Option Value} {a0 : Int32} {a1 : Int32} {a2 : Int32} (h8 : am_sw st ≤ 8) : am_run G d K_H_surface (25, [l0, l1, l2, l3, l4], .int a2 :: .int a1 :: .int a0 :: st, M) = am_k G d K_H_surface 28 [l0, l1, l2, l3, l4] st (am_ex G d K_H_within [.int a0, .int a1, .int a2] M) := am_run_is (i := 92) (n := 3) (pl := 2184) (Bs := [.int a0, .int a1, .int a2]) (z := K_H_within) (v := 1) (by decide) (by decide) (by decide +kernel) h8 rfl (Nat.le_of_ble_eq_true rfl) rfl
theorem r_H_surface_28 {G : Nat → Value} {d : Nat} {st : List Value} {M : am_M} {l0 l1 l2 l3 l4 : Option Value} {a : Int32} : am_run G d K_H_surface (28, [l0, l1, l2, l3, l4], .int a :: st, M) = if ¬ a = 0 then am_run G d K_H_surface (34, [l0, l1, l2, l3, l4], st, M) else am_run G d K_H_surface (31, [l0, l1, l2, l3, l4], st, M) := by
  split
  · next h => exact am_run_next (x := (.ifCond .ne 6, 3, 0, 0, 0, 0)) (by decide +kernel) (am_br_t (decide_eq_true h) (by decide))
  · next h => exact am_run_next (x := (.ifCond .ne 6, 3, 0, 0, 0, 0)) (by decide +kernel) (am_br_f (decide_eq_false h) (by decide))
theorem r_H_surface_31 {G : Nat → Value} {d : Nat} {st : List Value} {M : am_M} {l0 l1 l2 l3 l4 : Option Value} : am_run G d K_H_surface (31, [l0, l1, l2, l3, l4], st, M) = am_run G d K_H_surface (33, [l0, l1, l2, l3, l4], .int (-2) :: st, M) := am_run_next (x := (.bipush (-2), 2, 0, 0, 0, 0)) (by decide +kernel) rfl
theorem r_H_surface_33 {G : Nat → Value} {d : Nat} {M : am_M} {l0 l1 l2 l3 l4 : Option Value} {a : Int32} : am_run G d K_H_surface (33, [l0, l1, l2, l3, l4], [.int a], M) = some (some (.int a), M) := am_run_ret (x := (.ireturn, 1, 0, 0, 0, 0)) (by decide +kernel) rfl
theorem r_H_surface_34 {G : Nat → Value} {d : Nat} {st : List Value} {M : am_M} {l0 l1 l2 l3 : Option Value} {v : Value} (hv : am_isr v = true) : am_run G d K_H_surface (34, [l0, l1, l2, l3, some v], st, M) = am_run G d K_H_surface (36, [l0, l1, l2, l3, some v], v :: st, M) := by
  rcases am_isr_cases hv with ⟨q, rfl⟩ | rfl
  · exact am_run_next (x := (.aload 4, 2, 0, 0, 0, 0)) (by decide +kernel) rfl
  · exact am_run_next (x := (.aload 4, 2, 0, 0, 0, 0)) (by decide +kernel) rfl
theorem r_H_surface_36 {G : Nat → Value} {d : Nat} {st : List Value} {M : am_M} {l0 l1 l3 l4 : Option Value} {v : Int32} : am_run G d K_H_surface (36, [l0, l1, some (.int v), l3, l4], st, M) = am_run G d K_H_surface (37, [l0, l1, some (.int v), l3, l4], .int v :: st, M) := am_run_next (x := (.iload_n 2, 1, 0, 0, 0, 0)) (by decide +kernel) rfl
theorem r_H_surface_37 {G : Nat → Value} {d : Nat} {st : List Value} {M : am_M} {l0 l1 l2 l4 : Option Value} {v : Int32} : am_run G d K_H_surface (37, [l0, l1, l2, some (.int v), l4], st, M) = am_run G d K_H_surface (38, [l0, l1, l2, some (.int v), l4], .int v :: st, M) := am_run_next (x := (.iload_n 3, 1, 0, 0, 0, 0)) (by decide +kernel) rfl
theorem r_H_surface_38 {G : Nat → Value} {d : Nat} {st : List Value} {M : am_M} {l0 l1 l2 l3 l4 : Option Value} {q : Nat} {a0 : Int32} {a1 : Int32} (hq : am_cls M q = some 2) (h8 : am_sw st ≤ 8) : am_run G d K_H_surface (38, [l0, l1, l2, l3, l4], .int a1 :: .int a0 :: .ref q :: st, M) = am_k G d K_H_surface 41 [l0, l1, l2, l3, l4] st (am_ex G d K_Ha_addSurface [.ref q, .int a0, .int a1] M) := am_run_iv (i := 117) (n := 2) (pl := 3012) (Bs := [.int a0, .int a1]) (z := K_Ha_addSurface) (by decide +kernel) hq h8 rfl (Nat.le_of_ble_eq_true rfl) rfl
theorem r_H_surface_41 {G : Nat → Value} {d : Nat} {M : am_M} {l0 l1 l2 l3 l4 : Option Value} {a : Int32} : am_run G d K_H_surface (41, [l0, l1, l2, l3, l4], [.int a], M) = some (some (.int a), M) := am_run_ret (x := (.ireturn, 1, 0, 0, 0, 0)) (by decide +kernel) rfl
theorem r_H_hallAt_0 {G : Nat → Value} {d : Nat} {st : List Value} {M : am_M} {l0 : Option Value} {v : Int32} : am_run G d K_H_hallAt (0, [l0, some (.int v)], st, M) = am_run G d K_H_hallAt (1, [l0, some (.int v)], .int v :: st, M) := am_run_next (x := (.iload_n 1, 1, 0, 0, 0, 0)) (by decide +kernel) rfl
theorem r_H_hallAt_1 {G : Nat → Value} {d : Nat} {st : List Value} {M : am_M} {l0 l1 : Option Value} {a : Int32} : am_run G d K_H_hallAt (1, [l0, l1], .int a :: st, M) = if a < 0 then am_run G d K_H_hallAt (30, [l0, l1], st, M) else am_run G d K_H_hallAt (4, [l0, l1], st, M) := by
  split
  · next h => exact am_run_next (x := (.ifCond .lt 29, 3, 0, 0, 0, 0)) (by decide +kernel) (am_br_t (decide_eq_true h) (by decide))
  · next h => exact am_run_next (x := (.ifCond .lt 29, 3, 0, 0, 0, 0)) (by decide +kernel) (am_br_f (decide_eq_false h) (by decide))
theorem r_H_hallAt_4 {G : Nat → Value} {d : Nat} {st : List Value} {M : am_M} {l0 : Option Value} {v : Int32} : am_run G d K_H_hallAt (4, [l0, some (.int v)], st, M) = am_run G d K_H_hallAt (5, [l0, some (.int v)], .int v :: st, M) := am_run_next (x := (.iload_n 1, 1, 0, 0, 0, 0)) (by decide +kernel) rfl
theorem r_H_hallAt_5 {G : Nat → Value} {d : Nat} {st : List Value} {M : am_M} {l1 : Option Value} {v : Value} (hv : am_isr v = true) : am_run G d K_H_hallAt (5, [some v, l1], st, M) = am_run G d K_H_hallAt (6, [some v, l1], v :: st, M) := by
  rcases am_isr_cases hv with ⟨q, rfl⟩ | rfl
  · exact am_run_next (x := (.aload_n 0, 1, 0, 0, 0, 0)) (by decide +kernel) rfl
  · exact am_run_next (x := (.aload_n 0, 1, 0, 0, 0, 0)) (by decide +kernel) rfl
theorem r_H_hallAt_6 {G : Nat → Value} {d : Nat} {st : List Value} {M : am_M} {l0 l1 : Option Value} {a : Nat} : am_run G d K_H_hallAt (6, [l0, l1], .ref a :: st, M) = am_kf G d K_H_hallAt 9 [l0, l1] st M (am_fld M a 9 6) := am_run_kf (x := (.getfield 103, 3, 9, 6, 2130, 0)) (by decide +kernel) rfl
theorem r_H_hallAt_9 {G : Nat → Value} {d : Nat} {st : List Value} {M : am_M} {l0 l1 : Option Value} {a b : Int32} : am_run G d K_H_hallAt (9, [l0, l1], .int b :: .int a :: st, M) = if b ≤ a then am_run G d K_H_hallAt (30, [l0, l1], st, M) else am_run G d K_H_hallAt (12, [l0, l1], st, M) := by
  split
  · next h => exact am_run_next (x := (.if_icmp .ge 21, 3, 0, 0, 0, 0)) (by decide +kernel) (am_br_t (decide_eq_true h) (by decide))
  · next h => exact am_run_next (x := (.if_icmp .ge 21, 3, 0, 0, 0, 0)) (by decide +kernel) (am_br_f (decide_eq_false h) (by decide))
theorem r_H_hallAt_12 {G : Nat → Value} {d : Nat} {st : List Value} {M : am_M} {l0 : Option Value} {v : Int32} : am_run G d K_H_hallAt (12, [l0, some (.int v)], st, M) = am_run G d K_H_hallAt (13, [l0, some (.int v)], .int v :: st, M) := am_run_next (x := (.iload_n 1, 1, 0, 0, 0, 0)) (by decide +kernel) rfl
theorem r_H_hallAt_13 {G : Nat → Value} {d : Nat} {st : List Value} {M : am_M} {l1 : Option Value} {v : Value} (hv : am_isr v = true) : am_run G d K_H_hallAt (13, [some v, l1], st, M) = am_run G d K_H_hallAt (14, [some v, l1], v :: st, M) := by
  rcases am_isr_cases hv with ⟨q, rfl⟩ | rfl
  · exact am_run_next (x := (.aload_n 0, 1, 0, 0, 0, 0)) (by decide +kernel) rfl
  · exact am_run_next (x := (.aload_n 0, 1, 0, 0, 0, 0)) (by decide +kernel) rfl
theorem r_H_hallAt_14 {G : Nat → Value} {d : Nat} {st : List Value} {M : am_M} {l0 l1 : Option Value} {a : Nat} : am_run G d K_H_hallAt (14, [l0, l1], .ref a :: st, M) = am_kf G d K_H_hallAt 17 [l0, l1] st M (am_fld M a 9 1) := am_run_kf (x := (.getfield 17, 3, 9, 1, 2125, 0)) (by decide +kernel) rfl
theorem r_H_hallAt_17 {G : Nat → Value} {d : Nat} {st : List Value} {M : am_M} {l0 l1 : Option Value} {a : Nat} : am_run G d K_H_hallAt (17, [l0, l1], .ref a :: st, M) = am_kn G d K_H_hallAt 18 [l0, l1] st M (am_len M a) := am_run_kn (x := (.arraylength, 1, 0, 0, 0, 0)) (by decide +kernel) rfl
theorem r_H_hallAt_18 {G : Nat → Value} {d : Nat} {st : List Value} {M : am_M} {l0 l1 : Option Value} {a b : Int32} : am_run G d K_H_hallAt (18, [l0, l1], .int b :: .int a :: st, M) = if b ≤ a then am_run G d K_H_hallAt (30, [l0, l1], st, M) else am_run G d K_H_hallAt (21, [l0, l1], st, M) := by
  split
  · next h => exact am_run_next (x := (.if_icmp .ge 12, 3, 0, 0, 0, 0)) (by decide +kernel) (am_br_t (decide_eq_true h) (by decide))
  · next h => exact am_run_next (x := (.if_icmp .ge 12, 3, 0, 0, 0, 0)) (by decide +kernel) (am_br_f (decide_eq_false h) (by decide))
theorem r_H_hallAt_21 {G : Nat → Value} {d : Nat} {st : List Value} {M : am_M} {l1 : Option Value} {v : Value} (hv : am_isr v = true) : am_run G d K_H_hallAt (21, [some v, l1], st, M) = am_run G d K_H_hallAt (22, [some v, l1], v :: st, M) := by
  rcases am_isr_cases hv with ⟨q, rfl⟩ | rfl
  · exact am_run_next (x := (.aload_n 0, 1, 0, 0, 0, 0)) (by decide +kernel) rfl
  · exact am_run_next (x := (.aload_n 0, 1, 0, 0, 0, 0)) (by decide +kernel) rfl
theorem r_H_hallAt_22 {G : Nat → Value} {d : Nat} {st : List Value} {M : am_M} {l0 l1 : Option Value} {a : Nat} : am_run G d K_H_hallAt (22, [l0, l1], .ref a :: st, M) = am_kf G d K_H_hallAt 25 [l0, l1] st M (am_fld M a 9 1) := am_run_kf (x := (.getfield 17, 3, 9, 1, 2125, 0)) (by decide +kernel) rfl
theorem r_H_hallAt_25 {G : Nat → Value} {d : Nat} {st : List Value} {M : am_M} {l0 : Option Value} {v : Int32} : am_run G d K_H_hallAt (25, [l0, some (.int v)], st, M) = am_run G d K_H_hallAt (26, [l0, some (.int v)], .int v :: st, M) := am_run_next (x := (.iload_n 1, 1, 0, 0, 0, 0)) (by decide +kernel) rfl
theorem r_H_hallAt_26 {G : Nat → Value} {d : Nat} {st : List Value} {M : am_M} {l0 l1 : Option Value} {a : Nat} {i : Int32} : am_run G d K_H_hallAt (26, [l0, l1], .int i :: .ref a :: st, M) = am_kf G d K_H_hallAt 27 [l0, l1] st M (am_ag 3 M a i) := am_run_kf (x := (.aaload, 1, 0, 0, 0, 0)) (by decide +kernel) rfl
theorem r_H_hallAt_27 {G : Nat → Value} {d : Nat} {st : List Value} {M : am_M} {l0 l1 : Option Value} : am_run G d K_H_hallAt (27, [l0, l1], st, M) = am_run G d K_H_hallAt (31, [l0, l1], st, M) := am_run_next (x := (.goto 4, 3, 0, 0, 0, 0)) (by decide +kernel) rfl
theorem r_H_hallAt_30 {G : Nat → Value} {d : Nat} {st : List Value} {M : am_M} {l0 l1 : Option Value} : am_run G d K_H_hallAt (30, [l0, l1], st, M) = am_run G d K_H_hallAt (31, [l0, l1], .null :: st, M) := am_run_next (x := (.aconst_null, 1, 0, 0, 0, 0)) (by decide +kernel) rfl
theorem r_H_hallAt_31 {G : Nat → Value} {d : Nat} {M : am_M} {l0 l1 : Option Value} {v : Value} (hv : am_isr v = true) : am_run G d K_H_hallAt (31, [l0, l1], [v], M) = some (some v, M) := am_run_ret (x := (.areturn, 1, 0, 0, 0, 0)) (by decide +kernel) (if_pos ⟨hv, rfl⟩)
theorem r_H_stuffAt_0 {G : Nat → Value} {d : Nat} {st : List Value} {M : am_M} {l0 : Option Value} {v : Int32} : am_run G d K_H_stuffAt (0, [l0, some (.int v)], st, M) = am_run G d K_H_stuffAt (1, [l0, some (.int v)], .int v :: st, M) := am_run_next (x := (.iload_n 1, 1, 0, 0, 0, 0)) (by decide +kernel) rfl
theorem r_H_stuffAt_1 {G : Nat → Value} {d : Nat} {st : List Value} {M : am_M} {l0 l1 : Option Value} {a : Int32} : am_run G d K_H_stuffAt (1, [l0, l1], .int a :: st, M) = if a < 0 then am_run G d K_H_stuffAt (30, [l0, l1], st, M) else am_run G d K_H_stuffAt (4, [l0, l1], st, M) := by
  split
  · next h => exact am_run_next (x := (.ifCond .lt 29, 3, 0, 0, 0, 0)) (by decide +kernel) (am_br_t (decide_eq_true h) (by decide))
  · next h => exact am_run_next (x := (.ifCond .lt 29, 3, 0, 0, 0, 0)) (by decide +kernel) (am_br_f (decide_eq_false h) (by decide))
theorem r_H_stuffAt_4 {G : Nat → Value} {d : Nat} {st : List Value} {M : am_M} {l0 : Option Value} {v : Int32} : am_run G d K_H_stuffAt (4, [l0, some (.int v)], st, M) = am_run G d K_H_stuffAt (5, [l0, some (.int v)], .int v :: st, M) := am_run_next (x := (.iload_n 1, 1, 0, 0, 0, 0)) (by decide +kernel) rfl
theorem r_H_stuffAt_5 {G : Nat → Value} {d : Nat} {st : List Value} {M : am_M} {l1 : Option Value} {v : Value} (hv : am_isr v = true) : am_run G d K_H_stuffAt (5, [some v, l1], st, M) = am_run G d K_H_stuffAt (6, [some v, l1], v :: st, M) := by
  rcases am_isr_cases hv with ⟨q, rfl⟩ | rfl
  · exact am_run_next (x := (.aload_n 0, 1, 0, 0, 0, 0)) (by decide +kernel) rfl
  · exact am_run_next (x := (.aload_n 0, 1, 0, 0, 0, 0)) (by decide +kernel) rfl
theorem r_H_stuffAt_6 {G : Nat → Value} {d : Nat} {st : List Value} {M : am_M} {l0 l1 : Option Value} {a : Nat} : am_run G d K_H_stuffAt (6, [l0, l1], .ref a :: st, M) = am_kf G d K_H_stuffAt 9 [l0, l1] st M (am_fld M a 9 5) := am_run_kf (x := (.getfield 96, 3, 9, 5, 2129, 0)) (by decide +kernel) rfl
theorem r_H_stuffAt_9 {G : Nat → Value} {d : Nat} {st : List Value} {M : am_M} {l0 l1 : Option Value} {a b : Int32} : am_run G d K_H_stuffAt (9, [l0, l1], .int b :: .int a :: st, M) = if b ≤ a then am_run G d K_H_stuffAt (30, [l0, l1], st, M) else am_run G d K_H_stuffAt (12, [l0, l1], st, M) := by
  split
  · next h => exact am_run_next (x := (.if_icmp .ge 21, 3, 0, 0, 0, 0)) (by decide +kernel) (am_br_t (decide_eq_true h) (by decide))
  · next h => exact am_run_next (x := (.if_icmp .ge 21, 3, 0, 0, 0, 0)) (by decide +kernel) (am_br_f (decide_eq_false h) (by decide))
theorem r_H_stuffAt_12 {G : Nat → Value} {d : Nat} {st : List Value} {M : am_M} {l0 : Option Value} {v : Int32} : am_run G d K_H_stuffAt (12, [l0, some (.int v)], st, M) = am_run G d K_H_stuffAt (13, [l0, some (.int v)], .int v :: st, M) := am_run_next (x := (.iload_n 1, 1, 0, 0, 0, 0)) (by decide +kernel) rfl
theorem r_H_stuffAt_13 {G : Nat → Value} {d : Nat} {st : List Value} {M : am_M} {l1 : Option Value} {v : Value} (hv : am_isr v = true) : am_run G d K_H_stuffAt (13, [some v, l1], st, M) = am_run G d K_H_stuffAt (14, [some v, l1], v :: st, M) := by
  rcases am_isr_cases hv with ⟨q, rfl⟩ | rfl
  · exact am_run_next (x := (.aload_n 0, 1, 0, 0, 0, 0)) (by decide +kernel) rfl
  · exact am_run_next (x := (.aload_n 0, 1, 0, 0, 0, 0)) (by decide +kernel) rfl
theorem r_H_stuffAt_14 {G : Nat → Value} {d : Nat} {st : List Value} {M : am_M} {l0 l1 : Option Value} {a : Nat} : am_run G d K_H_stuffAt (14, [l0, l1], .ref a :: st, M) = am_kf G d K_H_stuffAt 17 [l0, l1] st M (am_fld M a 9 0) := am_run_kf (x := (.getfield 11, 3, 9, 0, 2124, 0)) (by decide +kernel) rfl
theorem r_H_stuffAt_17 {G : Nat → Value} {d : Nat} {st : List Value} {M : am_M} {l0 l1 : Option Value} {a : Nat} : am_run G d K_H_stuffAt (17, [l0, l1], .ref a :: st, M) = am_kn G d K_H_stuffAt 18 [l0, l1] st M (am_len M a) := am_run_kn (x := (.arraylength, 1, 0, 0, 0, 0)) (by decide +kernel) rfl
theorem r_H_stuffAt_18 {G : Nat → Value} {d : Nat} {st : List Value} {M : am_M} {l0 l1 : Option Value} {a b : Int32} : am_run G d K_H_stuffAt (18, [l0, l1], .int b :: .int a :: st, M) = if b ≤ a then am_run G d K_H_stuffAt (30, [l0, l1], st, M) else am_run G d K_H_stuffAt (21, [l0, l1], st, M) := by
  split
  · next h => exact am_run_next (x := (.if_icmp .ge 12, 3, 0, 0, 0, 0)) (by decide +kernel) (am_br_t (decide_eq_true h) (by decide))
  · next h => exact am_run_next (x := (.if_icmp .ge 12, 3, 0, 0, 0, 0)) (by decide +kernel) (am_br_f (decide_eq_false h) (by decide))
theorem r_H_stuffAt_21 {G : Nat → Value} {d : Nat} {st : List Value} {M : am_M} {l1 : Option Value} {v : Value} (hv : am_isr v = true) : am_run G d K_H_stuffAt (21, [some v, l1], st, M) = am_run G d K_H_stuffAt (22, [some v, l1], v :: st, M) := by
  rcases am_isr_cases hv with ⟨q, rfl⟩ | rfl
  · exact am_run_next (x := (.aload_n 0, 1, 0, 0, 0, 0)) (by decide +kernel) rfl
  · exact am_run_next (x := (.aload_n 0, 1, 0, 0, 0, 0)) (by decide +kernel) rfl
theorem r_H_stuffAt_22 {G : Nat → Value} {d : Nat} {st : List Value} {M : am_M} {l0 l1 : Option Value} {a : Nat} : am_run G d K_H_stuffAt (22, [l0, l1], .ref a :: st, M) = am_kf G d K_H_stuffAt 25 [l0, l1] st M (am_fld M a 9 0) := am_run_kf (x := (.getfield 11, 3, 9, 0, 2124, 0)) (by decide +kernel) rfl
theorem r_H_stuffAt_25 {G : Nat → Value} {d : Nat} {st : List Value} {M : am_M} {l0 : Option Value} {v : Int32} : am_run G d K_H_stuffAt (25, [l0, some (.int v)], st, M) = am_run G d K_H_stuffAt (26, [l0, some (.int v)], .int v :: st, M) := am_run_next (x := (.iload_n 1, 1, 0, 0, 0, 0)) (by decide +kernel) rfl
theorem r_H_stuffAt_26 {G : Nat → Value} {d : Nat} {st : List Value} {M : am_M} {l0 l1 : Option Value} {a : Nat} {i : Int32} : am_run G d K_H_stuffAt (26, [l0, l1], .int i :: .ref a :: st, M) = am_kf G d K_H_stuffAt 27 [l0, l1] st M (am_ag 3 M a i) := am_run_kf (x := (.aaload, 1, 0, 0, 0, 0)) (by decide +kernel) rfl
theorem r_H_stuffAt_27 {G : Nat → Value} {d : Nat} {st : List Value} {M : am_M} {l0 l1 : Option Value} : am_run G d K_H_stuffAt (27, [l0, l1], st, M) = am_run G d K_H_stuffAt (31, [l0, l1], st, M) := am_run_next (x := (.goto 4, 3, 0, 0, 0, 0)) (by decide +kernel) rfl
theorem r_H_stuffAt_30 {G : Nat → Value} {d : Nat} {st : List Value} {M : am_M} {l0 l1 : Option Value} : am_run G d K_H_stuffAt (30, [l0, l1], st, M) = am_run G d K_H_stuffAt (31, [l0, l1], .null :: st, M) := am_run_next (x := (.aconst_null, 1, 0, 0, 0, 0)) (by decide +kernel) rfl
theorem r_H_stuffAt_31 {G : Nat → Value} {d : Nat} {M : am_M} {l0 l1 : Option Value} {v : Value} (hv : am_isr v = true) : am_run G d K_H_stuffAt (31, [l0, l1], [v], M) = some (some v, M) := am_run_ret (x := (.areturn, 1, 0, 0, 0, 0)) (by decide +kernel) (if_pos ⟨hv, rfl⟩)
theorem r_Ha_addSurface_0 {G : Nat → Value} {d : Nat} {st : List Value} {M : am_M} {l1 l2 : Option Value} {v : Value} (hv : am_isr v = true) : am_run G d K_Ha_addSurface (0, [some v, l1, l2], st, M) = am_run G d K_Ha_addSurface (1, [some v, l1, l2], v :: st, M) := by
  rcases am_isr_cases hv with ⟨q, rfl⟩ | rfl
  · exact am_run_next (x := (.aload_n 0, 1, 0, 0, 0, 0)) (by decide +kernel) rfl
  · exact am_run_next (x := (.aload_n 0, 1, 0, 0, 0, 0)) (by decide +kernel) rfl
theorem r_Ha_addSurface_1 {G : Nat → Value} {d : Nat} {st : List Value} {M : am_M} {l0 l1 l2 : Option Value} {a : Nat} : am_run G d K_Ha_addSurface (1, [l0, l1, l2], .ref a :: st, M) = am_kf G d K_Ha_addSurface 4 [l0, l1, l2] st M (am_fld M a 2 5) := am_run_kf (x := (.getfield 33, 3, 2, 5, 2219, 0)) (by decide +kernel) rfl
theorem r_Ha_addSurface_4 {G : Nat → Value} {d : Nat} {st : List Value} {M : am_M} {l1 l2 : Option Value} {v : Value} (hv : am_isr v = true) : am_run G d K_Ha_addSurface (4, [some v, l1, l2], st, M) = am_run G d K_Ha_addSurface (5, [some v, l1, l2], v :: st, M) := by
  rcases am_isr_cases hv with ⟨q, rfl⟩ | rfl
  · exact am_run_next (x := (.aload_n 0, 1, 0, 0, 0, 0)) (by decide +kernel) rfl
  · exact am_run_next (x := (.aload_n 0, 1, 0, 0, 0, 0)) (by decide +kernel) rfl
theorem r_Ha_addSurface_5 {G : Nat → Value} {d : Nat} {st : List Value} {M : am_M} {l0 l1 l2 : Option Value} {a : Nat} : am_run G d K_Ha_addSurface (5, [l0, l1, l2], .ref a :: st, M) = am_kf G d K_Ha_addSurface 8 [l0, l1, l2] st M (am_fld M a 2 3) := am_run_kf (x := (.getfield 9, 3, 2, 3, 2215, 0)) (by decide +kernel) rfl
theorem r_Ha_addSurface_8 {G : Nat → Value} {d : Nat} {st : List Value} {M : am_M} {l0 l1 l2 : Option Value} {a : Nat} : am_run G d K_Ha_addSurface (8, [l0, l1, l2], .ref a :: st, M) = am_kn G d K_Ha_addSurface 9 [l0, l1, l2] st M (am_len M a) := am_run_kn (x := (.arraylength, 1, 0, 0, 0, 0)) (by decide +kernel) rfl
theorem r_Ha_addSurface_9 {G : Nat → Value} {d : Nat} {st : List Value} {M : am_M} {l0 l1 l2 : Option Value} {a b : Int32} : am_run G d K_Ha_addSurface (9, [l0, l1, l2], .int b :: .int a :: st, M) = if a < b then am_run G d K_Ha_addSurface (15, [l0, l1, l2], st, M) else am_run G d K_Ha_addSurface (12, [l0, l1, l2], st, M) := by
  split
  · next h => exact am_run_next (x := (.if_icmp .lt 6, 3, 0, 0, 0, 0)) (by decide +kernel) (am_br_t (decide_eq_true h) (by decide))
  · next h => exact am_run_next (x := (.if_icmp .lt 6, 3, 0, 0, 0, 0)) (by decide +kernel) (am_br_f (decide_eq_false h) (by decide))
theorem r_Ha_addSurface_12 {G : Nat → Value} {d : Nat} {st : List Value} {M : am_M} {l0 l1 l2 : Option Value} : am_run G d K_Ha_addSurface (12, [l0, l1, l2], st, M) = am_run G d K_Ha_addSurface (14, [l0, l1, l2], .int (-4) :: st, M) := am_run_next (x := (.bipush (-4), 2, 0, 0, 0, 0)) (by decide +kernel) rfl
theorem r_Ha_addSurface_14 {G : Nat → Value} {d : Nat} {M : am_M} {l0 l1 l2 : Option Value} {a : Int32} : am_run G d K_Ha_addSurface (14, [l0, l1, l2], [.int a], M) = some (some (.int a), M) := am_run_ret (x := (.ireturn, 1, 0, 0, 0, 0)) (by decide +kernel) rfl
theorem r_Ha_addSurface_15 {G : Nat → Value} {d : Nat} {st : List Value} {M : am_M} {l1 l2 : Option Value} {v : Value} (hv : am_isr v = true) : am_run G d K_Ha_addSurface (15, [some v, l1, l2], st, M) = am_run G d K_Ha_addSurface (16, [some v, l1, l2], v :: st, M) := by
  rcases am_isr_cases hv with ⟨q, rfl⟩ | rfl
  · exact am_run_next (x := (.aload_n 0, 1, 0, 0, 0, 0)) (by decide +kernel) rfl
  · exact am_run_next (x := (.aload_n 0, 1, 0, 0, 0, 0)) (by decide +kernel) rfl
theorem r_Ha_addSurface_16 {G : Nat → Value} {d : Nat} {st : List Value} {M : am_M} {l0 l1 l2 : Option Value} {a : Nat} : am_run G d K_Ha_addSurface (16, [l0, l1, l2], .ref a :: st, M) = am_kf G d K_Ha_addSurface 19 [l0, l1, l2] st M (am_fld M a 2 3) := am_run_kf (x := (.getfield 9, 3, 2, 3, 2215, 0)) (by decide +kernel) rfl
theorem r_Ha_addSurface_19 {G : Nat → Value} {d : Nat} {st : List Value} {M : am_M} {l1 l2 : Option Value} {v : Value} (hv : am_isr v = true) : am_run G d K_Ha_addSurface (19, [some v, l1, l2], st, M) = am_run G d K_Ha_addSurface (20, [some v, l1, l2], v :: st, M) := by
  rcases am_isr_cases hv with ⟨q, rfl⟩ | rfl
  · exact am_run_next (x := (.aload_n 0, 1, 0, 0, 0, 0)) (by decide +kernel) rfl
  · exact am_run_next (x := (.aload_n 0, 1, 0, 0, 0, 0)) (by decide +kernel) rfl
theorem r_Ha_addSurface_20 {G : Nat → Value} {d : Nat} {st : List Value} {M : am_M} {l0 l1 l2 : Option Value} {a : Nat} : am_run G d K_Ha_addSurface (20, [l0, l1, l2], .ref a :: st, M) = am_kf G d K_Ha_addSurface 23 [l0, l1, l2] st M (am_fld M a 2 5) := am_run_kf (x := (.getfield 33, 3, 2, 5, 2219, 0)) (by decide +kernel) rfl
theorem r_Ha_addSurface_23 {G : Nat → Value} {d : Nat} {st : List Value} {M : am_M} {l0 l2 : Option Value} {v : Int32} : am_run G d K_Ha_addSurface (23, [l0, some (.int v), l2], st, M) = am_run G d K_Ha_addSurface (24, [l0, some (.int v), l2], .int v :: st, M) := am_run_next (x := (.iload_n 1, 1, 0, 0, 0, 0)) (by decide +kernel) rfl
theorem r_Ha_addSurface_24 {G : Nat → Value} {d : Nat} {st : List Value} {M : am_M} {l0 l1 l2 : Option Value} {a : Nat} {i x : Int32} : am_run G d K_Ha_addSurface (24, [l0, l1, l2], .int x :: .int i :: .ref a :: st, M) = am_km G d K_Ha_addSurface 25 [l0, l1, l2] st (am_pi M a i x) := am_run_km (x := (.iastore, 1, 0, 0, 0, 0)) (by decide +kernel) rfl
theorem r_Ha_addSurface_25 {G : Nat → Value} {d : Nat} {st : List Value} {M : am_M} {l1 l2 : Option Value} {v : Value} (hv : am_isr v = true) : am_run G d K_Ha_addSurface (25, [some v, l1, l2], st, M) = am_run G d K_Ha_addSurface (26, [some v, l1, l2], v :: st, M) := by
  rcases am_isr_cases hv with ⟨q, rfl⟩ | rfl
  · exact am_run_next (x := (.aload_n 0, 1, 0, 0, 0, 0)) (by decide +kernel) rfl
  · exact am_run_next (x := (.aload_n 0, 1, 0, 0, 0, 0)) (by decide +kernel) rfl
theorem r_Ha_addSurface_26 {G : Nat → Value} {d : Nat} {st : List Value} {M : am_M} {l0 l1 l2 : Option Value} {a : Nat} : am_run G d K_Ha_addSurface (26, [l0, l1, l2], .ref a :: st, M) = am_kf G d K_Ha_addSurface 29 [l0, l1, l2] st M (am_fld M a 2 4) := am_run_kf (x := (.getfield 15, 3, 2, 4, 2217, 0)) (by decide +kernel) rfl
theorem r_Ha_addSurface_29 {G : Nat → Value} {d : Nat} {st : List Value} {M : am_M} {l1 l2 : Option Value} {v : Value} (hv : am_isr v = true) : am_run G d K_Ha_addSurface (29, [some v, l1, l2], st, M) = am_run G d K_Ha_addSurface (30, [some v, l1, l2], v :: st, M) := by
  rcases am_isr_cases hv with ⟨q, rfl⟩ | rfl
  · exact am_run_next (x := (.aload_n 0, 1, 0, 0, 0, 0)) (by decide +kernel) rfl
  · exact am_run_next (x := (.aload_n 0, 1, 0, 0, 0, 0)) (by decide +kernel) rfl
theorem r_Ha_addSurface_30 {G : Nat → Value} {d : Nat} {st : List Value} {M : am_M} {l0 l1 l2 : Option Value} {a : Nat} : am_run G d K_Ha_addSurface (30, [l0, l1, l2], .ref a :: st, M) = am_kf G d K_Ha_addSurface 33 [l0, l1, l2] st M (am_fld M a 2 5) := am_run_kf (x := (.getfield 33, 3, 2, 5, 2219, 0)) (by decide +kernel) rfl
theorem r_Ha_addSurface_33 {G : Nat → Value} {d : Nat} {st : List Value} {M : am_M} {l0 l1 : Option Value} {v : Int32} : am_run G d K_Ha_addSurface (33, [l0, l1, some (.int v)], st, M) = am_run G d K_Ha_addSurface (34, [l0, l1, some (.int v)], .int v :: st, M) := am_run_next (x := (.iload_n 2, 1, 0, 0, 0, 0)) (by decide +kernel) rfl
theorem r_Ha_addSurface_34 {G : Nat → Value} {d : Nat} {st : List Value} {M : am_M} {l0 l1 l2 : Option Value} {a : Nat} {i x : Int32} : am_run G d K_Ha_addSurface (34, [l0, l1, l2], .int x :: .int i :: .ref a :: st, M) = am_km G d K_Ha_addSurface 35 [l0, l1, l2] st (am_pi M a i x) := am_run_km (x := (.iastore, 1, 0, 0, 0, 0)) (by decide +kernel) rfl
theorem r_Ha_addSurface_35 {G : Nat → Value} {d : Nat} {st : List Value} {M : am_M} {l1 l2 : Option Value} {v : Value} (hv : am_isr v = true) : am_run G d K_Ha_addSurface (35, [some v, l1, l2], st, M) = am_run G d K_Ha_addSurface (36, [some v, l1, l2], v :: st, M) := by
  rcases am_isr_cases hv with ⟨q, rfl⟩ | rfl
  · exact am_run_next (x := (.aload_n 0, 1, 0, 0, 0, 0)) (by decide +kernel) rfl
  · exact am_run_next (x := (.aload_n 0, 1, 0, 0, 0, 0)) (by decide +kernel) rfl
theorem r_Ha_addSurface_36 {G : Nat → Value} {d : Nat} {st : List Value} {M : am_M} {l0 l1 l2 : Option Value} {v : Value} (hv : v.category = 1) : am_run G d K_Ha_addSurface (36, [l0, l1, l2], v :: st, M) = am_run G d K_Ha_addSurface (37, [l0, l1, l2], v :: v :: st, M) := am_run_next (x := (.dup, 1, 0, 0, 0, 0)) (by decide +kernel) (if_pos hv)
theorem r_Ha_addSurface_37 {G : Nat → Value} {d : Nat} {st : List Value} {M : am_M} {l0 l1 l2 : Option Value} {a : Nat} : am_run G d K_Ha_addSurface (37, [l0, l1, l2], .ref a :: st, M) = am_kf G d K_Ha_addSurface 40 [l0, l1, l2] st M (am_fld M a 2 5) := am_run_kf (x := (.getfield 33, 3, 2, 5, 2219, 0)) (by decide +kernel) rfl
theorem r_Ha_addSurface_40 {G : Nat → Value} {d : Nat} {st : List Value} {M : am_M} {l0 l1 l2 : Option Value} {v w : Value} (hv : v.category = 1) (hw : w.category = 1) : am_run G d K_Ha_addSurface (40, [l0, l1, l2], v :: w :: st, M) = am_run G d K_Ha_addSurface (41, [l0, l1, l2], v :: w :: v :: st, M) := am_run_next (x := (.dup_x1, 1, 0, 0, 0, 0)) (by decide +kernel) (if_pos ⟨hv, hw⟩)
theorem r_Ha_addSurface_41 {G : Nat → Value} {d : Nat} {st : List Value} {M : am_M} {l0 l1 l2 : Option Value} : am_run G d K_Ha_addSurface (41, [l0, l1, l2], st, M) = am_run G d K_Ha_addSurface (42, [l0, l1, l2], .int 1 :: st, M) := am_run_next (x := (.iconst 1, 1, 0, 0, 0, 0)) (by decide +kernel) rfl
theorem r_Ha_addSurface_42 {G : Nat → Value} {d : Nat} {st : List Value} {M : am_M} {l0 l1 l2 : Option Value} {a b : Int32} : am_run G d K_Ha_addSurface (42, [l0, l1, l2], .int b :: .int a :: st, M) = am_run G d K_Ha_addSurface (43, [l0, l1, l2], .int (a + b) :: st, M) := am_run_next (x := (.iadd, 1, 0, 0, 0, 0)) (by decide +kernel) rfl
theorem r_Ha_addSurface_43 {G : Nat → Value} {d : Nat} {st : List Value} {M : am_M} {l0 l1 l2 : Option Value} {a : Nat} {v : Value} : am_run G d K_Ha_addSurface (43, [l0, l1, l2], v :: .ref a :: st, M) = am_km G d K_Ha_addSurface 46 [l0, l1, l2] st (am_pf M a 2 5 .int v) := am_run_km (x := (.putfield 33, 3, 2, 5, 2219, 0)) (by decide +kernel) rfl
theorem r_Ha_addSurface_46 {G : Nat → Value} {d : Nat} {M : am_M} {l0 l1 l2 : Option Value} {a : Int32} : am_run G d K_Ha_addSurface (46, [l0, l1, l2], [.int a], M) = some (some (.int a), M) := am_run_ret (x := (.ireturn, 1, 0, 0, 0, 0)) (by decide +kernel) rfl
theorem r_H_cover_0 {G : Nat → Value} {d : Nat} {st : List Value} {M : am_M} {l1 l2 l3 l4 : Option Value} {v : Value} (hv : am_isr v = true) : am_run G d K_H_cover (0, [some v, l1, l2, l3, l4], st, M) = am_run G d K_H_cover (1, [some v, l1, l2, l3, l4], v :: st, M) := by
  rcases am_isr_cases hv with ⟨q, rfl⟩ | rfl
  · exact am_run_next (x := (.aload_n 0, 1, 0, 0, 0, 0)) (by decide +kernel) rfl
  · exact am_run_next (x := (.aload_n 0, 1, 0, 0, 0, 0)) (by decide +kernel) rfl
theorem r_H_cover_1 {G : Nat → Value} {d : Nat} {st : List Value} {M : am_M} {l0 l2 l3 l4 : Option Value} {v : Int32} : am_run G d K_H_cover (1, [l0, some (.int v), l2, l3, l4], st, M) = am_run G d K_H_cover (2, [l0, some (.int v), l2, l3, l4], .int v :: st, M) := am_run_next (x := (.iload_n 1, 1, 0, 0, 0, 0)) (by decide +kernel) rfl
theorem r_H_cover_2 {G : Nat → Value} {d : Nat} {st : List Value} {M : am_M} {l0 l1 l2 l3 l4 : Option Value} {q : Nat} {a0 : Int32} (hq : am_cls M q = some 9) (h8 : am_sw st ≤ 8) : am_run G d K_H_cover (2, [l0, l1, l2, l3, l4], .int a0 :: .ref q :: st, M) = am_k G d K_H_cover 5 [l0, l1, l2, l3, l4] st (am_ex G d K_H_hallAt [.ref q, .int a0] M) := am_run_iv (i := 109) (n := 1) (pl := 3004) (Bs := [.int a0]) (z := K_H_hallAt) (by decide +kernel) hq h8 rfl (Nat.le_of_ble_eq_true rfl) rfl
theorem r_H_cover_5 {G : Nat → Value} {d : Nat} {st : List Value} {M : am_M} {l0 l1 l2 l3 l4 : Option Value} {v : Value} (hv : am_isr v = true) (hc : am_c1 l3 = true) : am_run G d K_H_cover (5, [l0, l1, l2, l3, l4], v :: st, M) = am_run G d K_H_cover (7, [l0, l1, l2, l3, some v], st, M) := by
  rcases am_isr_cases hv with ⟨q1, rfl⟩ | rfl
  · rcases am_c1_cases hc with rfl | ⟨q, rfl⟩ | ⟨q, rfl⟩ | rfl
    · exact am_run_next (x := (.astore 4, 2, 0, 0, 0, 0)) (by decide +kernel) rfl
    · exact am_run_next (x := (.astore 4, 2, 0, 0, 0, 0)) (by decide +kernel) rfl
    · exact am_run_next (x := (.astore 4, 2, 0, 0, 0, 0)) (by decide +kernel) rfl
    · exact am_run_next (x := (.astore 4, 2, 0, 0, 0, 0)) (by decide +kernel) rfl
  · rcases am_c1_cases hc with rfl | ⟨q, rfl⟩ | ⟨q, rfl⟩ | rfl
    · exact am_run_next (x := (.astore 4, 2, 0, 0, 0, 0)) (by decide +kernel) rfl
    · exact am_run_next (x := (.astore 4, 2, 0, 0, 0, 0)) (by decide +kernel) rfl
    · exact am_run_next (x := (.astore 4, 2, 0, 0, 0, 0)) (by decide +kernel) rfl
    · exact am_run_next (x := (.astore 4, 2, 0, 0, 0, 0)) (by decide +kernel) rfl
theorem r_H_cover_5_k {G : Nat → Value} {d : Nat} {st : List Value} {M : am_M} {l0 l1 l2 l4 : Option Value} {v : Value} {z : Int64} (hv : am_isr v = true) : am_run G d K_H_cover (5, [l0, l1, l2, some (.long z), l4], v :: st, M) = am_run G d K_H_cover (7, [l0, l1, l2, none, some v], st, M) := by
  rcases am_isr_cases hv with ⟨q, rfl⟩ | rfl
  · exact am_run_next (x := (.astore 4, 2, 0, 0, 0, 0)) (by decide +kernel) rfl
  · exact am_run_next (x := (.astore 4, 2, 0, 0, 0, 0)) (by decide +kernel) rfl
theorem r_H_cover_7 {G : Nat → Value} {d : Nat} {st : List Value} {M : am_M} {l0 l1 l2 l3 : Option Value} {v : Value} (hv : am_isr v = true) : am_run G d K_H_cover (7, [l0, l1, l2, l3, some v], st, M) = am_run G d K_H_cover (9, [l0, l1, l2, l3, some v], v :: st, M) := by
  rcases am_isr_cases hv with ⟨q, rfl⟩ | rfl
  · exact am_run_next (x := (.aload 4, 2, 0, 0, 0, 0)) (by decide +kernel) rfl
  · exact am_run_next (x := (.aload 4, 2, 0, 0, 0, 0)) (by decide +kernel) rfl
theorem r_H_cover_9 {G : Nat → Value} {d : Nat} {st : List Value} {M : am_M} {l0 l1 l2 l3 l4 : Option Value} {v : Value} (hv : am_isr v = true) : am_run G d K_H_cover (9, [l0, l1, l2, l3, l4], v :: st, M) = if v = .null then am_run G d K_H_cover (29, [l0, l1, l2, l3, l4], st, M) else am_run G d K_H_cover (12, [l0, l1, l2, l3, l4], st, M) := by
  split
  · next h => exact am_run_next (x := (.ifnull 20, 3, 0, 0, 0, 0)) (by decide +kernel) ((if_pos hv).trans (am_br_t (decide_eq_true h) (by decide)))
  · next h => exact am_run_next (x := (.ifnull 20, 3, 0, 0, 0, 0)) (by decide +kernel) ((if_pos hv).trans (am_br_f (decide_eq_false h) (by decide)))
theorem r_H_cover_12 {G : Nat → Value} {d : Nat} {st : List Value} {M : am_M} {l0 l1 l2 l3 : Option Value} {v : Value} (hv : am_isr v = true) : am_run G d K_H_cover (12, [l0, l1, l2, l3, some v], st, M) = am_run G d K_H_cover (14, [l0, l1, l2, l3, some v], v :: st, M) := by
  rcases am_isr_cases hv with ⟨q, rfl⟩ | rfl
  · exact am_run_next (x := (.aload 4, 2, 0, 0, 0, 0)) (by decide +kernel) rfl
  · exact am_run_next (x := (.aload 4, 2, 0, 0, 0, 0)) (by decide +kernel) rfl
theorem r_H_cover_14 {G : Nat → Value} {d : Nat} {st : List Value} {M : am_M} {l0 l1 l3 l4 : Option Value} {v : Int32} : am_run G d K_H_cover (14, [l0, l1, some (.int v), l3, l4], st, M) = am_run G d K_H_cover (15, [l0, l1, some (.int v), l3, l4], .int v :: st, M) := am_run_next (x := (.iload_n 2, 1, 0, 0, 0, 0)) (by decide +kernel) rfl
theorem r_H_cover_15 {G : Nat → Value} {d : Nat} {st : List Value} {M : am_M} {l0 l1 l2 l3 l4 : Option Value} {q : Nat} {a0 : Int32} (hq : am_cls M q = some 2) (h8 : am_sw st ≤ 8) : am_run G d K_H_cover (15, [l0, l1, l2, l3, l4], .int a0 :: .ref q :: st, M) = am_k G d K_H_cover 18 [l0, l1, l2, l3, l4] st (am_ex G d K_Ha_hasSurface [.ref q, .int a0] M) := am_run_iv (i := 121) (n := 1) (pl := 3020) (Bs := [.int a0]) (z := K_Ha_hasSurface) (by decide +kernel) hq h8 rfl (Nat.le_of_ble_eq_true rfl) rfl
theorem r_H_cover_18 {G : Nat → Value} {d : Nat} {st : List Value} {M : am_M} {l0 l1 l2 l3 l4 : Option Value} {a : Int32} : am_run G d K_H_cover (18, [l0, l1, l2, l3, l4], .int a :: st, M) = if a = 0 then am_run G d K_H_cover (29, [l0, l1, l2, l3, l4], st, M) else am_run G d K_H_cover (21, [l0, l1, l2, l3, l4], st, M) := by
  split
  · next h => exact am_run_next (x := (.ifCond .eq 11, 3, 0, 0, 0, 0)) (by decide +kernel) (am_br_t (decide_eq_true h) (by decide))
  · next h => exact am_run_next (x := (.ifCond .eq 11, 3, 0, 0, 0, 0)) (by decide +kernel) (am_br_f (decide_eq_false h) (by decide))
theorem r_H_cover_21 {G : Nat → Value} {d : Nat} {st : List Value} {M : am_M} {l1 l2 l3 l4 : Option Value} {v : Value} (hv : am_isr v = true) : am_run G d K_H_cover (21, [some v, l1, l2, l3, l4], st, M) = am_run G d K_H_cover (22, [some v, l1, l2, l3, l4], v :: st, M) := by
  rcases am_isr_cases hv with ⟨q, rfl⟩ | rfl
  · exact am_run_next (x := (.aload_n 0, 1, 0, 0, 0, 0)) (by decide +kernel) rfl
  · exact am_run_next (x := (.aload_n 0, 1, 0, 0, 0, 0)) (by decide +kernel) rfl
theorem r_H_cover_22 {G : Nat → Value} {d : Nat} {st : List Value} {M : am_M} {l0 l1 l2 l4 : Option Value} {v : Int32} : am_run G d K_H_cover (22, [l0, l1, l2, some (.int v), l4], st, M) = am_run G d K_H_cover (23, [l0, l1, l2, some (.int v), l4], .int v :: st, M) := am_run_next (x := (.iload_n 3, 1, 0, 0, 0, 0)) (by decide +kernel) rfl
theorem r_H_cover_23 {G : Nat → Value} {d : Nat} {st : List Value} {M : am_M} {l0 l1 l2 l3 l4 : Option Value} {q : Nat} {a0 : Int32} (hq : am_cls M q = some 9) (h8 : am_sw st ≤ 8) : am_run G d K_H_cover (23, [l0, l1, l2, l3, l4], .int a0 :: .ref q :: st, M) = am_k G d K_H_cover 26 [l0, l1, l2, l3, l4] st (am_ex G d K_H_stuffAt [.ref q, .int a0] M) := am_run_iv (i := 113) (n := 1) (pl := 3008) (Bs := [.int a0]) (z := K_H_stuffAt) (by decide +kernel) hq h8 rfl (Nat.le_of_ble_eq_true rfl) rfl
theorem r_H_cover_26 {G : Nat → Value} {d : Nat} {st : List Value} {M : am_M} {l0 l1 l2 l3 l4 : Option Value} {v : Value} (hv : am_isr v = true) : am_run G d K_H_cover (26, [l0, l1, l2, l3, l4], v :: st, M) = if ¬ v = .null then am_run G d K_H_cover (32, [l0, l1, l2, l3, l4], st, M) else am_run G d K_H_cover (29, [l0, l1, l2, l3, l4], st, M) := by
  split
  · next h => exact am_run_next (x := (.ifnonnull 6, 3, 0, 0, 0, 0)) (by decide +kernel) ((if_pos hv).trans (am_br_t (decide_eq_true h) (by decide)))
  · next h => exact am_run_next (x := (.ifnonnull 6, 3, 0, 0, 0, 0)) (by decide +kernel) ((if_pos hv).trans (am_br_f (decide_eq_false h) (by decide)))
theorem r_H_cover_29 {G : Nat → Value} {d : Nat} {st : List Value} {M : am_M} {l0 l1 l2 l3 l4 : Option Value} : am_run G d K_H_cover (29, [l0, l1, l2, l3, l4], st, M) = am_run G d K_H_cover (31, [l0, l1, l2, l3, l4], .int (-2) :: st, M) := am_run_next (x := (.bipush (-2), 2, 0, 0, 0, 0)) (by decide +kernel) rfl
theorem r_H_cover_31 {G : Nat → Value} {d : Nat} {M : am_M} {l0 l1 l2 l3 l4 : Option Value} {a : Int32} : am_run G d K_H_cover (31, [l0, l1, l2, l3, l4], [.int a], M) = some (some (.int a), M) := am_run_ret (x := (.ireturn, 1, 0, 0, 0, 0)) (by decide +kernel) rfl
theorem r_H_cover_32 {G : Nat → Value} {d : Nat} {st : List Value} {M : am_M} {l0 l1 l2 l3 : Option Value} {v : Value} (hv : am_isr v = true) : am_run G d K_H_cover (32, [l0, l1, l2, l3, some v], st, M) = am_run G d K_H_cover (34, [l0, l1, l2, l3, some v], v :: st, M) := by
  rcases am_isr_cases hv with ⟨q, rfl⟩ | rfl
  · exact am_run_next (x := (.aload 4, 2, 0, 0, 0, 0)) (by decide +kernel) rfl
  · exact am_run_next (x := (.aload 4, 2, 0, 0, 0, 0)) (by decide +kernel) rfl
theorem r_H_cover_34 {G : Nat → Value} {d : Nat} {st : List Value} {M : am_M} {l0 l1 l3 l4 : Option Value} {v : Int32} : am_run G d K_H_cover (34, [l0, l1, some (.int v), l3, l4], st, M) = am_run G d K_H_cover (35, [l0, l1, some (.int v), l3, l4], .int v :: st, M) := am_run_next (x := (.iload_n 2, 1, 0, 0, 0, 0)) (by decide +kernel) rfl
theorem r_H_cover_35 {G : Nat → Value} {d : Nat} {st : List Value} {M : am_M} {l0 l1 l2 l4 : Option Value} {v : Int32} : am_run G d K_H_cover (35, [l0, l1, l2, some (.int v), l4], st, M) = am_run G d K_H_cover (36, [l0, l1, l2, some (.int v), l4], .int v :: st, M) := am_run_next (x := (.iload_n 3, 1, 0, 0, 0, 0)) (by decide +kernel) rfl
theorem r_H_cover_36 {G : Nat → Value} {d : Nat} {st : List Value} {M : am_M} {l0 l1 l2 l3 l4 : Option Value} {q : Nat} {a0 : Int32} {a1 : Int32} (hq : am_cls M q = some 2) (h8 : am_sw st ≤ 8) : am_run G d K_H_cover (36, [l0, l1, l2, l3, l4], .int a1 :: .int a0 :: .ref q :: st, M) = am_k G d K_H_cover 39 [l0, l1, l2, l3, l4] st (am_ex G d K_Ha_coverWith [.ref q, .int a0, .int a1] M) := am_run_iv (i := 125) (n := 2) (pl := 3024) (Bs := [.int a0, .int a1]) (z := K_Ha_coverWith) (by decide +kernel) hq h8 rfl (Nat.le_of_ble_eq_true rfl) rfl
theorem r_H_cover_39 {G : Nat → Value} {d : Nat} {M : am_M} {l0 l1 l2 l3 l4 : Option Value} {a : Int32} : am_run G d K_H_cover (39, [l0, l1, l2, l3, l4], [.int a], M) = some (some (.int a), M) := am_run_ret (x := (.ireturn, 1, 0, 0, 0, 0)) (by decide +kernel) rfl
theorem r_Ha_hasSurface_0 {G : Nat → Value} {d : Nat} {st : List Value} {M : am_M} {l0 : Option Value} {v : Int32} : am_run G d K_Ha_hasSurface (0, [l0, some (.int v)], st, M) = am_run G d K_Ha_hasSurface (1, [l0, some (.int v)], .int v :: st, M) := am_run_next (x := (.iload_n 1, 1, 0, 0, 0, 0)) (by decide +kernel) rfl
theorem r_Ha_hasSurface_1 {G : Nat → Value} {d : Nat} {st : List Value} {M : am_M} {l0 l1 : Option Value} {a : Int32} : am_run G d K_Ha_hasSurface (1, [l0, l1], .int a :: st, M) = if a < 0 then am_run G d K_Ha_hasSurface (25, [l0, l1], st, M) else am_run G d K_Ha_hasSurface (4, [l0, l1], st, M) := by
  split
  · next h => exact am_run_next (x := (.ifCond .lt 24, 3, 0, 0, 0, 0)) (by decide +kernel) (am_br_t (decide_eq_true h) (by decide))
  · next h => exact am_run_next (x := (.ifCond .lt 24, 3, 0, 0, 0, 0)) (by decide +kernel) (am_br_f (decide_eq_false h) (by decide))
theorem r_Ha_hasSurface_4 {G : Nat → Value} {d : Nat} {st : List Value} {M : am_M} {l0 : Option Value} {v : Int32} : am_run G d K_Ha_hasSurface (4, [l0, some (.int v)], st, M) = am_run G d K_Ha_hasSurface (5, [l0, some (.int v)], .int v :: st, M) := am_run_next (x := (.iload_n 1, 1, 0, 0, 0, 0)) (by decide +kernel) rfl
theorem r_Ha_hasSurface_5 {G : Nat → Value} {d : Nat} {st : List Value} {M : am_M} {l1 : Option Value} {v : Value} (hv : am_isr v = true) : am_run G d K_Ha_hasSurface (5, [some v, l1], st, M) = am_run G d K_Ha_hasSurface (6, [some v, l1], v :: st, M) := by
  rcases am_isr_cases hv with ⟨q, rfl⟩ | rfl
  · exact am_run_next (x := (.aload_n 0, 1, 0, 0, 0, 0)) (by decide +kernel) rfl
  · exact am_run_next (x := (.aload_n 0, 1, 0, 0, 0, 0)) (by decide +kernel) rfl
theorem r_Ha_hasSurface_6 {G : Nat → Value} {d : Nat} {st : List Value} {M : am_M} {l0 l1 : Option Value} {a : Nat} : am_run G d K_Ha_hasSurface (6, [l0, l1], .ref a :: st, M) = am_kf G d K_Ha_hasSurface 9 [l0, l1] st M (am_fld M a 2 5) := am_run_kf (x := (.getfield 33, 3, 2, 5, 2219, 0)) (by decide +kernel) rfl
theorem r_Ha_hasSurface_9 {G : Nat → Value} {d : Nat} {st : List Value} {M : am_M} {l0 l1 : Option Value} {a b : Int32} : am_run G d K_Ha_hasSurface (9, [l0, l1], .int b :: .int a :: st, M) = if b ≤ a then am_run G d K_Ha_hasSurface (25, [l0, l1], st, M) else am_run G d K_Ha_hasSurface (12, [l0, l1], st, M) := by
  split
  · next h => exact am_run_next (x := (.if_icmp .ge 16, 3, 0, 0, 0, 0)) (by decide +kernel) (am_br_t (decide_eq_true h) (by decide))
  · next h => exact am_run_next (x := (.if_icmp .ge 16, 3, 0, 0, 0, 0)) (by decide +kernel) (am_br_f (decide_eq_false h) (by decide))
theorem r_Ha_hasSurface_12 {G : Nat → Value} {d : Nat} {st : List Value} {M : am_M} {l0 : Option Value} {v : Int32} : am_run G d K_Ha_hasSurface (12, [l0, some (.int v)], st, M) = am_run G d K_Ha_hasSurface (13, [l0, some (.int v)], .int v :: st, M) := am_run_next (x := (.iload_n 1, 1, 0, 0, 0, 0)) (by decide +kernel) rfl
theorem r_Ha_hasSurface_13 {G : Nat → Value} {d : Nat} {st : List Value} {M : am_M} {l1 : Option Value} {v : Value} (hv : am_isr v = true) : am_run G d K_Ha_hasSurface (13, [some v, l1], st, M) = am_run G d K_Ha_hasSurface (14, [some v, l1], v :: st, M) := by
  rcases am_isr_cases hv with ⟨q, rfl⟩ | rfl
  · exact am_run_next (x := (.aload_n 0, 1, 0, 0, 0, 0)) (by decide +kernel) rfl
  · exact am_run_next (x := (.aload_n 0, 1, 0, 0, 0, 0)) (by decide +kernel) rfl
theorem r_Ha_hasSurface_14 {G : Nat → Value} {d : Nat} {st : List Value} {M : am_M} {l0 l1 : Option Value} {a : Nat} : am_run G d K_Ha_hasSurface (14, [l0, l1], .ref a :: st, M) = am_kf G d K_Ha_hasSurface 17 [l0, l1] st M (am_fld M a 2 3) := am_run_kf (x := (.getfield 9, 3, 2, 3, 2215, 0)) (by decide +kernel) rfl
theorem r_Ha_hasSurface_17 {G : Nat → Value} {d : Nat} {st : List Value} {M : am_M} {l0 l1 : Option Value} {a : Nat} : am_run G d K_Ha_hasSurface (17, [l0, l1], .ref a :: st, M) = am_kn G d K_Ha_hasSurface 18 [l0, l1] st M (am_len M a) := am_run_kn (x := (.arraylength, 1, 0, 0, 0, 0)) (by decide +kernel) rfl
theorem r_Ha_hasSurface_18 {G : Nat → Value} {d : Nat} {st : List Value} {M : am_M} {l0 l1 : Option Value} {a b : Int32} : am_run G d K_Ha_hasSurface (18, [l0, l1], .int b :: .int a :: st, M) = if b ≤ a then am_run G d K_Ha_hasSurface (25, [l0, l1], st, M) else am_run G d K_Ha_hasSurface (21, [l0, l1], st, M) := by
  split
  · next h => exact am_run_next (x := (.if_icmp .ge 7, 3, 0, 0, 0, 0)) (by decide +kernel) (am_br_t (decide_eq_true h) (by decide))
  · next h => exact am_run_next (x := (.if_icmp .ge 7, 3, 0, 0, 0, 0)) (by decide +kernel) (am_br_f (decide_eq_false h) (by decide))
theorem r_Ha_hasSurface_21 {G : Nat → Value} {d : Nat} {st : List Value} {M : am_M} {l0 l1 : Option Value} : am_run G d K_Ha_hasSurface (21, [l0, l1], st, M) = am_run G d K_Ha_hasSurface (22, [l0, l1], .int 1 :: st, M) := am_run_next (x := (.iconst 1, 1, 0, 0, 0, 0)) (by decide +kernel) rfl
theorem r_Ha_hasSurface_22 {G : Nat → Value} {d : Nat} {st : List Value} {M : am_M} {l0 l1 : Option Value} : am_run G d K_Ha_hasSurface (22, [l0, l1], st, M) = am_run G d K_Ha_hasSurface (26, [l0, l1], st, M) := am_run_next (x := (.goto 4, 3, 0, 0, 0, 0)) (by decide +kernel) rfl
theorem r_Ha_hasSurface_25 {G : Nat → Value} {d : Nat} {st : List Value} {M : am_M} {l0 l1 : Option Value} : am_run G d K_Ha_hasSurface (25, [l0, l1], st, M) = am_run G d K_Ha_hasSurface (26, [l0, l1], .int 0 :: st, M) := am_run_next (x := (.iconst 0, 1, 0, 0, 0, 0)) (by decide +kernel) rfl
theorem r_Ha_hasSurface_26 {G : Nat → Value} {d : Nat} {M : am_M} {l0 l1 : Option Value} {a : Int32} (ha : a = 0 ∨ a = 1) : am_run G d K_Ha_hasSurface (26, [l0, l1], [.int a], M) = some (some (.int a), M) := am_run_ret (x := (.ireturn, 1, 0, 0, 0, 0)) (by decide +kernel) (if_pos (decide_eq_true ha))
theorem r_Ha_coverWith_0 {G : Nat → Value} {d : Nat} {st : List Value} {M : am_M} {l1 l2 l3 : Option Value} {v : Value} (hv : am_isr v = true) : am_run G d K_Ha_coverWith (0, [some v, l1, l2, l3], st, M) = am_run G d K_Ha_coverWith (1, [some v, l1, l2, l3], v :: st, M) := by
  rcases am_isr_cases hv with ⟨q, rfl⟩ | rfl
  · exact am_run_next (x := (.aload_n 0, 1, 0, 0, 0, 0)) (by decide +kernel) rfl
  · exact am_run_next (x := (.aload_n 0, 1, 0, 0, 0, 0)) (by decide +kernel) rfl
theorem r_Ha_coverWith_1 {G : Nat → Value} {d : Nat} {st : List Value} {M : am_M} {l0 l2 l3 : Option Value} {v : Int32} : am_run G d K_Ha_coverWith (1, [l0, some (.int v), l2, l3], st, M) = am_run G d K_Ha_coverWith (2, [l0, some (.int v), l2, l3], .int v :: st, M) := am_run_next (x := (.iload_n 1, 1, 0, 0, 0, 0)) (by decide +kernel) rfl
theorem r_Ha_coverWith_2 {G : Nat → Value} {d : Nat} {st : List Value} {M : am_M} {l0 l1 l2 l3 : Option Value} {q : Nat} {a0 : Int32} (hq : am_cls M q = some 2) (h8 : am_sw st ≤ 8) : am_run G d K_Ha_coverWith (2, [l0, l1, l2, l3], .int a0 :: .ref q :: st, M) = am_k G d K_Ha_coverWith 5 [l0, l1, l2, l3] st (am_ex G d K_Ha_hasSurface [.ref q, .int a0] M) := am_run_iv (i := 36) (n := 1) (pl := 3028) (Bs := [.int a0]) (z := K_Ha_hasSurface) (by decide +kernel) hq h8 rfl (Nat.le_of_ble_eq_true rfl) rfl
theorem r_Ha_coverWith_5 {G : Nat → Value} {d : Nat} {st : List Value} {M : am_M} {l0 l1 l2 l3 : Option Value} {a : Int32} : am_run G d K_Ha_coverWith (5, [l0, l1, l2, l3], .int a :: st, M) = if ¬ a = 0 then am_run G d K_Ha_coverWith (11, [l0, l1, l2, l3], st, M) else am_run G d K_Ha_coverWith (8, [l0, l1, l2, l3], st, M) := by
  split
  · next h => exact am_run_next (x := (.ifCond .ne 6, 3, 0, 0, 0, 0)) (by decide +kernel) (am_br_t (decide_eq_true h) (by decide))
  · next h => exact am_run_next (x := (.ifCond .ne 6, 3, 0, 0, 0, 0)) (by decide +kernel) (am_br_f (decide_eq_false h) (by decide))
theorem r_Ha_coverWith_8 {G : Nat → Value} {d : Nat} {st : List Value} {M : am_M} {l0 l1 l2 l3 : Option Value} : am_run G d K_Ha_coverWith (8, [l0, l1, l2, l3], st, M) = am_run G d K_Ha_coverWith (10, [l0, l1, l2, l3], .int (-2) :: st, M) := am_run_next (x := (.bipush (-2), 2, 0, 0, 0, 0)) (by decide +kernel) rfl
theorem r_Ha_coverWith_10 {G : Nat → Value} {d : Nat} {M : am_M} {l0 l1 l2 l3 : Option Value} {a : Int32} : am_run G d K_Ha_coverWith (10, [l0, l1, l2, l3], [.int a], M) = some (some (.int a), M) := am_run_ret (x := (.ireturn, 1, 0, 0, 0, 0)) (by decide +kernel) rfl
theorem r_Ha_coverWith_11 {G : Nat → Value} {d : Nat} {st : List Value} {M : am_M} {l1 l2 l3 : Option Value} {v : Value} (hv : am_isr v = true) : am_run G d K_Ha_coverWith (11, [some v, l1, l2, l3], st, M) = am_run G d K_Ha_coverWith (12, [some v, l1, l2, l3], v :: st, M) := by
  rcases am_isr_cases hv with ⟨q, rfl⟩ | rfl
  · exact am_run_next (x := (.aload_n 0, 1, 0, 0, 0, 0)) (by decide +kernel) rfl
  · exact am_run_next (x := (.aload_n 0, 1, 0, 0, 0, 0)) (by decide +kernel) rfl
theorem r_Ha_coverWith_12 {G : Nat → Value} {d : Nat} {st : List Value} {M : am_M} {l0 l1 l2 l3 : Option Value} {a : Nat} : am_run G d K_Ha_coverWith (12, [l0, l1, l2, l3], .ref a :: st, M) = am_kf G d K_Ha_coverWith 15 [l0, l1, l2, l3] st M (am_fld M a 2 3) := am_run_kf (x := (.getfield 9, 3, 2, 3, 2215, 0)) (by decide +kernel) rfl
theorem r_Ha_coverWith_15 {G : Nat → Value} {d : Nat} {st : List Value} {M : am_M} {l0 l2 l3 : Option Value} {v : Int32} : am_run G d K_Ha_coverWith (15, [l0, some (.int v), l2, l3], st, M) = am_run G d K_Ha_coverWith (16, [l0, some (.int v), l2, l3], .int v :: st, M) := am_run_next (x := (.iload_n 1, 1, 0, 0, 0, 0)) (by decide +kernel) rfl
theorem r_Ha_coverWith_16 {G : Nat → Value} {d : Nat} {st : List Value} {M : am_M} {l0 l1 l2 l3 : Option Value} {a : Nat} {i : Int32} : am_run G d K_Ha_coverWith (16, [l0, l1, l2, l3], .int i :: .ref a :: st, M) = am_kf G d K_Ha_coverWith 17 [l0, l1, l2, l3] st M (am_ag 0 M a i) := am_run_kf (x := (.iaload, 1, 0, 0, 0, 0)) (by decide +kernel) rfl
theorem r_Ha_coverWith_17 {G : Nat → Value} {d : Nat} {st : List Value} {M : am_M} {l0 l1 l2 l3 : Option Value} {v : Int32} (hc : am_c1 l2 = true) : am_run G d K_Ha_coverWith (17, [l0, l1, l2, l3], .int v :: st, M) = am_run G d K_Ha_coverWith (18, [l0, l1, l2, some (.int v)], st, M) := by
  rcases am_c1_cases hc with rfl | ⟨q, rfl⟩ | ⟨q, rfl⟩ | rfl
  · exact am_run_next (x := (.istore_n 3, 1, 0, 0, 0, 0)) (by decide +kernel) rfl
  · exact am_run_next (x := (.istore_n 3, 1, 0, 0, 0, 0)) (by decide +kernel) rfl
  · exact am_run_next (x := (.istore_n 3, 1, 0, 0, 0, 0)) (by decide +kernel) rfl
  · exact am_run_next (x := (.istore_n 3, 1, 0, 0, 0, 0)) (by decide +kernel) rfl
theorem r_Ha_coverWith_17_k {G : Nat → Value} {d : Nat} {st : List Value} {M : am_M} {l0 l1 l3 : Option Value} {v : Int32} {z : Int64} : am_run G d K_Ha_coverWith (17, [l0, l1, some (.long z), l3], .int v :: st, M) = am_run G d K_Ha_coverWith (18, [l0, l1, none, some (.int v)], st, M) := am_run_next (x := (.istore_n 3, 1, 0, 0, 0, 0)) (by decide +kernel) rfl
theorem r_Ha_coverWith_18 {G : Nat → Value} {d : Nat} {st : List Value} {M : am_M} {l1 l2 l3 : Option Value} {v : Value} (hv : am_isr v = true) : am_run G d K_Ha_coverWith (18, [some v, l1, l2, l3], st, M) = am_run G d K_Ha_coverWith (19, [some v, l1, l2, l3], v :: st, M) := by
  rcases am_isr_cases hv with ⟨q, rfl⟩ | rfl
  · exact am_run_next (x := (.aload_n 0, 1, 0, 0, 0, 0)) (by decide +kernel) rfl
  · exact am_run_next (x := (.aload_n 0, 1, 0, 0, 0, 0)) (by decide +kernel) rfl
theorem r_Ha_coverWith_19 {G : Nat → Value} {d : Nat} {st : List Value} {M : am_M} {l0 l1 l2 l3 : Option Value} {a : Nat} : am_run G d K_Ha_coverWith (19, [l0, l1, l2, l3], .ref a :: st, M) = am_kf G d K_Ha_coverWith 22 [l0, l1, l2, l3] st M (am_fld M a 2 3) := am_run_kf (x := (.getfield 9, 3, 2, 3, 2215, 0)) (by decide +kernel) rfl
theorem r_Ha_coverWith_22 {G : Nat → Value} {d : Nat} {st : List Value} {M : am_M} {l0 l2 l3 : Option Value} {v : Int32} : am_run G d K_Ha_coverWith (22, [l0, some (.int v), l2, l3], st, M) = am_run G d K_Ha_coverWith (23, [l0, some (.int v), l2, l3], .int v :: st, M) := am_run_next (x := (.iload_n 1, 1, 0, 0, 0, 0)) (by decide +kernel) rfl
theorem r_Ha_coverWith_23 {G : Nat → Value} {d : Nat} {st : List Value} {M : am_M} {l0 l1 l3 : Option Value} {v : Int32} : am_run G d K_Ha_coverWith (23, [l0, l1, some (.int v), l3], st, M) = am_run G d K_Ha_coverWith (24, [l0, l1, some (.int v), l3], .int v :: st, M) := am_run_next (x := (.iload_n 2, 1, 0, 0, 0, 0)) (by decide +kernel) rfl
theorem r_Ha_coverWith_24 {G : Nat → Value} {d : Nat} {st : List Value} {M : am_M} {l0 l1 l2 l3 : Option Value} {a : Nat} {i x : Int32} : am_run G d K_Ha_coverWith (24, [l0, l1, l2, l3], .int x :: .int i :: .ref a :: st, M) = am_km G d K_Ha_coverWith 25 [l0, l1, l2, l3] st (am_pi M a i x) := am_run_km (x := (.iastore, 1, 0, 0, 0, 0)) (by decide +kernel) rfl
theorem r_Ha_coverWith_25 {G : Nat → Value} {d : Nat} {st : List Value} {M : am_M} {l0 l1 l2 : Option Value} {v : Int32} : am_run G d K_Ha_coverWith (25, [l0, l1, l2, some (.int v)], st, M) = am_run G d K_Ha_coverWith (26, [l0, l1, l2, some (.int v)], .int v :: st, M) := am_run_next (x := (.iload_n 3, 1, 0, 0, 0, 0)) (by decide +kernel) rfl
theorem r_Ha_coverWith_26 {G : Nat → Value} {d : Nat} {M : am_M} {l0 l1 l2 l3 : Option Value} {a : Int32} : am_run G d K_Ha_coverWith (26, [l0, l1, l2, l3], [.int a], M) = some (some (.int a), M) := am_run_ret (x := (.ireturn, 1, 0, 0, 0, 0)) (by decide +kernel) rfl
theorem r_H_set_0 {G : Nat → Value} {d : Nat} {st : List Value} {M : am_M} {l0 l2 l3 : Option Value} {v : Int32} : am_run G d K_H_set (0, [l0, some (.int v), l2, l3], st, M) = am_run G d K_H_set (1, [l0, some (.int v), l2, l3], .int v :: st, M) := am_run_next (x := (.iload_n 1, 1, 0, 0, 0, 0)) (by decide +kernel) rfl
theorem r_H_set_1 {G : Nat → Value} {d : Nat} {st : List Value} {M : am_M} {l0 l1 l2 l3 : Option Value} : am_run G d K_H_set (1, [l0, l1, l2, l3], st, M) = am_run G d K_H_set (2, [l0, l1, l2, l3], .int 0 :: st, M) := am_run_next (x := (.iconst 0, 1, 0, 0, 0, 0)) (by decide +kernel) rfl
theorem r_H_set_2 {G : Nat → Value} {d : Nat} {st : List Value} {M : am_M} {l0 l1 l2 l3 : Option Value} : am_run G d K_H_set (2, [l0, l1, l2, l3], st, M) = am_run G d K_H_set (3, [l0, l1, l2, l3], .int 3 :: st, M) := am_run_next (x := (.iconst 3, 1, 0, 0, 0, 0)) (by decide +kernel) rfl
theorem r_H_set_3 {G : Nat → Value} {d : Nat} {st : List Value} {M : am_M} {l0 l1 l2 l3 : Option Value} {a0 : Int32} {a1 : Int32} {a2 : Int32} (h8 : am_sw st ≤ 8) : am_run G d K_H_set (3, [l0, l1, l2, l3], .int a2 :: .int a1 :: .int a0 :: st, M) = am_k G d K_H_set 6 [l0, l1, l2, l3] st (am_ex G d K_H_within [.int a0, .int a1, .int a2] M) := am_run_is (i := 92) (n := 3) (pl := 2184) (Bs := [.int a0, .int a1, .int a2]) (z := K_H_within) (v := 1) (by decide) (by decide) (by decide +kernel) h8 rfl (Nat.le_of_ble_eq_true rfl) rfl
theorem r_H_set_6 {G : Nat → Value} {d : Nat} {st : List Value} {M : am_M} {l0 l1 l2 l3 : Option Value} {a : Int32} : am_run G d K_H_set (6, [l0, l1, l2, l3], .int a :: st, M) = if a = 0 then am_run G d K_H_set (28, [l0, l1, l2, l3], st, M) else am_run G d K_H_set (9, [l0, l1, l2, l3], st, M) := by
  split
  · next h => exact am_run_next (x := (.ifCond .eq 22, 3, 0, 0, 0, 0)) (by decide +kernel) (am_br_t (decide_eq_true h) (by decide))
  · next h => exact am_run_next (x := (.ifCond .eq 22, 3, 0, 0, 0, 0)) (by decide +kernel) (am_br_f (decide_eq_false h) (by decide))
theorem r_H_set_9 {G : Nat → Value} {d : Nat} {st : List Value} {M : am_M} {l0 l1 l3 : Option Value} {v : Int32} : am_run G d K_H_set (9, [l0, l1, some (.int v), l3], st, M) = am_run G d K_H_set (10, [l0, l1, some (.int v), l3], .int v :: st, M) := am_run_next (x := (.iload_n 2, 1, 0, 0, 0, 0)) (by decide +kernel) rfl
theorem r_H_set_10 {G : Nat → Value} {d : Nat} {st : List Value} {M : am_M} {l0 l2 l3 : Option Value} {v : Int32} : am_run G d K_H_set (10, [l0, some (.int v), l2, l3], st, M) = am_run G d K_H_set (11, [l0, some (.int v), l2, l3], .int v :: st, M) := am_run_next (x := (.iload_n 1, 1, 0, 0, 0, 0)) (by decide +kernel) rfl
theorem r_H_set_11 {G : Nat → Value} {d : Nat} {st : List Value} {M : am_M} {l0 l1 l2 l3 : Option Value} {a : Int32} : am_run G d K_H_set (11, [l0, l1, l2, l3], .int a :: st, M) = if ¬ a = 0 then am_run G d K_H_set (18, [l0, l1, l2, l3], st, M) else am_run G d K_H_set (14, [l0, l1, l2, l3], st, M) := by
  split
  · next h => exact am_run_next (x := (.ifCond .ne 7, 3, 0, 0, 0, 0)) (by decide +kernel) (am_br_t (decide_eq_true h) (by decide))
  · next h => exact am_run_next (x := (.ifCond .ne 7, 3, 0, 0, 0, 0)) (by decide +kernel) (am_br_f (decide_eq_false h) (by decide))
theorem r_H_set_14 {G : Nat → Value} {d : Nat} {st : List Value} {M : am_M} {l0 l1 l2 l3 : Option Value} : am_run G d K_H_set (14, [l0, l1, l2, l3], st, M) = am_run G d K_H_set (15, [l0, l1, l2, l3], .int 1 :: st, M) := am_run_next (x := (.iconst 1, 1, 0, 0, 0, 0)) (by decide +kernel) rfl
theorem r_H_set_15 {G : Nat → Value} {d : Nat} {st : List Value} {M : am_M} {l0 l1 l2 l3 : Option Value} : am_run G d K_H_set (15, [l0, l1, l2, l3], st, M) = am_run G d K_H_set (19, [l0, l1, l2, l3], st, M) := am_run_next (x := (.goto 4, 3, 0, 0, 0, 0)) (by decide +kernel) rfl
theorem r_H_set_18 {G : Nat → Value} {d : Nat} {st : List Value} {M : am_M} {l0 l1 l2 l3 : Option Value} : am_run G d K_H_set (18, [l0, l1, l2, l3], st, M) = am_run G d K_H_set (19, [l0, l1, l2, l3], .int 0 :: st, M) := am_run_next (x := (.iconst 0, 1, 0, 0, 0, 0)) (by decide +kernel) rfl
theorem r_H_set_19 {G : Nat → Value} {d : Nat} {st : List Value} {M : am_M} {l0 l1 l2 l3 : Option Value} : am_run G d K_H_set (19, [l0, l1, l2, l3], st, M) = am_run G d K_H_set (22, [l0, l1, l2, l3], .int 999 :: st, M) := am_run_next (x := (.sipush 999, 3, 0, 0, 0, 0)) (by decide +kernel) rfl
theorem r_H_set_22 {G : Nat → Value} {d : Nat} {st : List Value} {M : am_M} {l0 l1 l2 l3 : Option Value} {a0 : Int32} {a1 : Int32} {a2 : Int32} (h8 : am_sw st ≤ 8) : am_run G d K_H_set (22, [l0, l1, l2, l3], .int a2 :: .int a1 :: .int a0 :: st, M) = am_k G d K_H_set 25 [l0, l1, l2, l3] st (am_ex G d K_H_within [.int a0, .int a1, .int a2] M) := am_run_is (i := 92) (n := 3) (pl := 2184) (Bs := [.int a0, .int a1, .int a2]) (z := K_H_within) (v := 1) (by decide) (by decide) (by decide +kernel) h8 rfl (Nat.le_of_ble_eq_true rfl) rfl
theorem r_H_set_25 {G : Nat → Value} {d : Nat} {st : List Value} {M : am_M} {l0 l1 l2 l3 : Option Value} {a : Int32} : am_run G d K_H_set (25, [l0, l1, l2, l3], .int a :: st, M) = if ¬ a = 0 then am_run G d K_H_set (31, [l0, l1, l2, l3], st, M) else am_run G d K_H_set (28, [l0, l1, l2, l3], st, M) := by
  split
  · next h => exact am_run_next (x := (.ifCond .ne 6, 3, 0, 0, 0, 0)) (by decide +kernel) (am_br_t (decide_eq_true h) (by decide))
  · next h => exact am_run_next (x := (.ifCond .ne 6, 3, 0, 0, 0, 0)) (by decide +kernel) (am_br_f (decide_eq_false h) (by decide))
theorem r_H_set_28 {G : Nat → Value} {d : Nat} {st : List Value} {M : am_M} {l0 l1 l2 l3 : Option Value} : am_run G d K_H_set (28, [l0, l1, l2, l3], st, M) = am_run G d K_H_set (30, [l0, l1, l2, l3], .int (-2) :: st, M) := am_run_next (x := (.bipush (-2), 2, 0, 0, 0, 0)) (by decide +kernel) rfl
theorem r_H_set_30 {G : Nat → Value} {d : Nat} {M : am_M} {l0 l1 l2 l3 : Option Value} {a : Int32} : am_run G d K_H_set (30, [l0, l1, l2, l3], [.int a], M) = some (some (.int a), M) := am_run_ret (x := (.ireturn, 1, 0, 0, 0, 0)) (by decide +kernel) rfl
theorem r_H_set_31 {G : Nat → Value} {d : Nat} {st : List Value} {M : am_M} {l1 l2 l3 : Option Value} {v : Value} (hv : am_isr v = true) : am_run G d K_H_set (31, [some v, l1, l2, l3], st, M) = am_run G d K_H_set (32, [some v, l1, l2, l3], v :: st, M) := by
  rcases am_isr_cases hv with ⟨q, rfl⟩ | rfl
  · exact am_run_next (x := (.aload_n 0, 1, 0, 0, 0, 0)) (by decide +kernel) rfl
  · exact am_run_next (x := (.aload_n 0, 1, 0, 0, 0, 0)) (by decide +kernel) rfl
theorem r_H_set_32 {G : Nat → Value} {d : Nat} {st : List Value} {M : am_M} {l0 l1 l2 l3 : Option Value} {a : Nat} : am_run G d K_H_set (32, [l0, l1, l2, l3], .ref a :: st, M) = am_kf G d K_H_set 35 [l0, l1, l2, l3] st M (am_fld M a 9 9) := am_run_kf (x := (.getfield 39, 3, 9, 9, 2133, 0)) (by decide +kernel) rfl
theorem r_H_set_35 {G : Nat → Value} {d : Nat} {st : List Value} {M : am_M} {l0 l2 l3 : Option Value} {v : Int32} : am_run G d K_H_set (35, [l0, some (.int v), l2, l3], st, M) = am_run G d K_H_set (36, [l0, some (.int v), l2, l3], .int v :: st, M) := am_run_next (x := (.iload_n 1, 1, 0, 0, 0, 0)) (by decide +kernel) rfl
theorem r_H_set_36 {G : Nat → Value} {d : Nat} {st : List Value} {M : am_M} {l0 l1 l2 l3 : Option Value} {a : Nat} {i : Int32} : am_run G d K_H_set (36, [l0, l1, l2, l3], .int i :: .ref a :: st, M) = am_kf G d K_H_set 37 [l0, l1, l2, l3] st M (am_ag 0 M a i) := am_run_kf (x := (.iaload, 1, 0, 0, 0, 0)) (by decide +kernel) rfl
theorem r_H_set_37 {G : Nat → Value} {d : Nat} {st : List Value} {M : am_M} {l0 l1 l2 l3 : Option Value} {v : Int32} (hc : am_c1 l2 = true) : am_run G d K_H_set (37, [l0, l1, l2, l3], .int v :: st, M) = am_run G d K_H_set (38, [l0, l1, l2, some (.int v)], st, M) := by
  rcases am_c1_cases hc with rfl | ⟨q, rfl⟩ | ⟨q, rfl⟩ | rfl
  · exact am_run_next (x := (.istore_n 3, 1, 0, 0, 0, 0)) (by decide +kernel) rfl
  · exact am_run_next (x := (.istore_n 3, 1, 0, 0, 0, 0)) (by decide +kernel) rfl
  · exact am_run_next (x := (.istore_n 3, 1, 0, 0, 0, 0)) (by decide +kernel) rfl
  · exact am_run_next (x := (.istore_n 3, 1, 0, 0, 0, 0)) (by decide +kernel) rfl
theorem r_H_set_37_k {G : Nat → Value} {d : Nat} {st : List Value} {M : am_M} {l0 l1 l3 : Option Value} {v : Int32} {z : Int64} : am_run G d K_H_set (37, [l0, l1, some (.long z), l3], .int v :: st, M) = am_run G d K_H_set (38, [l0, l1, none, some (.int v)], st, M) := am_run_next (x := (.istore_n 3, 1, 0, 0, 0, 0)) (by decide +kernel) rfl
theorem r_H_set_38 {G : Nat → Value} {d : Nat} {st : List Value} {M : am_M} {l1 l2 l3 : Option Value} {v : Value} (hv : am_isr v = true) : am_run G d K_H_set (38, [some v, l1, l2, l3], st, M) = am_run G d K_H_set (39, [some v, l1, l2, l3], v :: st, M) := by
  rcases am_isr_cases hv with ⟨q, rfl⟩ | rfl
  · exact am_run_next (x := (.aload_n 0, 1, 0, 0, 0, 0)) (by decide +kernel) rfl
  · exact am_run_next (x := (.aload_n 0, 1, 0, 0, 0, 0)) (by decide +kernel) rfl
theorem r_H_set_39 {G : Nat → Value} {d : Nat} {st : List Value} {M : am_M} {l0 l1 l2 l3 : Option Value} {a : Nat} : am_run G d K_H_set (39, [l0, l1, l2, l3], .ref a :: st, M) = am_kf G d K_H_set 42 [l0, l1, l2, l3] st M (am_fld M a 9 9) := am_run_kf (x := (.getfield 39, 3, 9, 9, 2133, 0)) (by decide +kernel) rfl
theorem r_H_set_42 {G : Nat → Value} {d : Nat} {st : List Value} {M : am_M} {l0 l2 l3 : Option Value} {v : Int32} : am_run G d K_H_set (42, [l0, some (.int v), l2, l3], st, M) = am_run G d K_H_set (43, [l0, some (.int v), l2, l3], .int v :: st, M) := am_run_next (x := (.iload_n 1, 1, 0, 0, 0, 0)) (by decide +kernel) rfl
theorem r_H_set_43 {G : Nat → Value} {d : Nat} {st : List Value} {M : am_M} {l0 l1 l3 : Option Value} {v : Int32} : am_run G d K_H_set (43, [l0, l1, some (.int v), l3], st, M) = am_run G d K_H_set (44, [l0, l1, some (.int v), l3], .int v :: st, M) := am_run_next (x := (.iload_n 2, 1, 0, 0, 0, 0)) (by decide +kernel) rfl
theorem r_H_set_44 {G : Nat → Value} {d : Nat} {st : List Value} {M : am_M} {l0 l1 l2 l3 : Option Value} {a : Nat} {i x : Int32} : am_run G d K_H_set (44, [l0, l1, l2, l3], .int x :: .int i :: .ref a :: st, M) = am_km G d K_H_set 45 [l0, l1, l2, l3] st (am_pi M a i x) := am_run_km (x := (.iastore, 1, 0, 0, 0, 0)) (by decide +kernel) rfl
theorem r_H_set_45 {G : Nat → Value} {d : Nat} {st : List Value} {M : am_M} {l0 l1 l2 : Option Value} {v : Int32} : am_run G d K_H_set (45, [l0, l1, l2, some (.int v)], st, M) = am_run G d K_H_set (46, [l0, l1, l2, some (.int v)], .int v :: st, M) := am_run_next (x := (.iload_n 3, 1, 0, 0, 0, 0)) (by decide +kernel) rfl
theorem r_H_set_46 {G : Nat → Value} {d : Nat} {M : am_M} {l0 l1 l2 l3 : Option Value} {a : Int32} : am_run G d K_H_set (46, [l0, l1, l2, l3], [.int a], M) = some (some (.int a), M) := am_run_ret (x := (.ireturn, 1, 0, 0, 0, 0)) (by decide +kernel) rfl
theorem r_H_eaten_0 {G : Nat → Value} {d : Nat} {st : List Value} {M : am_M} {l1 l2 l3 l4 l5 l6 : Option Value} {v : Value} (hv : am_isr v = true) : am_run G d K_H_eaten (0, [some v, l1, l2, l3, l4, l5, l6], st, M) = am_run G d K_H_eaten (1, [some v, l1, l2, l3, l4, l5, l6], v :: st, M) := by
  rcases am_isr_cases hv with ⟨q, rfl⟩ | rfl
  · exact am_run_next (x := (.aload_n 0, 1, 0, 0, 0, 0)) (by decide +kernel) rfl
  · exact am_run_next (x := (.aload_n 0, 1, 0, 0, 0, 0)) (by decide +kernel) rfl
theorem r_H_eaten_1 {G : Nat → Value} {d : Nat} {st : List Value} {M : am_M} {l0 l2 l3 l4 l5 l6 : Option Value} {v : Int32} : am_run G d K_H_eaten (1, [l0, some (.int v), l2, l3, l4, l5, l6], st, M) = am_run G d K_H_eaten (2, [l0, some (.int v), l2, l3, l4, l5, l6], .int v :: st, M) := am_run_next (x := (.iload_n 1, 1, 0, 0, 0, 0)) (by decide +kernel) rfl
theorem r_H_eaten_2 {G : Nat → Value} {d : Nat} {st : List Value} {M : am_M} {l0 l1 l2 l3 l4 l5 l6 : Option Value} {q : Nat} {a0 : Int32} (hq : am_cls M q = some 9) (h8 : am_sw st ≤ 8) : am_run G d K_H_eaten (2, [l0, l1, l2, l3, l4, l5, l6], .int a0 :: .ref q :: st, M) = am_k G d K_H_eaten 5 [l0, l1, l2, l3, l4, l5, l6] st (am_ex G d K_H_hallAt [.ref q, .int a0] M) := am_run_iv (i := 109) (n := 1) (pl := 3004) (Bs := [.int a0]) (z := K_H_hallAt) (by decide +kernel) hq h8 rfl (Nat.le_of_ble_eq_true rfl) rfl
theorem r_H_eaten_5 {G : Nat → Value} {d : Nat} {st : List Value} {M : am_M} {l0 l1 l2 l3 l4 l5 l6 : Option Value} {v : Value} (hv : am_isr v = true) (hc : am_c1 l3 = true) : am_run G d K_H_eaten (5, [l0, l1, l2, l3, l4, l5, l6], v :: st, M) = am_run G d K_H_eaten (7, [l0, l1, l2, l3, some v, l5, l6], st, M) := by
  rcases am_isr_cases hv with ⟨q1, rfl⟩ | rfl
  · rcases am_c1_cases hc with rfl | ⟨q, rfl⟩ | ⟨q, rfl⟩ | rfl
    · exact am_run_next (x := (.astore 4, 2, 0, 0, 0, 0)) (by decide +kernel) rfl
    · exact am_run_next (x := (.astore 4, 2, 0, 0, 0, 0)) (by decide +kernel) rfl
    · exact am_run_next (x := (.astore 4, 2, 0, 0, 0, 0)) (by decide +kernel) rfl
    · exact am_run_next (x := (.astore 4, 2, 0, 0, 0, 0)) (by decide +kernel) rfl
  · rcases am_c1_cases hc with rfl | ⟨q, rfl⟩ | ⟨q, rfl⟩ | rfl
    · exact am_run_next (x := (.astore 4, 2, 0, 0, 0, 0)) (by decide +kernel) rfl
    · exact am_run_next (x := (.astore 4, 2, 0, 0, 0, 0)) (by decide +kernel) rfl
    · exact am_run_next (x := (.astore 4, 2, 0, 0, 0, 0)) (by decide +kernel) rfl
    · exact am_run_next (x := (.astore 4, 2, 0, 0, 0, 0)) (by decide +kernel) rfl
theorem r_H_eaten_5_k {G : Nat → Value} {d : Nat} {st : List Value} {M : am_M} {l0 l1 l2 l4 l5 l6 : Option Value} {v : Value} {z : Int64} (hv : am_isr v = true) : am_run G d K_H_eaten (5, [l0, l1, l2, some (.long z), l4, l5, l6], v :: st, M) = am_run G d K_H_eaten (7, [l0, l1, l2, none, some v, l5, l6], st, M) := by
  rcases am_isr_cases hv with ⟨q, rfl⟩ | rfl
  · exact am_run_next (x := (.astore 4, 2, 0, 0, 0, 0)) (by decide +kernel) rfl
  · exact am_run_next (x := (.astore 4, 2, 0, 0, 0, 0)) (by decide +kernel) rfl
theorem r_H_eaten_7 {G : Nat → Value} {d : Nat} {st : List Value} {M : am_M} {l0 l1 l2 l3 l5 l6 : Option Value} {v : Value} (hv : am_isr v = true) : am_run G d K_H_eaten (7, [l0, l1, l2, l3, some v, l5, l6], st, M) = am_run G d K_H_eaten (9, [l0, l1, l2, l3, some v, l5, l6], v :: st, M) := by
  rcases am_isr_cases hv with ⟨q, rfl⟩ | rfl
  · exact am_run_next (x := (.aload 4, 2, 0, 0, 0, 0)) (by decide +kernel) rfl
  · exact am_run_next (x := (.aload 4, 2, 0, 0, 0, 0)) (by decide +kernel) rfl
theorem r_H_eaten_9 {G : Nat → Value} {d : Nat} {st : List Value} {M : am_M} {l0 l1 l2 l3 l4 l5 l6 : Option Value} {v : Value} (hv : am_isr v = true) : am_run G d K_H_eaten (9, [l0, l1, l2, l3, l4, l5, l6], v :: st, M) = if v = .null then am_run G d K_H_eaten (30, [l0, l1, l2, l3, l4, l5, l6], st, M) else am_run G d K_H_eaten (12, [l0, l1, l2, l3, l4, l5, l6], st, M) := by
  split
  · next h => exact am_run_next (x := (.ifnull 21, 3, 0, 0, 0, 0)) (by decide +kernel) ((if_pos hv).trans (am_br_t (decide_eq_true h) (by decide)))
  · next h => exact am_run_next (x := (.ifnull 21, 3, 0, 0, 0, 0)) (by decide +kernel) ((if_pos hv).trans (am_br_f (decide_eq_false h) (by decide)))
theorem r_H_eaten_12 {G : Nat → Value} {d : Nat} {st : List Value} {M : am_M} {l0 l1 l3 l4 l5 l6 : Option Value} {v : Int32} : am_run G d K_H_eaten (12, [l0, l1, some (.int v), l3, l4, l5, l6], st, M) = am_run G d K_H_eaten (13, [l0, l1, some (.int v), l3, l4, l5, l6], .int v :: st, M) := am_run_next (x := (.iload_n 2, 1, 0, 0, 0, 0)) (by decide +kernel) rfl
theorem r_H_eaten_13 {G : Nat → Value} {d : Nat} {st : List Value} {M : am_M} {l0 l1 l2 l3 l4 l5 l6 : Option Value} : am_run G d K_H_eaten (13, [l0, l1, l2, l3, l4, l5, l6], st, M) = am_run G d K_H_eaten (14, [l0, l1, l2, l3, l4, l5, l6], .int 0 :: st, M) := am_run_next (x := (.iconst 0, 1, 0, 0, 0, 0)) (by decide +kernel) rfl
theorem r_H_eaten_14 {G : Nat → Value} {d : Nat} {st : List Value} {M : am_M} {l0 l1 l2 l3 l4 l5 l6 : Option Value} : am_run G d K_H_eaten (14, [l0, l1, l2, l3, l4, l5, l6], st, M) = am_run G d K_H_eaten (15, [l0, l1, l2, l3, l4, l5, l6], .int 2 :: st, M) := am_run_next (x := (.iconst 2, 1, 0, 0, 0, 0)) (by decide +kernel) rfl
theorem r_H_eaten_15 {G : Nat → Value} {d : Nat} {st : List Value} {M : am_M} {l0 l1 l2 l3 l4 l5 l6 : Option Value} {a0 : Int32} {a1 : Int32} {a2 : Int32} (h8 : am_sw st ≤ 8) : am_run G d K_H_eaten (15, [l0, l1, l2, l3, l4, l5, l6], .int a2 :: .int a1 :: .int a0 :: st, M) = am_k G d K_H_eaten 18 [l0, l1, l2, l3, l4, l5, l6] st (am_ex G d K_H_within [.int a0, .int a1, .int a2] M) := am_run_is (i := 92) (n := 3) (pl := 2184) (Bs := [.int a0, .int a1, .int a2]) (z := K_H_within) (v := 1) (by decide) (by decide) (by decide +kernel) h8 rfl (Nat.le_of_ble_eq_true rfl) rfl
theorem r_H_eaten_18 {G : Nat → Value} {d : Nat} {st : List Value} {M : am_M} {l0 l1 l2 l3 l4 l5 l6 : Option Value} {a : Int32} : am_run G d K_H_eaten (18, [l0, l1, l2, l3, l4, l5, l6], .int a :: st, M) = if a = 0 then am_run G d K_H_eaten (30, [l0, l1, l2, l3, l4, l5, l6], st, M) else am_run G d K_H_eaten (21, [l0, l1, l2, l3, l4, l5, l6], st, M) := by
  split
  · next h => exact am_run_next (x := (.ifCond .eq 12, 3, 0, 0, 0, 0)) (by decide +kernel) (am_br_t (decide_eq_true h) (by decide))
  · next h => exact am_run_next (x := (.ifCond .eq 12, 3, 0, 0, 0, 0)) (by decide +kernel) (am_br_f (decide_eq_false h) (by decide))
theorem r_H_eaten_21 {G : Nat → Value} {d : Nat} {st : List Value} {M : am_M} {l0 l1 l2 l4 l5 l6 : Option Value} {v : Int32} : am_run G d K_H_eaten (21, [l0, l1, l2, some (.int v), l4, l5, l6], st, M) = am_run G d K_H_eaten (22, [l0, l1, l2, some (.int v), l4, l5, l6], .int v :: st, M) := am_run_next (x := (.iload_n 3, 1, 0, 0, 0, 0)) (by decide +kernel) rfl
theorem r_H_eaten_22 {G : Nat → Value} {d : Nat} {st : List Value} {M : am_M} {l0 l1 l2 l3 l4 l5 l6 : Option Value} : am_run G d K_H_eaten (22, [l0, l1, l2, l3, l4, l5, l6], st, M) = am_run G d K_H_eaten (23, [l0, l1, l2, l3, l4, l5, l6], .int 0 :: st, M) := am_run_next (x := (.iconst 0, 1, 0, 0, 0, 0)) (by decide +kernel) rfl
theorem r_H_eaten_23 {G : Nat → Value} {d : Nat} {st : List Value} {M : am_M} {l0 l1 l2 l3 l4 l5 l6 : Option Value} : am_run G d K_H_eaten (23, [l0, l1, l2, l3, l4, l5, l6], st, M) = am_run G d K_H_eaten (24, [l0, l1, l2, l3, l4, l5, l6], .int 1 :: st, M) := am_run_next (x := (.iconst 1, 1, 0, 0, 0, 0)) (by decide +kernel) rfl
theorem r_H_eaten_24 {G : Nat → Value} {d : Nat} {st : List Value} {M : am_M} {l0 l1 l2 l3 l4 l5 l6 : Option Value} {a0 : Int32} {a1 : Int32} {a2 : Int32} (h8 : am_sw st ≤ 8) : am_run G d K_H_eaten (24, [l0, l1, l2, l3, l4, l5, l6], .int a2 :: .int a1 :: .int a0 :: st, M) = am_k G d K_H_eaten 27 [l0, l1, l2, l3, l4, l5, l6] st (am_ex G d K_H_within [.int a0, .int a1, .int a2] M) := am_run_is (i := 92) (n := 3) (pl := 2184) (Bs := [.int a0, .int a1, .int a2]) (z := K_H_within) (v := 1) (by decide) (by decide) (by decide +kernel) h8 rfl (Nat.le_of_ble_eq_true rfl) rfl
theorem r_H_eaten_27 {G : Nat → Value} {d : Nat} {st : List Value} {M : am_M} {l0 l1 l2 l3 l4 l5 l6 : Option Value} {a : Int32} : am_run G d K_H_eaten (27, [l0, l1, l2, l3, l4, l5, l6], .int a :: st, M) = if ¬ a = 0 then am_run G d K_H_eaten (34, [l0, l1, l2, l3, l4, l5, l6], st, M) else am_run G d K_H_eaten (30, [l0, l1, l2, l3, l4, l5, l6], st, M) := by
  split
  · next h => exact am_run_next (x := (.ifCond .ne 7, 3, 0, 0, 0, 0)) (by decide +kernel) (am_br_t (decide_eq_true h) (by decide))
  · next h => exact am_run_next (x := (.ifCond .ne 7, 3, 0, 0, 0, 0)) (by decide +kernel) (am_br_f (decide_eq_false h) (by decide))
theorem r_H_eaten_30 {G : Nat → Value} {d : Nat} {st : List Value} {M : am_M} {l0 l1 l2 l3 l4 l5 l6 : Option Value} : am_run G d K_H_eaten (30, [l0, l1, l2, l3, l4, l5, l6], st, M) = am_run G d K_H_eaten (33, [l0, l1, l2, l3, l4, l5, l6], .long (-4611686018427387904) :: st, M) := am_run_next (x := (.ldc2_w 128, 3, 0, 0, 3037, (-4611686018427387904))) (by decide +kernel) rfl
theorem r_H_eaten_33 {G : Nat → Value} {d : Nat} {M : am_M} {l0 l1 l2 l3 l4 l5 l6 : Option Value} {a : Int64} : am_run G d K_H_eaten (33, [l0, l1, l2, l3, l4, l5, l6], [.long a], M) = some (some (.long a), M) := am_run_ret (x := (.lreturn, 1, 0, 0, 0, 0)) (by decide +kernel) rfl
theorem r_H_eaten_34 {G : Nat → Value} {d : Nat} {st : List Value} {M : am_M} {l1 l2 l3 l4 l5 l6 : Option Value} {v : Value} (hv : am_isr v = true) : am_run G d K_H_eaten (34, [some v, l1, l2, l3, l4, l5, l6], st, M) = am_run G d K_H_eaten (35, [some v, l1, l2, l3, l4, l5, l6], v :: st, M) := by
  rcases am_isr_cases hv with ⟨q, rfl⟩ | rfl
  · exact am_run_next (x := (.aload_n 0, 1, 0, 0, 0, 0)) (by decide +kernel) rfl
  · exact am_run_next (x := (.aload_n 0, 1, 0, 0, 0, 0)) (by decide +kernel) rfl
theorem r_H_eaten_35 {G : Nat → Value} {d : Nat} {st : List Value} {M : am_M} {l0 l1 l2 l3 l5 l6 : Option Value} {v : Value} (hv : am_isr v = true) : am_run G d K_H_eaten (35, [l0, l1, l2, l3, some v, l5, l6], st, M) = am_run G d K_H_eaten (37, [l0, l1, l2, l3, some v, l5, l6], v :: st, M) := by
  rcases am_isr_cases hv with ⟨q, rfl⟩ | rfl
  · exact am_run_next (x := (.aload 4, 2, 0, 0, 0, 0)) (by decide +kernel) rfl
  · exact am_run_next (x := (.aload 4, 2, 0, 0, 0, 0)) (by decide +kernel) rfl
theorem r_H_eaten_37 {G : Nat → Value} {d : Nat} {st : List Value} {M : am_M} {l0 l1 l3 l4 l5 l6 : Option Value} {v : Int32} : am_run G d K_H_eaten (37, [l0, l1, some (.int v), l3, l4, l5, l6], st, M) = am_run G d K_H_eaten (38, [l0, l1, some (.int v), l3, l4, l5, l6], .int v :: st, M) := am_run_next (x := (.iload_n 2, 1, 0, 0, 0, 0)) (by decide +kernel) rfl
theorem r_H_eaten_38 {G : Nat → Value} {d : Nat} {st : List Value} {M : am_M} {l0 l1 l2 l3 l4 l5 l6 : Option Value} {q : Nat} {a0 : Value} {a1 : Int32} (h0 : am_isr a0 = true) (hq : am_cls M q = some 9) (h8 : am_sw st ≤ 8) : am_run G d K_H_eaten (38, [l0, l1, l2, l3, l4, l5, l6], .int a1 :: a0 :: .ref q :: st, M) = am_k G d K_H_eaten 41 [l0, l1, l2, l3, l4, l5, l6] st (am_ex G d K_H_eatenIn [.ref q, a0, .int a1] M) := by
  have he : (am_exp [.ref q, a0, .int a1]).length ≤ am_mL K_H_eatenIn := by
    rcases am_isr_cases h0 with ⟨z0, rfl⟩ | rfl <;> exact Nat.le_of_ble_eq_true rfl
  exact am_run_iv (i := 130) (n := 2) (pl := 3038) (Bs := [a0, .int a1]) (z := K_H_eatenIn) (by decide +kernel) hq h8 rfl he rfl
theorem r_H_eaten_41 {G : Nat → Value} {d : Nat} {st : List Value} {M : am_M} {l0 l1 l2 l3 l4 l5 l6 : Option Value} {v : Int64} (hc : am_c1 l4 = true) : am_run G d K_H_eaten (41, [l0, l1, l2, l3, l4, l5, l6], .long v :: st, M) = am_run G d K_H_eaten (43, [l0, l1, l2, l3, l4, some (.long v), none], st, M) := by
  rcases am_c1_cases hc with rfl | ⟨q, rfl⟩ | ⟨q, rfl⟩ | rfl
  · exact am_run_next (x := (.lstore 5, 2, 0, 0, 0, 0)) (by decide +kernel) rfl
  · exact am_run_next (x := (.lstore 5, 2, 0, 0, 0, 0)) (by decide +kernel) rfl
  · exact am_run_next (x := (.lstore 5, 2, 0, 0, 0, 0)) (by decide +kernel) rfl
  · exact am_run_next (x := (.lstore 5, 2, 0, 0, 0, 0)) (by decide +kernel) rfl
theorem r_H_eaten_41_k {G : Nat → Value} {d : Nat} {st : List Value} {M : am_M} {l0 l1 l2 l3 l5 l6 : Option Value} {v : Int64} {z : Int64} : am_run G d K_H_eaten (41, [l0, l1, l2, l3, some (.long z), l5, l6], .long v :: st, M) = am_run G d K_H_eaten (43, [l0, l1, l2, l3, none, some (.long v), none], st, M) := am_run_next (x := (.lstore 5, 2, 0, 0, 0, 0)) (by decide +kernel) rfl
theorem r_H_eaten_43 {G : Nat → Value} {d : Nat} {st : List Value} {M : am_M} {l0 l1 l2 l4 l5 l6 : Option Value} {v : Int32} : am_run G d K_H_eaten (43, [l0, l1, l2, some (.int v), l4, l5, l6], st, M) = am_run G d K_H_eaten (44, [l0, l1, l2, some (.int v), l4, l5, l6], .int v :: st, M) := am_run_next (x := (.iload_n 3, 1, 0, 0, 0, 0)) (by decide +kernel) rfl
theorem r_H_eaten_44 {G : Nat → Value} {d : Nat} {st : List Value} {M : am_M} {l0 l1 l2 l3 l4 l5 l6 : Option Value} {a : Int32} : am_run G d K_H_eaten (44, [l0, l1, l2, l3, l4, l5, l6], .int a :: st, M) = if ¬ a = 0 then am_run G d K_H_eaten (52, [l0, l1, l2, l3, l4, l5, l6], st, M) else am_run G d K_H_eaten (47, [l0, l1, l2, l3, l4, l5, l6], st, M) := by
  split
  · next h => exact am_run_next (x := (.ifCond .ne 8, 3, 0, 0, 0, 0)) (by decide +kernel) (am_br_t (decide_eq_true h) (by decide))
  · next h => exact am_run_next (x := (.ifCond .ne 8, 3, 0, 0, 0, 0)) (by decide +kernel) (am_br_f (decide_eq_false h) (by decide))
theorem r_H_eaten_47 {G : Nat → Value} {d : Nat} {st : List Value} {M : am_M} {l0 l1 l2 l3 l4 l6 : Option Value} {v : Int64} : am_run G d K_H_eaten (47, [l0, l1, l2, l3, l4, some (.long v), l6], st, M) = am_run G d K_H_eaten (49, [l0, l1, l2, l3, l4, some (.long v), l6], .long v :: st, M) := am_run_next (x := (.lload 5, 2, 0, 0, 0, 0)) (by decide +kernel) rfl
theorem r_H_eaten_49 {G : Nat → Value} {d : Nat} {st : List Value} {M : am_M} {l0 l1 l2 l3 l4 l5 l6 : Option Value} : am_run G d K_H_eaten (49, [l0, l1, l2, l3, l4, l5, l6], st, M) = am_run G d K_H_eaten (65, [l0, l1, l2, l3, l4, l5, l6], st, M) := am_run_next (x := (.goto 16, 3, 0, 0, 0, 0)) (by decide +kernel) rfl
theorem r_H_eaten_52 {G : Nat → Value} {d : Nat} {st : List Value} {M : am_M} {l0 l1 l2 l3 l5 l6 : Option Value} {v : Value} (hv : am_isr v = true) : am_run G d K_H_eaten (52, [l0, l1, l2, l3, some v, l5, l6], st, M) = am_run G d K_H_eaten (54, [l0, l1, l2, l3, some v, l5, l6], v :: st, M) := by
  rcases am_isr_cases hv with ⟨q, rfl⟩ | rfl
  · exact am_run_next (x := (.aload 4, 2, 0, 0, 0, 0)) (by decide +kernel) rfl
  · exact am_run_next (x := (.aload 4, 2, 0, 0, 0, 0)) (by decide +kernel) rfl
theorem r_H_eaten_54 {G : Nat → Value} {d : Nat} {st : List Value} {M : am_M} {l1 l2 l3 l4 l5 l6 : Option Value} {v : Value} (hv : am_isr v = true) : am_run G d K_H_eaten (54, [some v, l1, l2, l3, l4, l5, l6], st, M) = am_run G d K_H_eaten (55, [some v, l1, l2, l3, l4, l5, l6], v :: st, M) := by
  rcases am_isr_cases hv with ⟨q, rfl⟩ | rfl
  · exact am_run_next (x := (.aload_n 0, 1, 0, 0, 0, 0)) (by decide +kernel) rfl
  · exact am_run_next (x := (.aload_n 0, 1, 0, 0, 0, 0)) (by decide +kernel) rfl
theorem r_H_eaten_55 {G : Nat → Value} {d : Nat} {st : List Value} {M : am_M} {l0 l1 l2 l3 l4 l5 l6 : Option Value} {a : Nat} : am_run G d K_H_eaten (55, [l0, l1, l2, l3, l4, l5, l6], .ref a :: st, M) = am_kf G d K_H_eaten 58 [l0, l1, l2, l3, l4, l5, l6] st M (am_fld M a 9 9) := am_run_kf (x := (.getfield 39, 3, 9, 9, 2133, 0)) (by decide +kernel) rfl
theorem r_H_eaten_58 {G : Nat → Value} {d : Nat} {st : List Value} {M : am_M} {l0 l1 l2 l3 l4 l5 l6 : Option Value} : am_run G d K_H_eaten (58, [l0, l1, l2, l3, l4, l5, l6], st, M) = am_run G d K_H_eaten (59, [l0, l1, l2, l3, l4, l5, l6], .int 0 :: st, M) := am_run_next (x := (.iconst 0, 1, 0, 0, 0, 0)) (by decide +kernel) rfl
theorem r_H_eaten_59 {G : Nat → Value} {d : Nat} {st : List Value} {M : am_M} {l0 l1 l2 l3 l4 l5 l6 : Option Value} {a : Nat} {i : Int32} : am_run G d K_H_eaten (59, [l0, l1, l2, l3, l4, l5, l6], .int i :: .ref a :: st, M) = am_kf G d K_H_eaten 60 [l0, l1, l2, l3, l4, l5, l6] st M (am_ag 0 M a i) := am_run_kf (x := (.iaload, 1, 0, 0, 0, 0)) (by decide +kernel) rfl
theorem r_H_eaten_60 {G : Nat → Value} {d : Nat} {st : List Value} {M : am_M} {l0 l1 l2 l3 l4 l6 : Option Value} {v : Int64} : am_run G d K_H_eaten (60, [l0, l1, l2, l3, l4, some (.long v), l6], st, M) = am_run G d K_H_eaten (62, [l0, l1, l2, l3, l4, some (.long v), l6], .long v :: st, M) := am_run_next (x := (.lload 5, 2, 0, 0, 0, 0)) (by decide +kernel) rfl
theorem r_H_eaten_62 {G : Nat → Value} {d : Nat} {st : List Value} {M : am_M} {l0 l1 l2 l3 l4 l5 l6 : Option Value} {a0 : Value} {a1 : Int32} {a2 : Int64} (h0 : am_isr a0 = true) (h8 : am_sw st ≤ 8) : am_run G d K_H_eaten (62, [l0, l1, l2, l3, l4, l5, l6], .long a2 :: .int a1 :: a0 :: st, M) = am_k G d K_H_eaten 65 [l0, l1, l2, l3, l4, l5, l6] st (am_ex G d K_H_timeOf [a0, .int a1, .long a2] M) := by
  have he : (am_exp [a0, .int a1, .long a2]).length ≤ am_mL K_H_timeOf := by
    rcases am_isr_cases h0 with ⟨z0, rfl⟩ | rfl <;> exact Nat.le_of_ble_eq_true rfl
  exact am_run_is (i := 134) (n := 3) (pl := 3047) (Bs := [a0, .int a1, .long a2]) (z := K_H_timeOf) (v := 1) (by decide) (by decide) (by decide +kernel) h8 rfl he rfl
theorem r_H_eaten_65 {G : Nat → Value} {d : Nat} {M : am_M} {l0 l1 l2 l3 l4 l5 l6 : Option Value} {a : Int64} : am_run G d K_H_eaten (65, [l0, l1, l2, l3, l4, l5, l6], [.long a], M) = some (some (.long a), M) := am_run_ret (x := (.lreturn, 1, 0, 0, 0, 0)) (by decide +kernel) rfl
theorem r_H_eatenIn_0 {G : Nat → Value} {d : Nat} {st : List Value} {M : am_M} {l0 l1 l2 l3 l4 l5 l6 : Option Value} : am_run G d K_H_eatenIn (0, [l0, l1, l2, l3, l4, l5, l6], st, M) = am_run G d K_H_eatenIn (3, [l0, l1, l2, l3, l4, l5, l6], .long 100 :: st, M) := am_run_next (x := (.ldc2_w 248, 3, 0, 0, 3042, 100)) (by decide +kernel) rfl
theorem r_H_eatenIn_3 {G : Nat → Value} {d : Nat} {st : List Value} {M : am_M} {l0 l1 l2 l3 l4 l5 l6 : Option Value} {v : Int64} (hc : am_c1 l2 = true) : am_run G d K_H_eatenIn (3, [l0, l1, l2, l3, l4, l5, l6], .long v :: st, M) = am_run G d K_H_eatenIn (4, [l0, l1, l2, some (.long v), none, l5, l6], st, M) := by
  rcases am_c1_cases hc with rfl | ⟨q, rfl⟩ | ⟨q, rfl⟩ | rfl
  · exact am_run_next (x := (.lstore_n 3, 1, 0, 0, 0, 0)) (by decide +kernel) rfl
  · exact am_run_next (x := (.lstore_n 3, 1, 0, 0, 0, 0)) (by decide +kernel) rfl
  · exact am_run_next (x := (.lstore_n 3, 1, 0, 0, 0, 0)) (by decide +kernel) rfl
  · exact am_run_next (x := (.lstore_n 3, 1, 0, 0, 0, 0)) (by decide +kernel) rfl
theorem r_H_eatenIn_3_k {G : Nat → Value} {d : Nat} {st : List Value} {M : am_M} {l0 l1 l3 l4 l5 l6 : Option Value} {v : Int64} {z : Int64} : am_run G d K_H_eatenIn (3, [l0, l1, some (.long z), l3, l4, l5, l6], .long v :: st, M) = am_run G d K_H_eatenIn (4, [l0, l1, none, some (.long v), none, l5, l6], st, M) := am_run_next (x := (.lstore_n 3, 1, 0, 0, 0, 0)) (by decide +kernel) rfl
theorem r_H_eatenIn_4 {G : Nat → Value} {d : Nat} {st : List Value} {M : am_M} {l0 l1 l2 l3 l4 l5 l6 : Option Value} : am_run G d K_H_eatenIn (4, [l0, l1, l2, l3, l4, l5, l6], st, M) = am_run G d K_H_eatenIn (5, [l0, l1, l2, l3, l4, l5, l6], .int 0 :: st, M) := am_run_next (x := (.iconst 0, 1, 0, 0, 0, 0)) (by decide +kernel) rfl
theorem r_H_eatenIn_5 {G : Nat → Value} {d : Nat} {st : List Value} {M : am_M} {l0 l1 l2 l3 l4 l5 l6 : Option Value} {v : Int32} (hc : am_c1 l4 = true) : am_run G d K_H_eatenIn (5, [l0, l1, l2, l3, l4, l5, l6], .int v :: st, M) = am_run G d K_H_eatenIn (7, [l0, l1, l2, l3, l4, some (.int v), l6], st, M) := by
  rcases am_c1_cases hc with rfl | ⟨q, rfl⟩ | ⟨q, rfl⟩ | rfl
  · exact am_run_next (x := (.istore 5, 2, 0, 0, 0, 0)) (by decide +kernel) rfl
  · exact am_run_next (x := (.istore 5, 2, 0, 0, 0, 0)) (by decide +kernel) rfl
  · exact am_run_next (x := (.istore 5, 2, 0, 0, 0, 0)) (by decide +kernel) rfl
  · exact am_run_next (x := (.istore 5, 2, 0, 0, 0, 0)) (by decide +kernel) rfl
theorem r_H_eatenIn_5_k {G : Nat → Value} {d : Nat} {st : List Value} {M : am_M} {l0 l1 l2 l3 l5 l6 : Option Value} {v : Int32} {z : Int64} : am_run G d K_H_eatenIn (5, [l0, l1, l2, l3, some (.long z), l5, l6], .int v :: st, M) = am_run G d K_H_eatenIn (7, [l0, l1, l2, l3, none, some (.int v), l6], st, M) := am_run_next (x := (.istore 5, 2, 0, 0, 0, 0)) (by decide +kernel) rfl
theorem r_H_eatenIn_7 {G : Nat → Value} {d : Nat} {st : List Value} {M : am_M} {l0 l1 l2 l3 l4 l6 : Option Value} {v : Int32} : am_run G d K_H_eatenIn (7, [l0, l1, l2, l3, l4, some (.int v), l6], st, M) = am_run G d K_H_eatenIn (9, [l0, l1, l2, l3, l4, some (.int v), l6], .int v :: st, M) := am_run_next (x := (.iload 5, 2, 0, 0, 0, 0)) (by decide +kernel) rfl
theorem r_H_eatenIn_9 {G : Nat → Value} {d : Nat} {st : List Value} {M : am_M} {l0 l2 l3 l4 l5 l6 : Option Value} {v : Value} (hv : am_isr v = true) : am_run G d K_H_eatenIn (9, [l0, some v, l2, l3, l4, l5, l6], st, M) = am_run G d K_H_eatenIn (10, [l0, some v, l2, l3, l4, l5, l6], v :: st, M) := by
  rcases am_isr_cases hv with ⟨q, rfl⟩ | rfl
  · exact am_run_next (x := (.aload_n 1, 1, 0, 0, 0, 0)) (by decide +kernel) rfl
  · exact am_run_next (x := (.aload_n 1, 1, 0, 0, 0, 0)) (by decide +kernel) rfl
theorem r_H_eatenIn_10 {G : Nat → Value} {d : Nat} {st : List Value} {M : am_M} {l0 l1 l2 l3 l4 l5 l6 : Option Value} {a : Nat} : am_run G d K_H_eatenIn (10, [l0, l1, l2, l3, l4, l5, l6], .ref a :: st, M) = am_kf G d K_H_eatenIn 13 [l0, l1, l2, l3, l4, l5, l6] st M (am_fld M a 2 5) := am_run_kf (x := (.getfield 238, 3, 2, 5, 2220, 1)) (by decide +kernel) rfl
theorem r_H_eatenIn_13 {G : Nat → Value} {d : Nat} {st : List Value} {M : am_M} {l0 l1 l2 l3 l4 l5 l6 : Option Value} {a b : Int32} : am_run G d K_H_eatenIn (13, [l0, l1, l2, l3, l4, l5, l6], .int b :: .int a :: st, M) = if b ≤ a then am_run G d K_H_eatenIn (66, [l0, l1, l2, l3, l4, l5, l6], st, M) else am_run G d K_H_eatenIn (16, [l0, l1, l2, l3, l4, l5, l6], st, M) := by
  split
  · next h => exact am_run_next (x := (.if_icmp .ge 53, 3, 0, 0, 0, 0)) (by decide +kernel) (am_br_t (decide_eq_true h) (by decide))
  · next h => exact am_run_next (x := (.if_icmp .ge 53, 3, 0, 0, 0, 0)) (by decide +kernel) (am_br_f (decide_eq_false h) (by decide))
theorem r_H_eatenIn_16 {G : Nat → Value} {d : Nat} {st : List Value} {M : am_M} {l0 l1 l2 l3 l4 l6 : Option Value} {v : Int32} : am_run G d K_H_eatenIn (16, [l0, l1, l2, l3, l4, some (.int v), l6], st, M) = am_run G d K_H_eatenIn (18, [l0, l1, l2, l3, l4, some (.int v), l6], .int v :: st, M) := am_run_next (x := (.iload 5, 2, 0, 0, 0, 0)) (by decide +kernel) rfl
theorem r_H_eatenIn_18 {G : Nat → Value} {d : Nat} {st : List Value} {M : am_M} {l0 l1 l2 l3 l4 l5 l6 : Option Value} : am_run G d K_H_eatenIn (18, [l0, l1, l2, l3, l4, l5, l6], st, M) = am_run G d K_H_eatenIn (20, [l0, l1, l2, l3, l4, l5, l6], .int 6 :: st, M) := am_run_next (x := (.bipush 6, 2, 0, 0, 0, 0)) (by decide +kernel) rfl
theorem r_H_eatenIn_20 {G : Nat → Value} {d : Nat} {st : List Value} {M : am_M} {l0 l1 l2 l3 l4 l5 l6 : Option Value} {a b : Int32} : am_run G d K_H_eatenIn (20, [l0, l1, l2, l3, l4, l5, l6], .int b :: .int a :: st, M) = if b ≤ a then am_run G d K_H_eatenIn (66, [l0, l1, l2, l3, l4, l5, l6], st, M) else am_run G d K_H_eatenIn (23, [l0, l1, l2, l3, l4, l5, l6], st, M) := by
  split
  · next h => exact am_run_next (x := (.if_icmp .ge 46, 3, 0, 0, 0, 0)) (by decide +kernel) (am_br_t (decide_eq_true h) (by decide))
  · next h => exact am_run_next (x := (.if_icmp .ge 46, 3, 0, 0, 0, 0)) (by decide +kernel) (am_br_f (decide_eq_false h) (by decide))
theorem r_H_eatenIn_23 {G : Nat → Value} {d : Nat} {st : List Value} {M : am_M} {l1 l2 l3 l4 l5 l6 : Option Value} {v : Value} (hv : am_isr v = true) : am_run G d K_H_eatenIn (23, [some v, l1, l2, l3, l4, l5, l6], st, M) = am_run G d K_H_eatenIn (24, [some v, l1, l2, l3, l4, l5, l6], v :: st, M) := by
  rcases am_isr_cases hv with ⟨q, rfl⟩ | rfl
  · exact am_run_next (x := (.aload_n 0, 1, 0, 0, 0, 0)) (by decide +kernel) rfl
  · exact am_run_next (x := (.aload_n 0, 1, 0, 0, 0, 0)) (by decide +kernel) rfl
theorem r_H_eatenIn_24 {G : Nat → Value} {d : Nat} {st : List Value} {M : am_M} {l0 l2 l3 l4 l5 l6 : Option Value} {v : Value} (hv : am_isr v = true) : am_run G d K_H_eatenIn (24, [l0, some v, l2, l3, l4, l5, l6], st, M) = am_run G d K_H_eatenIn (25, [l0, some v, l2, l3, l4, l5, l6], v :: st, M) := by
  rcases am_isr_cases hv with ⟨q, rfl⟩ | rfl
  · exact am_run_next (x := (.aload_n 1, 1, 0, 0, 0, 0)) (by decide +kernel) rfl
  · exact am_run_next (x := (.aload_n 1, 1, 0, 0, 0, 0)) (by decide +kernel) rfl
theorem r_H_eatenIn_25 {G : Nat → Value} {d : Nat} {st : List Value} {M : am_M} {l0 l1 l2 l3 l4 l5 l6 : Option Value} {a : Nat} : am_run G d K_H_eatenIn (25, [l0, l1, l2, l3, l4, l5, l6], .ref a :: st, M) = am_kf G d K_H_eatenIn 28 [l0, l1, l2, l3, l4, l5, l6] st M (am_fld M a 2 3) := am_run_kf (x := (.getfield 347, 3, 2, 3, 2216, 1)) (by decide +kernel) rfl
theorem r_H_eatenIn_28 {G : Nat → Value} {d : Nat} {st : List Value} {M : am_M} {l0 l1 l2 l3 l4 l6 : Option Value} {v : Int32} : am_run G d K_H_eatenIn (28, [l0, l1, l2, l3, l4, some (.int v), l6], st, M) = am_run G d K_H_eatenIn (30, [l0, l1, l2, l3, l4, some (.int v), l6], .int v :: st, M) := am_run_next (x := (.iload 5, 2, 0, 0, 0, 0)) (by decide +kernel) rfl
theorem r_H_eatenIn_30 {G : Nat → Value} {d : Nat} {st : List Value} {M : am_M} {l0 l1 l2 l3 l4 l5 l6 : Option Value} {a : Nat} {i : Int32} : am_run G d K_H_eatenIn (30, [l0, l1, l2, l3, l4, l5, l6], .int i :: .ref a :: st, M) = am_kf G d K_H_eatenIn 31 [l0, l1, l2, l3, l4, l5, l6] st M (am_ag 0 M a i) := am_run_kf (x := (.iaload, 1, 0, 0, 0, 0)) (by decide +kernel) rfl
theorem r_H_eatenIn_31 {G : Nat → Value} {d : Nat} {st : List Value} {M : am_M} {l0 l1 l2 l3 l4 l5 l6 : Option Value} {q : Nat} {a0 : Int32} (hq : am_cls M q = some 9) (h8 : am_sw st ≤ 8) : am_run G d K_H_eatenIn (31, [l0, l1, l2, l3, l4, l5, l6], .int a0 :: .ref q :: st, M) = am_k G d K_H_eatenIn 34 [l0, l1, l2, l3, l4, l5, l6] st (am_ex G d K_H_stuffAt [.ref q, .int a0] M) := am_run_iv (i := 113) (n := 1) (pl := 3008) (Bs := [.int a0]) (z := K_H_stuffAt) (by decide +kernel) hq h8 rfl (Nat.le_of_ble_eq_true rfl) rfl
theorem r_H_eatenIn_34 {G : Nat → Value} {d : Nat} {st : List Value} {M : am_M} {l0 l1 l2 l3 l4 l5 l6 : Option Value} {v : Value} (hv : am_isr v = true) (hc : am_c1 l5 = true) : am_run G d K_H_eatenIn (34, [l0, l1, l2, l3, l4, l5, l6], v :: st, M) = am_run G d K_H_eatenIn (36, [l0, l1, l2, l3, l4, l5, some v], st, M) := by
  rcases am_isr_cases hv with ⟨q1, rfl⟩ | rfl
  · rcases am_c1_cases hc with rfl | ⟨q, rfl⟩ | ⟨q, rfl⟩ | rfl
    · exact am_run_next (x := (.astore 6, 2, 0, 0, 0, 0)) (by decide +kernel) rfl
    · exact am_run_next (x := (.astore 6, 2, 0, 0, 0, 0)) (by decide +kernel) rfl
    · exact am_run_next (x := (.astore 6, 2, 0, 0, 0, 0)) (by decide +kernel) rfl
    · exact am_run_next (x := (.astore 6, 2, 0, 0, 0, 0)) (by decide +kernel) rfl
  · rcases am_c1_cases hc with rfl | ⟨q, rfl⟩ | ⟨q, rfl⟩ | rfl
    · exact am_run_next (x := (.astore 6, 2, 0, 0, 0, 0)) (by decide +kernel) rfl
    · exact am_run_next (x := (.astore 6, 2, 0, 0, 0, 0)) (by decide +kernel) rfl
    · exact am_run_next (x := (.astore 6, 2, 0, 0, 0, 0)) (by decide +kernel) rfl
    · exact am_run_next (x := (.astore 6, 2, 0, 0, 0, 0)) (by decide +kernel) rfl
theorem r_H_eatenIn_34_k {G : Nat → Value} {d : Nat} {st : List Value} {M : am_M} {l0 l1 l2 l3 l4 l6 : Option Value} {v : Value} {z : Int64} (hv : am_isr v = true) : am_run G d K_H_eatenIn (34, [l0, l1, l2, l3, l4, some (.long z), l6], v :: st, M) = am_run G d K_H_eatenIn (36, [l0, l1, l2, l3, l4, none, some v], st, M) := by
  rcases am_isr_cases hv with ⟨q, rfl⟩ | rfl
  · exact am_run_next (x := (.astore 6, 2, 0, 0, 0, 0)) (by decide +kernel) rfl
  · exact am_run_next (x := (.astore 6, 2, 0, 0, 0, 0)) (by decide +kernel) rfl
theorem r_H_eatenIn_36 {G : Nat → Value} {d : Nat} {st : List Value} {M : am_M} {l0 l1 l2 l3 l4 l5 : Option Value} {v : Value} (hv : am_isr v = true) : am_run G d K_H_eatenIn (36, [l0, l1, l2, l3, l4, l5, some v], st, M) = am_run G d K_H_eatenIn (38, [l0, l1, l2, l3, l4, l5, some v], v :: st, M) := by
  rcases am_isr_cases hv with ⟨q, rfl⟩ | rfl
  · exact am_run_next (x := (.aload 6, 2, 0, 0, 0, 0)) (by decide +kernel) rfl
  · exact am_run_next (x := (.aload 6, 2, 0, 0, 0, 0)) (by decide +kernel) rfl
theorem r_H_eatenIn_38 {G : Nat → Value} {d : Nat} {st : List Value} {M : am_M} {l0 l1 l2 l3 l4 l5 l6 : Option Value} {v : Value} (hv : am_isr v = true) : am_run G d K_H_eatenIn (38, [l0, l1, l2, l3, l4, l5, l6], v :: st, M) = if v = .null then am_run G d K_H_eatenIn (60, [l0, l1, l2, l3, l4, l5, l6], st, M) else am_run G d K_H_eatenIn (41, [l0, l1, l2, l3, l4, l5, l6], st, M) := by
  split
  · next h => exact am_run_next (x := (.ifnull 22, 3, 0, 0, 0, 0)) (by decide +kernel) ((if_pos hv).trans (am_br_t (decide_eq_true h) (by decide)))
  · next h => exact am_run_next (x := (.ifnull 22, 3, 0, 0, 0, 0)) (by decide +kernel) ((if_pos hv).trans (am_br_f (decide_eq_false h) (by decide)))
theorem r_H_eatenIn_41 {G : Nat → Value} {d : Nat} {st : List Value} {M : am_M} {l0 l1 l2 l4 l5 l6 : Option Value} {v : Int64} : am_run G d K_H_eatenIn (41, [l0, l1, l2, some (.long v), l4, l5, l6], st, M) = am_run G d K_H_eatenIn (42, [l0, l1, l2, some (.long v), l4, l5, l6], .long v :: st, M) := am_run_next (x := (.lload_n 3, 1, 0, 0, 0, 0)) (by decide +kernel) rfl
theorem r_H_eatenIn_42 {G : Nat → Value} {d : Nat} {st : List Value} {M : am_M} {l0 l2 l3 l4 l5 l6 : Option Value} {v : Value} (hv : am_isr v = true) : am_run G d K_H_eatenIn (42, [l0, some v, l2, l3, l4, l5, l6], st, M) = am_run G d K_H_eatenIn (43, [l0, some v, l2, l3, l4, l5, l6], v :: st, M) := by
  rcases am_isr_cases hv with ⟨q, rfl⟩ | rfl
  · exact am_run_next (x := (.aload_n 1, 1, 0, 0, 0, 0)) (by decide +kernel) rfl
  · exact am_run_next (x := (.aload_n 1, 1, 0, 0, 0, 0)) (by decide +kernel) rfl
theorem r_H_eatenIn_43 {G : Nat → Value} {d : Nat} {st : List Value} {M : am_M} {l0 l1 l2 l3 l4 l5 l6 : Option Value} {a : Nat} : am_run G d K_H_eatenIn (43, [l0, l1, l2, l3, l4, l5, l6], .ref a :: st, M) = am_kf G d K_H_eatenIn 46 [l0, l1, l2, l3, l4, l5, l6] st M (am_fld M a 2 4) := am_run_kf (x := (.getfield 350, 3, 2, 4, 2218, 1)) (by decide +kernel) rfl
theorem r_H_eatenIn_46 {G : Nat → Value} {d : Nat} {st : List Value} {M : am_M} {l0 l1 l2 l3 l4 l6 : Option Value} {v : Int32} : am_run G d K_H_eatenIn (46, [l0, l1, l2, l3, l4, some (.int v), l6], st, M) = am_run G d K_H_eatenIn (48, [l0, l1, l2, l3, l4, some (.int v), l6], .int v :: st, M) := am_run_next (x := (.iload 5, 2, 0, 0, 0, 0)) (by decide +kernel) rfl
theorem r_H_eatenIn_48 {G : Nat → Value} {d : Nat} {st : List Value} {M : am_M} {l0 l1 l2 l3 l4 l5 l6 : Option Value} {a : Nat} {i : Int32} : am_run G d K_H_eatenIn (48, [l0, l1, l2, l3, l4, l5, l6], .int i :: .ref a :: st, M) = am_kf G d K_H_eatenIn 49 [l0, l1, l2, l3, l4, l5, l6] st M (am_ag 0 M a i) := am_run_kf (x := (.iaload, 1, 0, 0, 0, 0)) (by decide +kernel) rfl
theorem r_H_eatenIn_49 {G : Nat → Value} {d : Nat} {st : List Value} {M : am_M} {l0 l1 l2 l3 l4 l5 l6 : Option Value} {a : Int32} : am_run G d K_H_eatenIn (49, [l0, l1, l2, l3, l4, l5, l6], .int a :: st, M) = am_run G d K_H_eatenIn (50, [l0, l1, l2, l3, l4, l5, l6], .long a.toInt64 :: st, M) := am_run_next (x := (.i2l, 1, 0, 0, 0, 0)) (by decide +kernel) rfl
theorem r_H_eatenIn_50 {G : Nat → Value} {d : Nat} {st : List Value} {M : am_M} {l0 l1 l2 l3 l4 l5 : Option Value} {v : Value} (hv : am_isr v = true) : am_run G d K_H_eatenIn (50, [l0, l1, l2, l3, l4, l5, some v], st, M) = am_run G d K_H_eatenIn (52, [l0, l1, l2, l3, l4, l5, some v], v :: st, M) := by
  rcases am_isr_cases hv with ⟨q, rfl⟩ | rfl
  · exact am_run_next (x := (.aload 6, 2, 0, 0, 0, 0)) (by decide +kernel) rfl
  · exact am_run_next (x := (.aload 6, 2, 0, 0, 0, 0)) (by decide +kernel) rfl
theorem r_H_eatenIn_52 {G : Nat → Value} {d : Nat} {st : List Value} {M : am_M} {l0 l1 l3 l4 l5 l6 : Option Value} {v : Int32} : am_run G d K_H_eatenIn (52, [l0, l1, some (.int v), l3, l4, l5, l6], st, M) = am_run G d K_H_eatenIn (53, [l0, l1, some (.int v), l3, l4, l5, l6], .int v :: st, M) := am_run_next (x := (.iload_n 2, 1, 0, 0, 0, 0)) (by decide +kernel) rfl
theorem r_H_eatenIn_53 {G : Nat → Value} {d : Nat} {st : List Value} {M : am_M} {l0 l1 l2 l3 l4 l5 l6 : Option Value} {q : Nat} {a0 : Int32} (hq : am_cls M q = some 6) (h8 : am_sw st ≤ 8) : am_run G d K_H_eatenIn (53, [l0, l1, l2, l3, l4, l5, l6], .int a0 :: .ref q :: st, M) = am_k G d K_H_eatenIn 56 [l0, l1, l2, l3, l4, l5, l6] st (am_ex G d K_Su_eatsBy [.ref q, .int a0] M) := am_run_iv (i := 353) (n := 1) (pl := 3043) (Bs := [.int a0]) (z := K_Su_eatsBy) (by decide +kernel) hq h8 rfl (Nat.le_of_ble_eq_true rfl) rfl
theorem r_H_eatenIn_56 {G : Nat → Value} {d : Nat} {st : List Value} {M : am_M} {l0 l1 l2 l3 l4 l5 l6 : Option Value} {a : Int32} : am_run G d K_H_eatenIn (56, [l0, l1, l2, l3, l4, l5, l6], .int a :: st, M) = am_run G d K_H_eatenIn (57, [l0, l1, l2, l3, l4, l5, l6], .long a.toInt64 :: st, M) := am_run_next (x := (.i2l, 1, 0, 0, 0, 0)) (by decide +kernel) rfl
theorem r_H_eatenIn_57 {G : Nat → Value} {d : Nat} {st : List Value} {M : am_M} {l0 l1 l2 l3 l4 l5 l6 : Option Value} {a b : Int64} : am_run G d K_H_eatenIn (57, [l0, l1, l2, l3, l4, l5, l6], .long b :: .long a :: st, M) = am_run G d K_H_eatenIn (58, [l0, l1, l2, l3, l4, l5, l6], .long (a * b) :: st, M) := am_run_next (x := (.lmul, 1, 0, 0, 0, 0)) (by decide +kernel) rfl
theorem r_H_eatenIn_58 {G : Nat → Value} {d : Nat} {st : List Value} {M : am_M} {l0 l1 l2 l3 l4 l5 l6 : Option Value} {a b : Int64} : am_run G d K_H_eatenIn (58, [l0, l1, l2, l3, l4, l5, l6], .long b :: .long a :: st, M) = am_run G d K_H_eatenIn (59, [l0, l1, l2, l3, l4, l5, l6], .long (a + b) :: st, M) := am_run_next (x := (.ladd, 1, 0, 0, 0, 0)) (by decide +kernel) rfl
theorem r_H_eatenIn_59 {G : Nat → Value} {d : Nat} {st : List Value} {M : am_M} {l0 l1 l2 l3 l4 l5 l6 : Option Value} {v : Int64} (hc : am_c1 l2 = true) : am_run G d K_H_eatenIn (59, [l0, l1, l2, l3, l4, l5, l6], .long v :: st, M) = am_run G d K_H_eatenIn (60, [l0, l1, l2, some (.long v), none, l5, l6], st, M) := by
  rcases am_c1_cases hc with rfl | ⟨q, rfl⟩ | ⟨q, rfl⟩ | rfl
  · exact am_run_next (x := (.lstore_n 3, 1, 0, 0, 0, 0)) (by decide +kernel) rfl
  · exact am_run_next (x := (.lstore_n 3, 1, 0, 0, 0, 0)) (by decide +kernel) rfl
  · exact am_run_next (x := (.lstore_n 3, 1, 0, 0, 0, 0)) (by decide +kernel) rfl
  · exact am_run_next (x := (.lstore_n 3, 1, 0, 0, 0, 0)) (by decide +kernel) rfl
theorem r_H_eatenIn_59_k {G : Nat → Value} {d : Nat} {st : List Value} {M : am_M} {l0 l1 l3 l4 l5 l6 : Option Value} {v : Int64} {z : Int64} : am_run G d K_H_eatenIn (59, [l0, l1, some (.long z), l3, l4, l5, l6], .long v :: st, M) = am_run G d K_H_eatenIn (60, [l0, l1, none, some (.long v), none, l5, l6], st, M) := am_run_next (x := (.lstore_n 3, 1, 0, 0, 0, 0)) (by decide +kernel) rfl
theorem r_H_eatenIn_60 {G : Nat → Value} {d : Nat} {st : List Value} {M : am_M} {l0 l1 l2 l3 l4 l6 : Option Value} {v : Int32} (hc : am_c1 l4 = true) : am_run G d K_H_eatenIn (60, [l0, l1, l2, l3, l4, some (.int v), l6], st, M) = am_run G d K_H_eatenIn (63, [l0, l1, l2, l3, l4, some (.int (v + 1)), l6], st, M) := by
  rcases am_c1_cases hc with rfl | ⟨q, rfl⟩ | ⟨q, rfl⟩ | rfl
  · exact am_run_next (x := (.iinc 5 1, 3, 0, 0, 0, 0)) (by decide +kernel) rfl
  · exact am_run_next (x := (.iinc 5 1, 3, 0, 0, 0, 0)) (by decide +kernel) rfl
  · exact am_run_next (x := (.iinc 5 1, 3, 0, 0, 0, 0)) (by decide +kernel) rfl
  · exact am_run_next (x := (.iinc 5 1, 3, 0, 0, 0, 0)) (by decide +kernel) rfl
theorem r_H_eatenIn_60_k {G : Nat → Value} {d : Nat} {st : List Value} {M : am_M} {l0 l1 l2 l3 l6 : Option Value} {v : Int32} {z : Int64} : am_run G d K_H_eatenIn (60, [l0, l1, l2, l3, some (.long z), some (.int v), l6], st, M) = am_run G d K_H_eatenIn (63, [l0, l1, l2, l3, none, some (.int (v + 1)), l6], st, M) := am_run_next (x := (.iinc 5 1, 3, 0, 0, 0, 0)) (by decide +kernel) rfl
theorem r_H_eatenIn_63 {G : Nat → Value} {d : Nat} {st : List Value} {M : am_M} {l0 l1 l2 l3 l4 l5 l6 : Option Value} : am_run G d K_H_eatenIn (63, [l0, l1, l2, l3, l4, l5, l6], st, M) = am_run G d K_H_eatenIn (7, [l0, l1, l2, l3, l4, l5, l6], st, M) := am_run_next (x := (.goto (-56), 3, 0, 0, 0, 0)) (by decide +kernel) rfl
theorem r_H_eatenIn_66 {G : Nat → Value} {d : Nat} {st : List Value} {M : am_M} {l0 l1 l2 l4 l5 l6 : Option Value} {v : Int64} : am_run G d K_H_eatenIn (66, [l0, l1, l2, some (.long v), l4, l5, l6], st, M) = am_run G d K_H_eatenIn (67, [l0, l1, l2, some (.long v), l4, l5, l6], .long v :: st, M) := am_run_next (x := (.lload_n 3, 1, 0, 0, 0, 0)) (by decide +kernel) rfl
theorem r_H_eatenIn_67 {G : Nat → Value} {d : Nat} {M : am_M} {l0 l1 l2 l3 l4 l5 l6 : Option Value} {a : Int64} : am_run G d K_H_eatenIn (67, [l0, l1, l2, l3, l4, l5, l6], [.long a], M) = some (some (.long a), M) := am_run_ret (x := (.lreturn, 1, 0, 0, 0, 0)) (by decide +kernel) rfl
theorem r_Su_eatsBy_0 {G : Nat → Value} {d : Nat} {st : List Value} {M : am_M} {l0 : Option Value} {v : Int32} : am_run G d K_Su_eatsBy (0, [l0, some (.int v)], st, M) = am_run G d K_Su_eatsBy (1, [l0, some (.int v)], .int v :: st, M) := am_run_next (x := (.iload_n 1, 1, 0, 0, 0, 0)) (by decide +kernel) rfl
theorem r_Su_eatsBy_1 {G : Nat → Value} {d : Nat} {st : List Value} {M : am_M} {l0 l1 : Option Value} {a : Int32} : am_run G d K_Su_eatsBy (1, [l0, l1], .int a :: st, M) = if ¬ a = 0 then am_run G d K_Su_eatsBy (15, [l0, l1], st, M) else am_run G d K_Su_eatsBy (4, [l0, l1], st, M) := by
  split
  · next h => exact am_run_next (x := (.ifCond .ne 14, 3, 0, 0, 0, 0)) (by decide +kernel) (am_br_t (decide_eq_true h) (by decide))
  · next h => exact am_run_next (x := (.ifCond .ne 14, 3, 0, 0, 0, 0)) (by decide +kernel) (am_br_f (decide_eq_false h) (by decide))
theorem r_Su_eatsBy_4 {G : Nat → Value} {d : Nat} {st : List Value} {M : am_M} {l1 : Option Value} {v : Value} (hv : am_isr v = true) : am_run G d K_Su_eatsBy (4, [some v, l1], st, M) = am_run G d K_Su_eatsBy (5, [some v, l1], v :: st, M) := by
  rcases am_isr_cases hv with ⟨q, rfl⟩ | rfl
  · exact am_run_next (x := (.aload_n 0, 1, 0, 0, 0, 0)) (by decide +kernel) rfl
  · exact am_run_next (x := (.aload_n 0, 1, 0, 0, 0, 0)) (by decide +kernel) rfl
theorem r_Su_eatsBy_5 {G : Nat → Value} {d : Nat} {st : List Value} {M : am_M} {l0 l1 : Option Value} {a : Nat} : am_run G d K_Su_eatsBy (5, [l0, l1], .ref a :: st, M) = am_kf G d K_Su_eatsBy 8 [l0, l1] st M (am_fld M a 6 0) := am_run_kf (x := (.getfield 7, 3, 6, 0, 2192, 0)) (by decide +kernel) rfl
theorem r_Su_eatsBy_8 {G : Nat → Value} {d : Nat} {st : List Value} {M : am_M} {l0 l1 : Option Value} : am_run G d K_Su_eatsBy (8, [l0, l1], st, M) = am_run G d K_Su_eatsBy (11, [l0, l1], .int 10000 :: st, M) := am_run_next (x := (.sipush 10000, 3, 0, 0, 0, 0)) (by decide +kernel) rfl
theorem r_Su_eatsBy_11 {G : Nat → Value} {d : Nat} {st : List Value} {M : am_M} {l0 l1 : Option Value} {a b : Int32} : am_run G d K_Su_eatsBy (11, [l0, l1], .int b :: .int a :: st, M) = if b = 0 then none else am_run G d K_Su_eatsBy (12, [l0, l1], .int (a / b) :: st, M) := by
  split
  · next h => exact am_run_stuck (x := (.idiv, 1, 0, 0, 0, 0)) (by decide +kernel) (if_pos h)
  · next h => exact am_run_next (x := (.idiv, 1, 0, 0, 0, 0)) (by decide +kernel) (if_neg h)
theorem r_Su_eatsBy_12 {G : Nat → Value} {d : Nat} {st : List Value} {M : am_M} {l0 l1 : Option Value} : am_run G d K_Su_eatsBy (12, [l0, l1], st, M) = am_run G d K_Su_eatsBy (40, [l0, l1], st, M) := am_run_next (x := (.goto 28, 3, 0, 0, 0, 0)) (by decide +kernel) rfl
theorem r_Su_eatsBy_15 {G : Nat → Value} {d : Nat} {st : List Value} {M : am_M} {l0 : Option Value} {v : Int32} : am_run G d K_Su_eatsBy (15, [l0, some (.int v)], st, M) = am_run G d K_Su_eatsBy (16, [l0, some (.int v)], .int v :: st, M) := am_run_next (x := (.iload_n 1, 1, 0, 0, 0, 0)) (by decide +kernel) rfl
theorem r_Su_eatsBy_16 {G : Nat → Value} {d : Nat} {st : List Value} {M : am_M} {l0 l1 : Option Value} : am_run G d K_Su_eatsBy (16, [l0, l1], st, M) = am_run G d K_Su_eatsBy (17, [l0, l1], .int 1 :: st, M) := am_run_next (x := (.iconst 1, 1, 0, 0, 0, 0)) (by decide +kernel) rfl
theorem r_Su_eatsBy_17 {G : Nat → Value} {d : Nat} {st : List Value} {M : am_M} {l0 l1 : Option Value} {a b : Int32} : am_run G d K_Su_eatsBy (17, [l0, l1], .int b :: .int a :: st, M) = if ¬ a = b then am_run G d K_Su_eatsBy (33, [l0, l1], st, M) else am_run G d K_Su_eatsBy (20, [l0, l1], st, M) := by
  split
  · next h => exact am_run_next (x := (.if_icmp .ne 16, 3, 0, 0, 0, 0)) (by decide +kernel) (am_br_t (decide_eq_true h) (by decide))
  · next h => exact am_run_next (x := (.if_icmp .ne 16, 3, 0, 0, 0, 0)) (by decide +kernel) (am_br_f (decide_eq_false h) (by decide))
theorem r_Su_eatsBy_20 {G : Nat → Value} {d : Nat} {st : List Value} {M : am_M} {l1 : Option Value} {v : Value} (hv : am_isr v = true) : am_run G d K_Su_eatsBy (20, [some v, l1], st, M) = am_run G d K_Su_eatsBy (21, [some v, l1], v :: st, M) := by
  rcases am_isr_cases hv with ⟨q, rfl⟩ | rfl
  · exact am_run_next (x := (.aload_n 0, 1, 0, 0, 0, 0)) (by decide +kernel) rfl
  · exact am_run_next (x := (.aload_n 0, 1, 0, 0, 0, 0)) (by decide +kernel) rfl
theorem r_Su_eatsBy_21 {G : Nat → Value} {d : Nat} {st : List Value} {M : am_M} {l0 l1 : Option Value} {a : Nat} : am_run G d K_Su_eatsBy (21, [l0, l1], .ref a :: st, M) = am_kf G d K_Su_eatsBy 24 [l0, l1] st M (am_fld M a 6 0) := am_run_kf (x := (.getfield 7, 3, 6, 0, 2192, 0)) (by decide +kernel) rfl
theorem r_Su_eatsBy_24 {G : Nat → Value} {d : Nat} {st : List Value} {M : am_M} {l0 l1 : Option Value} : am_run G d K_Su_eatsBy (24, [l0, l1], st, M) = am_run G d K_Su_eatsBy (26, [l0, l1], .int 100 :: st, M) := am_run_next (x := (.bipush 100, 2, 0, 0, 0, 0)) (by decide +kernel) rfl
theorem r_Su_eatsBy_26 {G : Nat → Value} {d : Nat} {st : List Value} {M : am_M} {l0 l1 : Option Value} {a b : Int32} : am_run G d K_Su_eatsBy (26, [l0, l1], .int b :: .int a :: st, M) = if b = 0 then none else am_run G d K_Su_eatsBy (27, [l0, l1], .int (a / b) :: st, M) := by
  split
  · next h => exact am_run_stuck (x := (.idiv, 1, 0, 0, 0, 0)) (by decide +kernel) (if_pos h)
  · next h => exact am_run_next (x := (.idiv, 1, 0, 0, 0, 0)) (by decide +kernel) (if_neg h)
theorem r_Su_eatsBy_27 {G : Nat → Value} {d : Nat} {st : List Value} {M : am_M} {l0 l1 : Option Value} : am_run G d K_Su_eatsBy (27, [l0, l1], st, M) = am_run G d K_Su_eatsBy (29, [l0, l1], .int 100 :: st, M) := am_run_next (x := (.bipush 100, 2, 0, 0, 0, 0)) (by decide +kernel) rfl
theorem r_Su_eatsBy_29 {G : Nat → Value} {d : Nat} {st : List Value} {M : am_M} {l0 l1 : Option Value} {a b : Int32} : am_run G d K_Su_eatsBy (29, [l0, l1], .int b :: .int a :: st, M) = if b = 0 then none else am_run G d K_Su_eatsBy (30, [l0, l1], .int (a - a / b * b) :: st, M) := by
  split
  · next h => exact am_run_stuck (x := (.irem, 1, 0, 0, 0, 0)) (by decide +kernel) (if_pos h)
  · next h => exact am_run_next (x := (.irem, 1, 0, 0, 0, 0)) (by decide +kernel) (if_neg h)
theorem r_Su_eatsBy_30 {G : Nat → Value} {d : Nat} {st : List Value} {M : am_M} {l0 l1 : Option Value} : am_run G d K_Su_eatsBy (30, [l0, l1], st, M) = am_run G d K_Su_eatsBy (40, [l0, l1], st, M) := am_run_next (x := (.goto 10, 3, 0, 0, 0, 0)) (by decide +kernel) rfl
theorem r_Su_eatsBy_33 {G : Nat → Value} {d : Nat} {st : List Value} {M : am_M} {l1 : Option Value} {v : Value} (hv : am_isr v = true) : am_run G d K_Su_eatsBy (33, [some v, l1], st, M) = am_run G d K_Su_eatsBy (34, [some v, l1], v :: st, M) := by
  rcases am_isr_cases hv with ⟨q, rfl⟩ | rfl
  · exact am_run_next (x := (.aload_n 0, 1, 0, 0, 0, 0)) (by decide +kernel) rfl
  · exact am_run_next (x := (.aload_n 0, 1, 0, 0, 0, 0)) (by decide +kernel) rfl
theorem r_Su_eatsBy_34 {G : Nat → Value} {d : Nat} {st : List Value} {M : am_M} {l0 l1 : Option Value} {a : Nat} : am_run G d K_Su_eatsBy (34, [l0, l1], .ref a :: st, M) = am_kf G d K_Su_eatsBy 37 [l0, l1] st M (am_fld M a 6 0) := am_run_kf (x := (.getfield 7, 3, 6, 0, 2192, 0)) (by decide +kernel) rfl
theorem r_Su_eatsBy_37 {G : Nat → Value} {d : Nat} {st : List Value} {M : am_M} {l0 l1 : Option Value} : am_run G d K_Su_eatsBy (37, [l0, l1], st, M) = am_run G d K_Su_eatsBy (39, [l0, l1], .int 100 :: st, M) := am_run_next (x := (.bipush 100, 2, 0, 0, 0, 0)) (by decide +kernel) rfl
theorem r_Su_eatsBy_39 {G : Nat → Value} {d : Nat} {st : List Value} {M : am_M} {l0 l1 : Option Value} {a b : Int32} : am_run G d K_Su_eatsBy (39, [l0, l1], .int b :: .int a :: st, M) = if b = 0 then none else am_run G d K_Su_eatsBy (40, [l0, l1], .int (a - a / b * b) :: st, M) := by
  split
  · next h => exact am_run_stuck (x := (.irem, 1, 0, 0, 0, 0)) (by decide +kernel) (if_pos h)
  · next h => exact am_run_next (x := (.irem, 1, 0, 0, 0, 0)) (by decide +kernel) (if_neg h)
theorem r_Su_eatsBy_40 {G : Nat → Value} {d : Nat} {M : am_M} {l0 l1 : Option Value} {a : Int32} : am_run G d K_Su_eatsBy (40, [l0, l1], [.int a], M) = some (some (.int a), M) := am_run_ret (x := (.ireturn, 1, 0, 0, 0, 0)) (by decide +kernel) rfl
theorem r_H_timeOf_0 {G : Nat → Value} {d : Nat} {st : List Value} {M : am_M} {l1 l2 l3 : Option Value} {v : Value} (hv : am_isr v = true) : am_run G d K_H_timeOf (0, [some v, l1, l2, l3], st, M) = am_run G d K_H_timeOf (1, [some v, l1, l2, l3], v :: st, M) := by
  rcases am_isr_cases hv with ⟨q, rfl⟩ | rfl
  · exact am_run_next (x := (.aload_n 0, 1, 0, 0, 0, 0)) (by decide +kernel) rfl
  · exact am_run_next (x := (.aload_n 0, 1, 0, 0, 0, 0)) (by decide +kernel) rfl
theorem r_H_timeOf_1 {G : Nat → Value} {d : Nat} {st : List Value} {M : am_M} {l0 l1 l2 l3 : Option Value} {q : Nat} (hq : am_cls M q = some 2) (h8 : am_sw st ≤ 8) : am_run G d K_H_timeOf (1, [l0, l1, l2, l3], .ref q :: st, M) = am_k G d K_H_timeOf 4 [l0, l1, l2, l3] st (am_ex G d K_Ha_room [.ref q] M) := am_run_iv (i := 356) (n := 0) (pl := 3050) (Bs := []) (z := K_Ha_room) (by decide +kernel) hq h8 rfl (Nat.le_of_ble_eq_true rfl) rfl
theorem r_H_timeOf_4 {G : Nat → Value} {d : Nat} {st : List Value} {M : am_M} {l0 l2 l3 : Option Value} {v : Int32} : am_run G d K_H_timeOf (4, [l0, some (.int v), l2, l3], st, M) = am_run G d K_H_timeOf (5, [l0, some (.int v), l2, l3], .int v :: st, M) := am_run_next (x := (.iload_n 1, 1, 0, 0, 0, 0)) (by decide +kernel) rfl
theorem r_H_timeOf_5 {G : Nat → Value} {d : Nat} {st : List Value} {M : am_M} {l0 l1 l2 l3 : Option Value} {a : Int32} : am_run G d K_H_timeOf (5, [l0, l1, l2, l3], .int a :: st, M) = am_run G d K_H_timeOf (6, [l0, l1, l2, l3], .long a.toInt64 :: st, M) := am_run_next (x := (.i2l, 1, 0, 0, 0, 0)) (by decide +kernel) rfl
theorem r_H_timeOf_6 {G : Nat → Value} {d : Nat} {st : List Value} {M : am_M} {l0 l1 l2 l3 : Option Value} {a b : Int64} : am_run G d K_H_timeOf (6, [l0, l1, l2, l3], .long b :: .long a :: st, M) = am_run G d K_H_timeOf (7, [l0, l1, l2, l3], .long (a * b) :: st, M) := am_run_next (x := (.lmul, 1, 0, 0, 0, 0)) (by decide +kernel) rfl
theorem r_H_timeOf_7 {G : Nat → Value} {d : Nat} {st : List Value} {M : am_M} {l0 l1 l3 : Option Value} {v : Int64} : am_run G d K_H_timeOf (7, [l0, l1, some (.long v), l3], st, M) = am_run G d K_H_timeOf (8, [l0, l1, some (.long v), l3], .long v :: st, M) := am_run_next (x := (.lload_n 2, 1, 0, 0, 0, 0)) (by decide +kernel) rfl
theorem r_H_timeOf_8 {G : Nat → Value} {d : Nat} {st : List Value} {M : am_M} {l0 l1 l2 l3 : Option Value} {a0 : Int64} {a1 : Int64} (h8 : am_sw st ≤ 8) : am_run G d K_H_timeOf (8, [l0, l1, l2, l3], .long a1 :: .long a0 :: st, M) = am_k G d K_H_timeOf 11 [l0, l1, l2, l3] st (am_ex G d K_H_quotient [.long a0, .long a1] M) := am_run_is (i := 359) (n := 2) (pl := 3055) (Bs := [.long a0, .long a1]) (z := K_H_quotient) (v := 1) (by decide) (by decide) (by decide +kernel) h8 rfl (Nat.le_of_ble_eq_true rfl) rfl
theorem r_H_timeOf_11 {G : Nat → Value} {d : Nat} {M : am_M} {l0 l1 l2 l3 : Option Value} {a : Int64} : am_run G d K_H_timeOf (11, [l0, l1, l2, l3], [.long a], M) = some (some (.long a), M) := am_run_ret (x := (.lreturn, 1, 0, 0, 0, 0)) (by decide +kernel) rfl
theorem r_Ha_room_0 {G : Nat → Value} {d : Nat} {st : List Value} {M : am_M} {v : Value} (hv : am_isr v = true) : am_run G d K_Ha_room (0, [some v], st, M) = am_run G d K_Ha_room (1, [some v], v :: st, M) := by
  rcases am_isr_cases hv with ⟨q, rfl⟩ | rfl
  · exact am_run_next (x := (.aload_n 0, 1, 0, 0, 0, 0)) (by decide +kernel) rfl
  · exact am_run_next (x := (.aload_n 0, 1, 0, 0, 0, 0)) (by decide +kernel) rfl
theorem r_Ha_room_1 {G : Nat → Value} {d : Nat} {st : List Value} {M : am_M} {l0 : Option Value} {a : Nat} : am_run G d K_Ha_room (1, [l0], .ref a :: st, M) = am_kf G d K_Ha_room 4 [l0] st M (am_fld M a 2 0) := am_run_kf (x := (.getfield 21, 3, 2, 0, 2210, 0)) (by decide +kernel) rfl
theorem r_Ha_room_4 {G : Nat → Value} {d : Nat} {st : List Value} {M : am_M} {l0 : Option Value} {a : Int32} : am_run G d K_Ha_room (4, [l0], .int a :: st, M) = am_run G d K_Ha_room (5, [l0], .long a.toInt64 :: st, M) := am_run_next (x := (.i2l, 1, 0, 0, 0, 0)) (by decide +kernel) rfl
theorem r_Ha_room_5 {G : Nat → Value} {d : Nat} {st : List Value} {M : am_M} {l0 : Option Value} : am_run G d K_Ha_room (5, [l0], st, M) = am_run G d K_Ha_room (8, [l0], .long 100 :: st, M) := am_run_next (x := (.ldc2_w 31, 3, 0, 0, 3054, 100)) (by decide +kernel) rfl
theorem r_Ha_room_8 {G : Nat → Value} {d : Nat} {st : List Value} {M : am_M} {l0 : Option Value} {a b : Int64} : am_run G d K_Ha_room (8, [l0], .long b :: .long a :: st, M) = am_run G d K_Ha_room (9, [l0], .long (a * b) :: st, M) := am_run_next (x := (.lmul, 1, 0, 0, 0, 0)) (by decide +kernel) rfl
theorem r_Ha_room_9 {G : Nat → Value} {d : Nat} {M : am_M} {l0 : Option Value} {a : Int64} : am_run G d K_Ha_room (9, [l0], [.long a], M) = some (some (.long a), M) := am_run_ret (x := (.lreturn, 1, 0, 0, 0, 0)) (by decide +kernel) rfl
theorem r_H_quotient_0 {G : Nat → Value} {d : Nat} {st : List Value} {M : am_M} {l0 l1 l3 : Option Value} {v : Int64} : am_run G d K_H_quotient (0, [l0, l1, some (.long v), l3], st, M) = am_run G d K_H_quotient (1, [l0, l1, some (.long v), l3], .long v :: st, M) := am_run_next (x := (.lload_n 2, 1, 0, 0, 0, 0)) (by decide +kernel) rfl
theorem r_H_quotient_1 {G : Nat → Value} {d : Nat} {st : List Value} {M : am_M} {l0 l1 l2 l3 : Option Value} : am_run G d K_H_quotient (1, [l0, l1, l2, l3], st, M) = am_run G d K_H_quotient (2, [l0, l1, l2, l3], .long 0 :: st, M) := am_run_next (x := (.lconst 0, 1, 0, 0, 0, 0)) (by decide +kernel) rfl
theorem r_H_quotient_2 {G : Nat → Value} {d : Nat} {st : List Value} {M : am_M} {l0 l1 l2 l3 : Option Value} {a b : Int64} : am_run G d K_H_quotient (2, [l0, l1, l2, l3], .long b :: .long a :: st, M) = am_run G d K_H_quotient (3, [l0, l1, l2, l3], .int (lg_cmp a b) :: st, M) := am_run_next (x := (.lcmp, 1, 0, 0, 0, 0)) (by decide +kernel) rfl
theorem r_H_quotient_3 {G : Nat → Value} {d : Nat} {st : List Value} {M : am_M} {l0 l1 l2 l3 : Option Value} {a : Int32} : am_run G d K_H_quotient (3, [l0, l1, l2, l3], .int a :: st, M) = if ¬ a = 0 then am_run G d K_H_quotient (10, [l0, l1, l2, l3], st, M) else am_run G d K_H_quotient (6, [l0, l1, l2, l3], st, M) := by
  split
  · next h => exact am_run_next (x := (.ifCond .ne 7, 3, 0, 0, 0, 0)) (by decide +kernel) (am_br_t (decide_eq_true h) (by decide))
  · next h => exact am_run_next (x := (.ifCond .ne 7, 3, 0, 0, 0, 0)) (by decide +kernel) (am_br_f (decide_eq_false h) (by decide))
theorem r_H_quotient_6 {G : Nat → Value} {d : Nat} {st : List Value} {M : am_M} {l0 l1 l2 l3 : Option Value} : am_run G d K_H_quotient (6, [l0, l1, l2, l3], st, M) = am_run G d K_H_quotient (7, [l0, l1, l2, l3], .long 0 :: st, M) := am_run_next (x := (.lconst 0, 1, 0, 0, 0, 0)) (by decide +kernel) rfl
theorem r_H_quotient_7 {G : Nat → Value} {d : Nat} {st : List Value} {M : am_M} {l0 l1 l2 l3 : Option Value} : am_run G d K_H_quotient (7, [l0, l1, l2, l3], st, M) = am_run G d K_H_quotient (13, [l0, l1, l2, l3], st, M) := am_run_next (x := (.goto 6, 3, 0, 0, 0, 0)) (by decide +kernel) rfl
theorem r_H_quotient_10 {G : Nat → Value} {d : Nat} {st : List Value} {M : am_M} {l1 l2 l3 : Option Value} {v : Int64} : am_run G d K_H_quotient (10, [some (.long v), l1, l2, l3], st, M) = am_run G d K_H_quotient (11, [some (.long v), l1, l2, l3], .long v :: st, M) := am_run_next (x := (.lload_n 0, 1, 0, 0, 0, 0)) (by decide +kernel) rfl
theorem r_H_quotient_11 {G : Nat → Value} {d : Nat} {st : List Value} {M : am_M} {l0 l1 l3 : Option Value} {v : Int64} : am_run G d K_H_quotient (11, [l0, l1, some (.long v), l3], st, M) = am_run G d K_H_quotient (12, [l0, l1, some (.long v), l3], .long v :: st, M) := am_run_next (x := (.lload_n 2, 1, 0, 0, 0, 0)) (by decide +kernel) rfl
theorem r_H_quotient_12 {G : Nat → Value} {d : Nat} {st : List Value} {M : am_M} {l0 l1 l2 l3 : Option Value} {a b : Int64} : am_run G d K_H_quotient (12, [l0, l1, l2, l3], .long b :: .long a :: st, M) = if b = 0 then none else am_run G d K_H_quotient (13, [l0, l1, l2, l3], .long (a / b) :: st, M) := by
  split
  · next h => exact am_run_stuck (x := (.ldiv, 1, 0, 0, 0, 0)) (by decide +kernel) (if_pos h)
  · next h => exact am_run_next (x := (.ldiv, 1, 0, 0, 0, 0)) (by decide +kernel) (if_neg h)
theorem r_H_quotient_13 {G : Nat → Value} {d : Nat} {M : am_M} {l0 l1 l2 l3 : Option Value} {a : Int64} : am_run G d K_H_quotient (13, [l0, l1, l2, l3], [.long a], M) = some (some (.long a), M) := am_run_ret (x := (.lreturn, 1, 0, 0, 0, 0)) (by decide +kernel) rfl
theorem r_H_night_0 {G : Nat → Value} {d : Nat} {st : List Value} {M : am_M} {l1 l2 l3 l4 l5 l6 : Option Value} {v : Value} (hv : am_isr v = true) : am_run G d K_H_night (0, [some v, l1, l2, l3, l4, l5, l6], st, M) = am_run G d K_H_night (1, [some v, l1, l2, l3, l4, l5, l6], v :: st, M) := by
  rcases am_isr_cases hv with ⟨q, rfl⟩ | rfl
  · exact am_run_next (x := (.aload_n 0, 1, 0, 0, 0, 0)) (by decide +kernel) rfl
  · exact am_run_next (x := (.aload_n 0, 1, 0, 0, 0, 0)) (by decide +kernel) rfl
theorem r_H_night_1 {G : Nat → Value} {d : Nat} {st : List Value} {M : am_M} {l0 l1 l3 l4 l5 l6 : Option Value} {v : Int32} : am_run G d K_H_night (1, [l0, l1, some (.int v), l3, l4, l5, l6], st, M) = am_run G d K_H_night (2, [l0, l1, some (.int v), l3, l4, l5, l6], .int v :: st, M) := am_run_next (x := (.iload_n 2, 1, 0, 0, 0, 0)) (by decide +kernel) rfl
theorem r_H_night_2 {G : Nat → Value} {d : Nat} {st : List Value} {M : am_M} {l0 l1 l2 l3 l4 l5 l6 : Option Value} {q : Nat} {a0 : Int32} (hq : am_cls M q = some 9) (h8 : am_sw st ≤ 8) : am_run G d K_H_night (2, [l0, l1, l2, l3, l4, l5, l6], .int a0 :: .ref q :: st, M) = am_k G d K_H_night 5 [l0, l1, l2, l3, l4, l5, l6] st (am_ex G d K_H_hallOf [.ref q, .int a0] M) := am_run_iv (i := 138) (n := 1) (pl := 3062) (Bs := [.int a0]) (z := K_H_hallOf) (by decide +kernel) hq h8 rfl (Nat.le_of_ble_eq_true rfl) rfl
theorem r_H_night_5 {G : Nat → Value} {d : Nat} {st : List Value} {M : am_M} {l0 l1 l2 l3 l4 l5 l6 : Option Value} {v : Value} (hv : am_isr v = true) (hc : am_c1 l5 = true) : am_run G d K_H_night (5, [l0, l1, l2, l3, l4, l5, l6], v :: st, M) = am_run G d K_H_night (7, [l0, l1, l2, l3, l4, l5, some v], st, M) := by
  rcases am_isr_cases hv with ⟨q1, rfl⟩ | rfl
  · rcases am_c1_cases hc with rfl | ⟨q, rfl⟩ | ⟨q, rfl⟩ | rfl
    · exact am_run_next (x := (.astore 6, 2, 0, 0, 0, 0)) (by decide +kernel) rfl
    · exact am_run_next (x := (.astore 6, 2, 0, 0, 0, 0)) (by decide +kernel) rfl
    · exact am_run_next (x := (.astore 6, 2, 0, 0, 0, 0)) (by decide +kernel) rfl
    · exact am_run_next (x := (.astore 6, 2, 0, 0, 0, 0)) (by decide +kernel) rfl
  · rcases am_c1_cases hc with rfl | ⟨q, rfl⟩ | ⟨q, rfl⟩ | rfl
    · exact am_run_next (x := (.astore 6, 2, 0, 0, 0, 0)) (by decide +kernel) rfl
    · exact am_run_next (x := (.astore 6, 2, 0, 0, 0, 0)) (by decide +kernel) rfl
    · exact am_run_next (x := (.astore 6, 2, 0, 0, 0, 0)) (by decide +kernel) rfl
    · exact am_run_next (x := (.astore 6, 2, 0, 0, 0, 0)) (by decide +kernel) rfl
theorem r_H_night_5_k {G : Nat → Value} {d : Nat} {st : List Value} {M : am_M} {l0 l1 l2 l3 l4 l6 : Option Value} {v : Value} {z : Int64} (hv : am_isr v = true) : am_run G d K_H_night (5, [l0, l1, l2, l3, l4, some (.long z), l6], v :: st, M) = am_run G d K_H_night (7, [l0, l1, l2, l3, l4, none, some v], st, M) := by
  rcases am_isr_cases hv with ⟨q, rfl⟩ | rfl
  · exact am_run_next (x := (.astore 6, 2, 0, 0, 0, 0)) (by decide +kernel) rfl
  · exact am_run_next (x := (.astore 6, 2, 0, 0, 0, 0)) (by decide +kernel) rfl
theorem r_H_night_7 {G : Nat → Value} {d : Nat} {st : List Value} {M : am_M} {l0 l1 l2 l3 l4 l5 : Option Value} {v : Value} (hv : am_isr v = true) : am_run G d K_H_night (7, [l0, l1, l2, l3, l4, l5, some v], st, M) = am_run G d K_H_night (9, [l0, l1, l2, l3, l4, l5, some v], v :: st, M) := by
  rcases am_isr_cases hv with ⟨q, rfl⟩ | rfl
  · exact am_run_next (x := (.aload 6, 2, 0, 0, 0, 0)) (by decide +kernel) rfl
  · exact am_run_next (x := (.aload 6, 2, 0, 0, 0, 0)) (by decide +kernel) rfl
theorem r_H_night_9 {G : Nat → Value} {d : Nat} {st : List Value} {M : am_M} {l0 l1 l2 l3 l4 l5 l6 : Option Value} {v : Value} (hv : am_isr v = true) : am_run G d K_H_night (9, [l0, l1, l2, l3, l4, l5, l6], v :: st, M) = if v = .null then am_run G d K_H_night (32, [l0, l1, l2, l3, l4, l5, l6], st, M) else am_run G d K_H_night (12, [l0, l1, l2, l3, l4, l5, l6], st, M) := by
  split
  · next h => exact am_run_next (x := (.ifnull 23, 3, 0, 0, 0, 0)) (by decide +kernel) ((if_pos hv).trans (am_br_t (decide_eq_true h) (by decide)))
  · next h => exact am_run_next (x := (.ifnull 23, 3, 0, 0, 0, 0)) (by decide +kernel) ((if_pos hv).trans (am_br_f (decide_eq_false h) (by decide)))
theorem r_H_night_12 {G : Nat → Value} {d : Nat} {st : List Value} {M : am_M} {l0 l2 l3 l4 l5 l6 : Option Value} {v : Int32} : am_run G d K_H_night (12, [l0, some (.int v), l2, l3, l4, l5, l6], st, M) = am_run G d K_H_night (13, [l0, some (.int v), l2, l3, l4, l5, l6], .int v :: st, M) := am_run_next (x := (.iload_n 1, 1, 0, 0, 0, 0)) (by decide +kernel) rfl
theorem r_H_night_13 {G : Nat → Value} {d : Nat} {st : List Value} {M : am_M} {l0 l1 l2 l3 l4 l5 l6 : Option Value} : am_run G d K_H_night (13, [l0, l1, l2, l3, l4, l5, l6], st, M) = am_run G d K_H_night (14, [l0, l1, l2, l3, l4, l5, l6], .int 0 :: st, M) := am_run_next (x := (.iconst 0, 1, 0, 0, 0, 0)) (by decide +kernel) rfl
theorem r_H_night_14 {G : Nat → Value} {d : Nat} {st : List Value} {M : am_M} {l0 l1 l2 l3 l4 l5 l6 : Option Value} : am_run G d K_H_night (14, [l0, l1, l2, l3, l4, l5, l6], st, M) = am_run G d K_H_night (15, [l0, l1, l2, l3, l4, l5, l6], .int 5 :: st, M) := am_run_next (x := (.iconst 5, 1, 0, 0, 0, 0)) (by decide +kernel) rfl
theorem r_H_night_15 {G : Nat → Value} {d : Nat} {st : List Value} {M : am_M} {l0 l1 l2 l3 l4 l5 l6 : Option Value} {a0 : Int32} {a1 : Int32} {a2 : Int32} (h8 : am_sw st ≤ 8) : am_run G d K_H_night (15, [l0, l1, l2, l3, l4, l5, l6], .int a2 :: .int a1 :: .int a0 :: st, M) = am_k G d K_H_night 18 [l0, l1, l2, l3, l4, l5, l6] st (am_ex G d K_H_within [.int a0, .int a1, .int a2] M) := am_run_is (i := 92) (n := 3) (pl := 2184) (Bs := [.int a0, .int a1, .int a2]) (z := K_H_within) (v := 1) (by decide) (by decide) (by decide +kernel) h8 rfl (Nat.le_of_ble_eq_true rfl) rfl
theorem r_H_night_18 {G : Nat → Value} {d : Nat} {st : List Value} {M : am_M} {l0 l1 l2 l3 l4 l5 l6 : Option Value} {a : Int32} : am_run G d K_H_night (18, [l0, l1, l2, l3, l4, l5, l6], .int a :: st, M) = if a = 0 then am_run G d K_H_night (32, [l0, l1, l2, l3, l4, l5, l6], st, M) else am_run G d K_H_night (21, [l0, l1, l2, l3, l4, l5, l6], st, M) := by
  split
  · next h => exact am_run_next (x := (.ifCond .eq 14, 3, 0, 0, 0, 0)) (by decide +kernel) (am_br_t (decide_eq_true h) (by decide))
  · next h => exact am_run_next (x := (.ifCond .eq 14, 3, 0, 0, 0, 0)) (by decide +kernel) (am_br_f (decide_eq_false h) (by decide))
theorem r_H_night_21 {G : Nat → Value} {d : Nat} {st : List Value} {M : am_M} {l0 l1 l2 l4 l5 l6 : Option Value} {v : Int32} : am_run G d K_H_night (21, [l0, l1, l2, some (.int v), l4, l5, l6], st, M) = am_run G d K_H_night (22, [l0, l1, l2, some (.int v), l4, l5, l6], .int v :: st, M) := am_run_next (x := (.iload_n 3, 1, 0, 0, 0, 0)) (by decide +kernel) rfl
theorem r_H_night_22 {G : Nat → Value} {d : Nat} {st : List Value} {M : am_M} {l0 l1 l2 l3 l4 l5 l6 : Option Value} : am_run G d K_H_night (22, [l0, l1, l2, l3, l4, l5, l6], st, M) = am_run G d K_H_night (23, [l0, l1, l2, l3, l4, l5, l6], .int 0 :: st, M) := am_run_next (x := (.iconst 0, 1, 0, 0, 0, 0)) (by decide +kernel) rfl
theorem r_H_night_23 {G : Nat → Value} {d : Nat} {st : List Value} {M : am_M} {l0 l1 l2 l3 l4 l5 l6 : Option Value} : am_run G d K_H_night (23, [l0, l1, l2, l3, l4, l5, l6], st, M) = am_run G d K_H_night (26, [l0, l1, l2, l3, l4, l5, l6], .int 999 :: st, M) := am_run_next (x := (.sipush 999, 3, 0, 0, 0, 0)) (by decide +kernel) rfl
theorem r_H_night_26 {G : Nat → Value} {d : Nat} {st : List Value} {M : am_M} {l0 l1 l2 l3 l4 l5 l6 : Option Value} {a0 : Int32} {a1 : Int32} {a2 : Int32} (h8 : am_sw st ≤ 8) : am_run G d K_H_night (26, [l0, l1, l2, l3, l4, l5, l6], .int a2 :: .int a1 :: .int a0 :: st, M) = am_k G d K_H_night 29 [l0, l1, l2, l3, l4, l5, l6] st (am_ex G d K_H_within [.int a0, .int a1, .int a2] M) := am_run_is (i := 92) (n := 3) (pl := 2184) (Bs := [.int a0, .int a1, .int a2]) (z := K_H_within) (v := 1) (by decide) (by decide) (by decide +kernel) h8 rfl (Nat.le_of_ble_eq_true rfl) rfl
theorem r_H_night_29 {G : Nat → Value} {d : Nat} {st : List Value} {M : am_M} {l0 l1 l2 l3 l4 l5 l6 : Option Value} {a : Int32} : am_run G d K_H_night (29, [l0, l1, l2, l3, l4, l5, l6], .int a :: st, M) = if ¬ a = 0 then am_run G d K_H_night (35, [l0, l1, l2, l3, l4, l5, l6], st, M) else am_run G d K_H_night (32, [l0, l1, l2, l3, l4, l5, l6], st, M) := by
  split
  · next h => exact am_run_next (x := (.ifCond .ne 6, 3, 0, 0, 0, 0)) (by decide +kernel) (am_br_t (decide_eq_true h) (by decide))
  · next h => exact am_run_next (x := (.ifCond .ne 6, 3, 0, 0, 0, 0)) (by decide +kernel) (am_br_f (decide_eq_false h) (by decide))
theorem r_H_night_32 {G : Nat → Value} {d : Nat} {st : List Value} {M : am_M} {l0 l1 l2 l3 l4 l5 l6 : Option Value} : am_run G d K_H_night (32, [l0, l1, l2, l3, l4, l5, l6], st, M) = am_run G d K_H_night (34, [l0, l1, l2, l3, l4, l5, l6], .int (-2) :: st, M) := am_run_next (x := (.bipush (-2), 2, 0, 0, 0, 0)) (by decide +kernel) rfl
theorem r_H_night_34 {G : Nat → Value} {d : Nat} {M : am_M} {l0 l1 l2 l3 l4 l5 l6 : Option Value} {a : Int32} : am_run G d K_H_night (34, [l0, l1, l2, l3, l4, l5, l6], [.int a], M) = some (some (.int a), M) := am_run_ret (x := (.ireturn, 1, 0, 0, 0, 0)) (by decide +kernel) rfl
theorem r_H_night_35 {G : Nat → Value} {d : Nat} {st : List Value} {M : am_M} {l0 l1 l2 l3 l5 l6 : Option Value} {v : Int32} : am_run G d K_H_night (35, [l0, l1, l2, l3, some (.int v), l5, l6], st, M) = am_run G d K_H_night (37, [l0, l1, l2, l3, some (.int v), l5, l6], .int v :: st, M) := am_run_next (x := (.iload 4, 2, 0, 0, 0, 0)) (by decide +kernel) rfl
theorem r_H_night_37 {G : Nat → Value} {d : Nat} {st : List Value} {M : am_M} {l0 l1 l2 l3 l4 l5 l6 : Option Value} : am_run G d K_H_night (37, [l0, l1, l2, l3, l4, l5, l6], st, M) = am_run G d K_H_night (38, [l0, l1, l2, l3, l4, l5, l6], .int 0 :: st, M) := am_run_next (x := (.iconst 0, 1, 0, 0, 0, 0)) (by decide +kernel) rfl
theorem r_H_night_38 {G : Nat → Value} {d : Nat} {st : List Value} {M : am_M} {l0 l1 l2 l3 l4 l5 l6 : Option Value} : am_run G d K_H_night (38, [l0, l1, l2, l3, l4, l5, l6], st, M) = am_run G d K_H_night (40, [l0, l1, l2, l3, l4, l5, l6], .int 99999 :: st, M) := am_run_next (x := (.ldc 102, 2, 0, 0, 2204, 99999)) (by decide +kernel) rfl
theorem r_H_night_40 {G : Nat → Value} {d : Nat} {st : List Value} {M : am_M} {l0 l1 l2 l3 l4 l5 l6 : Option Value} {a0 : Int32} {a1 : Int32} {a2 : Int32} (h8 : am_sw st ≤ 8) : am_run G d K_H_night (40, [l0, l1, l2, l3, l4, l5, l6], .int a2 :: .int a1 :: .int a0 :: st, M) = am_k G d K_H_night 43 [l0, l1, l2, l3, l4, l5, l6] st (am_ex G d K_H_within [.int a0, .int a1, .int a2] M) := am_run_is (i := 92) (n := 3) (pl := 2184) (Bs := [.int a0, .int a1, .int a2]) (z := K_H_within) (v := 1) (by decide) (by decide) (by decide +kernel) h8 rfl (Nat.le_of_ble_eq_true rfl) rfl
theorem r_H_night_43 {G : Nat → Value} {d : Nat} {st : List Value} {M : am_M} {l0 l1 l2 l3 l4 l5 l6 : Option Value} {a : Int32} : am_run G d K_H_night (43, [l0, l1, l2, l3, l4, l5, l6], .int a :: st, M) = if a = 0 then am_run G d K_H_night (57, [l0, l1, l2, l3, l4, l5, l6], st, M) else am_run G d K_H_night (46, [l0, l1, l2, l3, l4, l5, l6], st, M) := by
  split
  · next h => exact am_run_next (x := (.ifCond .eq 14, 3, 0, 0, 0, 0)) (by decide +kernel) (am_br_t (decide_eq_true h) (by decide))
  · next h => exact am_run_next (x := (.ifCond .eq 14, 3, 0, 0, 0, 0)) (by decide +kernel) (am_br_f (decide_eq_false h) (by decide))
theorem r_H_night_46 {G : Nat → Value} {d : Nat} {st : List Value} {M : am_M} {l0 l1 l2 l3 l4 l6 : Option Value} {v : Int32} : am_run G d K_H_night (46, [l0, l1, l2, l3, l4, some (.int v), l6], st, M) = am_run G d K_H_night (48, [l0, l1, l2, l3, l4, some (.int v), l6], .int v :: st, M) := am_run_next (x := (.iload 5, 2, 0, 0, 0, 0)) (by decide +kernel) rfl
theorem r_H_night_48 {G : Nat → Value} {d : Nat} {st : List Value} {M : am_M} {l0 l1 l2 l3 l4 l5 l6 : Option Value} : am_run G d K_H_night (48, [l0, l1, l2, l3, l4, l5, l6], st, M) = am_run G d K_H_night (49, [l0, l1, l2, l3, l4, l5, l6], .int 0 :: st, M) := am_run_next (x := (.iconst 0, 1, 0, 0, 0, 0)) (by decide +kernel) rfl
theorem r_H_night_49 {G : Nat → Value} {d : Nat} {st : List Value} {M : am_M} {l0 l1 l2 l3 l4 l5 l6 : Option Value} : am_run G d K_H_night (49, [l0, l1, l2, l3, l4, l5, l6], st, M) = am_run G d K_H_night (51, [l0, l1, l2, l3, l4, l5, l6], .int 9 :: st, M) := am_run_next (x := (.bipush 9, 2, 0, 0, 0, 0)) (by decide +kernel) rfl
theorem r_H_night_51 {G : Nat → Value} {d : Nat} {st : List Value} {M : am_M} {l0 l1 l2 l3 l4 l5 l6 : Option Value} {a0 : Int32} {a1 : Int32} {a2 : Int32} (h8 : am_sw st ≤ 8) : am_run G d K_H_night (51, [l0, l1, l2, l3, l4, l5, l6], .int a2 :: .int a1 :: .int a0 :: st, M) = am_k G d K_H_night 54 [l0, l1, l2, l3, l4, l5, l6] st (am_ex G d K_H_within [.int a0, .int a1, .int a2] M) := am_run_is (i := 92) (n := 3) (pl := 2184) (Bs := [.int a0, .int a1, .int a2]) (z := K_H_within) (v := 1) (by decide) (by decide) (by decide +kernel) h8 rfl (Nat.le_of_ble_eq_true rfl) rfl
theorem r_H_night_54 {G : Nat → Value} {d : Nat} {st : List Value} {M : am_M} {l0 l1 l2 l3 l4 l5 l6 : Option Value} {a : Int32} : am_run G d K_H_night (54, [l0, l1, l2, l3, l4, l5, l6], .int a :: st, M) = if ¬ a = 0 then am_run G d K_H_night (60, [l0, l1, l2, l3, l4, l5, l6], st, M) else am_run G d K_H_night (57, [l0, l1, l2, l3, l4, l5, l6], st, M) := by
  split
  · next h => exact am_run_next (x := (.ifCond .ne 6, 3, 0, 0, 0, 0)) (by decide +kernel) (am_br_t (decide_eq_true h) (by decide))
  · next h => exact am_run_next (x := (.ifCond .ne 6, 3, 0, 0, 0, 0)) (by decide +kernel) (am_br_f (decide_eq_false h) (by decide))
theorem r_H_night_57 {G : Nat → Value} {d : Nat} {st : List Value} {M : am_M} {l0 l1 l2 l3 l4 l5 l6 : Option Value} : am_run G d K_H_night (57, [l0, l1, l2, l3, l4, l5, l6], st, M) = am_run G d K_H_night (59, [l0, l1, l2, l3, l4, l5, l6], .int (-2) :: st, M) := am_run_next (x := (.bipush (-2), 2, 0, 0, 0, 0)) (by decide +kernel) rfl
theorem r_H_night_59 {G : Nat → Value} {d : Nat} {M : am_M} {l0 l1 l2 l3 l4 l5 l6 : Option Value} {a : Int32} : am_run G d K_H_night (59, [l0, l1, l2, l3, l4, l5, l6], [.int a], M) = some (some (.int a), M) := am_run_ret (x := (.ireturn, 1, 0, 0, 0, 0)) (by decide +kernel) rfl
theorem r_H_night_60 {G : Nat → Value} {d : Nat} {st : List Value} {M : am_M} {l1 l2 l3 l4 l5 l6 : Option Value} {v : Value} (hv : am_isr v = true) : am_run G d K_H_night (60, [some v, l1, l2, l3, l4, l5, l6], st, M) = am_run G d K_H_night (61, [some v, l1, l2, l3, l4, l5, l6], v :: st, M) := by
  rcases am_isr_cases hv with ⟨q, rfl⟩ | rfl
  · exact am_run_next (x := (.aload_n 0, 1, 0, 0, 0, 0)) (by decide +kernel) rfl
  · exact am_run_next (x := (.aload_n 0, 1, 0, 0, 0, 0)) (by decide +kernel) rfl
theorem r_H_night_61 {G : Nat → Value} {d : Nat} {st : List Value} {M : am_M} {l0 l1 l2 l3 l4 l5 l6 : Option Value} {a : Nat} : am_run G d K_H_night (61, [l0, l1, l2, l3, l4, l5, l6], .ref a :: st, M) = am_kf G d K_H_night 64 [l0, l1, l2, l3, l4, l5, l6] st M (am_fld M a 9 7) := am_run_kf (x := (.getfield 141, 3, 9, 7, 2131, 0)) (by decide +kernel) rfl
theorem r_H_night_64 {G : Nat → Value} {d : Nat} {st : List Value} {M : am_M} {l1 l2 l3 l4 l5 l6 : Option Value} {v : Value} (hv : am_isr v = true) : am_run G d K_H_night (64, [some v, l1, l2, l3, l4, l5, l6], st, M) = am_run G d K_H_night (65, [some v, l1, l2, l3, l4, l5, l6], v :: st, M) := by
  rcases am_isr_cases hv with ⟨q, rfl⟩ | rfl
  · exact am_run_next (x := (.aload_n 0, 1, 0, 0, 0, 0)) (by decide +kernel) rfl
  · exact am_run_next (x := (.aload_n 0, 1, 0, 0, 0, 0)) (by decide +kernel) rfl
theorem r_H_night_65 {G : Nat → Value} {d : Nat} {st : List Value} {M : am_M} {l0 l1 l2 l3 l4 l5 l6 : Option Value} {a : Nat} : am_run G d K_H_night (65, [l0, l1, l2, l3, l4, l5, l6], .ref a :: st, M) = am_kf G d K_H_night 68 [l0, l1, l2, l3, l4, l5, l6] st M (am_fld M a 9 2) := am_run_kf (x := (.getfield 23, 3, 9, 2, 2126, 0)) (by decide +kernel) rfl
theorem r_H_night_68 {G : Nat → Value} {d : Nat} {st : List Value} {M : am_M} {l0 l1 l2 l3 l4 l5 l6 : Option Value} {a : Nat} : am_run G d K_H_night (68, [l0, l1, l2, l3, l4, l5, l6], .ref a :: st, M) = am_kn G d K_H_night 69 [l0, l1, l2, l3, l4, l5, l6] st M (am_len M a) := am_run_kn (x := (.arraylength, 1, 0, 0, 0, 0)) (by decide +kernel) rfl
theorem r_H_night_69 {G : Nat → Value} {d : Nat} {st : List Value} {M : am_M} {l0 l1 l2 l3 l4 l5 l6 : Option Value} {a b : Int32} : am_run G d K_H_night (69, [l0, l1, l2, l3, l4, l5, l6], .int b :: .int a :: st, M) = if a < b then am_run G d K_H_night (75, [l0, l1, l2, l3, l4, l5, l6], st, M) else am_run G d K_H_night (72, [l0, l1, l2, l3, l4, l5, l6], st, M) := by
  split
  · next h => exact am_run_next (x := (.if_icmp .lt 6, 3, 0, 0, 0, 0)) (by decide +kernel) (am_br_t (decide_eq_true h) (by decide))
  · next h => exact am_run_next (x := (.if_icmp .lt 6, 3, 0, 0, 0, 0)) (by decide +kernel) (am_br_f (decide_eq_false h) (by decide))
theorem r_H_night_72 {G : Nat → Value} {d : Nat} {st : List Value} {M : am_M} {l0 l1 l2 l3 l4 l5 l6 : Option Value} : am_run G d K_H_night (72, [l0, l1, l2, l3, l4, l5, l6], st, M) = am_run G d K_H_night (74, [l0, l1, l2, l3, l4, l5, l6], .int (-4) :: st, M) := am_run_next (x := (.bipush (-4), 2, 0, 0, 0, 0)) (by decide +kernel) rfl
theorem r_H_night_74 {G : Nat → Value} {d : Nat} {M : am_M} {l0 l1 l2 l3 l4 l5 l6 : Option Value} {a : Int32} : am_run G d K_H_night (74, [l0, l1, l2, l3, l4, l5, l6], [.int a], M) = some (some (.int a), M) := am_run_ret (x := (.ireturn, 1, 0, 0, 0, 0)) (by decide +kernel) rfl
theorem r_H_night_75 {G : Nat → Value} {d : Nat} {st : List Value} {M : am_M} {l1 l2 l3 l4 l5 l6 : Option Value} {v : Value} (hv : am_isr v = true) : am_run G d K_H_night (75, [some v, l1, l2, l3, l4, l5, l6], st, M) = am_run G d K_H_night (76, [some v, l1, l2, l3, l4, l5, l6], v :: st, M) := by
  rcases am_isr_cases hv with ⟨q, rfl⟩ | rfl
  · exact am_run_next (x := (.aload_n 0, 1, 0, 0, 0, 0)) (by decide +kernel) rfl
  · exact am_run_next (x := (.aload_n 0, 1, 0, 0, 0, 0)) (by decide +kernel) rfl
theorem r_H_night_76 {G : Nat → Value} {d : Nat} {st : List Value} {M : am_M} {l0 l1 l2 l3 l4 l5 l6 : Option Value} {a : Nat} : am_run G d K_H_night (76, [l0, l1, l2, l3, l4, l5, l6], .ref a :: st, M) = am_kf G d K_H_night 79 [l0, l1, l2, l3, l4, l5, l6] st M (am_fld M a 9 2) := am_run_kf (x := (.getfield 23, 3, 9, 2, 2126, 0)) (by decide +kernel) rfl
theorem r_H_night_79 {G : Nat → Value} {d : Nat} {st : List Value} {M : am_M} {l1 l2 l3 l4 l5 l6 : Option Value} {v : Value} (hv : am_isr v = true) : am_run G d K_H_night (79, [some v, l1, l2, l3, l4, l5, l6], st, M) = am_run G d K_H_night (80, [some v, l1, l2, l3, l4, l5, l6], v :: st, M) := by
  rcases am_isr_cases hv with ⟨q, rfl⟩ | rfl
  · exact am_run_next (x := (.aload_n 0, 1, 0, 0, 0, 0)) (by decide +kernel) rfl
  · exact am_run_next (x := (.aload_n 0, 1, 0, 0, 0, 0)) (by decide +kernel) rfl
theorem r_H_night_80 {G : Nat → Value} {d : Nat} {st : List Value} {M : am_M} {l0 l1 l2 l3 l4 l5 l6 : Option Value} {a : Nat} : am_run G d K_H_night (80, [l0, l1, l2, l3, l4, l5, l6], .ref a :: st, M) = am_kf G d K_H_night 83 [l0, l1, l2, l3, l4, l5, l6] st M (am_fld M a 9 7) := am_run_kf (x := (.getfield 141, 3, 9, 7, 2131, 0)) (by decide +kernel) rfl
theorem r_H_night_83 {G : Nat → Value} {d : Nat} {st : List Value} {M : am_M} {l0 l1 l2 l3 l4 l5 l6 : Option Value} : am_run G d K_H_night (83, [l0, l1, l2, l3, l4, l5, l6], st, M) = am_run G d K_H_night (86, [l0, l1, l2, l3, l4, l5, l6], .ref M.1 :: st, am_add M (.inr (3, [.int 0, .null, .int 0, .int 0, .int 0, .int 0, .int 0]))) := am_run_next (x := (.new 21, 3, 3, 0, 1033, 0)) (by decide +kernel) rfl
theorem r_H_night_86 {G : Nat → Value} {d : Nat} {st : List Value} {M : am_M} {l0 l1 l2 l3 l4 l5 l6 : Option Value} {v : Value} (hv : v.category = 1) : am_run G d K_H_night (86, [l0, l1, l2, l3, l4, l5, l6], v :: st, M) = am_run G d K_H_night (87, [l0, l1, l2, l3, l4, l5, l6], v :: v :: st, M) := am_run_next (x := (.dup, 1, 0, 0, 0, 0)) (by decide +kernel) (if_pos hv)
theorem r_H_night_87 {G : Nat → Value} {d : Nat} {st : List Value} {M : am_M} {l0 l2 l3 l4 l5 l6 : Option Value} {v : Int32} : am_run G d K_H_night (87, [l0, some (.int v), l2, l3, l4, l5, l6], st, M) = am_run G d K_H_night (88, [l0, some (.int v), l2, l3, l4, l5, l6], .int v :: st, M) := am_run_next (x := (.iload_n 1, 1, 0, 0, 0, 0)) (by decide +kernel) rfl
theorem r_H_night_88 {G : Nat → Value} {d : Nat} {st : List Value} {M : am_M} {l0 l1 l2 l3 l4 l5 : Option Value} {v : Value} (hv : am_isr v = true) : am_run G d K_H_night (88, [l0, l1, l2, l3, l4, l5, some v], st, M) = am_run G d K_H_night (90, [l0, l1, l2, l3, l4, l5, some v], v :: st, M) := by
  rcases am_isr_cases hv with ⟨q, rfl⟩ | rfl
  · exact am_run_next (x := (.aload 6, 2, 0, 0, 0, 0)) (by decide +kernel) rfl
  · exact am_run_next (x := (.aload 6, 2, 0, 0, 0, 0)) (by decide +kernel) rfl
theorem r_H_night_90 {G : Nat → Value} {d : Nat} {st : List Value} {M : am_M} {l0 l1 l3 l4 l5 l6 : Option Value} {v : Int32} : am_run G d K_H_night (90, [l0, l1, some (.int v), l3, l4, l5, l6], st, M) = am_run G d K_H_night (91, [l0, l1, some (.int v), l3, l4, l5, l6], .int v :: st, M) := am_run_next (x := (.iload_n 2, 1, 0, 0, 0, 0)) (by decide +kernel) rfl
theorem r_H_night_91 {G : Nat → Value} {d : Nat} {st : List Value} {M : am_M} {l0 l1 l2 l4 l5 l6 : Option Value} {v : Int32} : am_run G d K_H_night (91, [l0, l1, l2, some (.int v), l4, l5, l6], st, M) = am_run G d K_H_night (92, [l0, l1, l2, some (.int v), l4, l5, l6], .int v :: st, M) := am_run_next (x := (.iload_n 3, 1, 0, 0, 0, 0)) (by decide +kernel) rfl
theorem r_H_night_92 {G : Nat → Value} {d : Nat} {st : List Value} {M : am_M} {l0 l1 l2 l3 l5 l6 : Option Value} {v : Int32} : am_run G d K_H_night (92, [l0, l1, l2, l3, some (.int v), l5, l6], st, M) = am_run G d K_H_night (94, [l0, l1, l2, l3, some (.int v), l5, l6], .int v :: st, M) := am_run_next (x := (.iload 4, 2, 0, 0, 0, 0)) (by decide +kernel) rfl
theorem r_H_night_94 {G : Nat → Value} {d : Nat} {st : List Value} {M : am_M} {l0 l1 l2 l3 l4 l6 : Option Value} {v : Int32} : am_run G d K_H_night (94, [l0, l1, l2, l3, l4, some (.int v), l6], st, M) = am_run G d K_H_night (96, [l0, l1, l2, l3, l4, some (.int v), l6], .int v :: st, M) := am_run_next (x := (.iload 5, 2, 0, 0, 0, 0)) (by decide +kernel) rfl
theorem r_H_night_96 {G : Nat → Value} {d : Nat} {st : List Value} {M : am_M} {l0 l1 l2 l3 l4 l5 l6 : Option Value} {q : Nat} {a0 : Int32} {a1 : Value} {a2 : Int32} {a3 : Int32} {a4 : Int32} {a5 : Int32} (h1 : am_isr a1 = true) (h8 : am_sw st ≤ 8) : am_run G d K_H_night (96, [l0, l1, l2, l3, l4, l5, l6], .int a5 :: .int a4 :: .int a3 :: .int a2 :: a1 :: .int a0 :: .ref q :: st, M) = am_k G d K_H_night 99 [l0, l1, l2, l3, l4, l5, l6] st (am_ex G d K_Ni_init [.ref q, .int a0, a1, .int a2, .int a3, .int a4, .int a5] M) := by
  have he : (am_exp [.ref q, .int a0, a1, .int a2, .int a3, .int a4, .int a5]).length ≤ am_mL K_Ni_init := by
    rcases am_isr_cases h1 with ⟨z1, rfl⟩ | rfl <;> exact Nat.le_of_ble_eq_true rfl
  exact am_run_ip (i := 144) (n := 6) (pl := 3067) (Bs := [.int a0, a1, .int a2, .int a3, .int a4, .int a5]) (z := K_Ni_init) (v := 2) (by decide) (by decide +kernel) h8 rfl he rfl
theorem r_H_night_99 {G : Nat → Value} {d : Nat} {st : List Value} {M : am_M} {l0 l1 l2 l3 l4 l5 l6 : Option Value} {a v : Nat} {i : Int32} : am_run G d K_H_night (99, [l0, l1, l2, l3, l4, l5, l6], .ref v :: .int i :: .ref a :: st, M) = am_km G d K_H_night 100 [l0, l1, l2, l3, l4, l5, l6] st (am_pr M a i v) := am_run_km (x := (.aastore, 1, 0, 0, 0, 0)) (by decide +kernel) rfl
theorem r_H_night_100 {G : Nat → Value} {d : Nat} {st : List Value} {M : am_M} {l1 l2 l3 l4 l5 l6 : Option Value} {v : Value} (hv : am_isr v = true) : am_run G d K_H_night (100, [some v, l1, l2, l3, l4, l5, l6], st, M) = am_run G d K_H_night (101, [some v, l1, l2, l3, l4, l5, l6], v :: st, M) := by
  rcases am_isr_cases hv with ⟨q, rfl⟩ | rfl
  · exact am_run_next (x := (.aload_n 0, 1, 0, 0, 0, 0)) (by decide +kernel) rfl
  · exact am_run_next (x := (.aload_n 0, 1, 0, 0, 0, 0)) (by decide +kernel) rfl
theorem r_H_night_101 {G : Nat → Value} {d : Nat} {st : List Value} {M : am_M} {l0 l1 l2 l3 l4 l5 l6 : Option Value} {v : Value} (hv : v.category = 1) : am_run G d K_H_night (101, [l0, l1, l2, l3, l4, l5, l6], v :: st, M) = am_run G d K_H_night (102, [l0, l1, l2, l3, l4, l5, l6], v :: v :: st, M) := am_run_next (x := (.dup, 1, 0, 0, 0, 0)) (by decide +kernel) (if_pos hv)
theorem r_H_night_102 {G : Nat → Value} {d : Nat} {st : List Value} {M : am_M} {l0 l1 l2 l3 l4 l5 l6 : Option Value} {a : Nat} : am_run G d K_H_night (102, [l0, l1, l2, l3, l4, l5, l6], .ref a :: st, M) = am_kf G d K_H_night 105 [l0, l1, l2, l3, l4, l5, l6] st M (am_fld M a 9 7) := am_run_kf (x := (.getfield 141, 3, 9, 7, 2131, 0)) (by decide +kernel) rfl
theorem r_H_night_105 {G : Nat → Value} {d : Nat} {st : List Value} {M : am_M} {l0 l1 l2 l3 l4 l5 l6 : Option Value} {v w : Value} (hv : v.category = 1) (hw : w.category = 1) : am_run G d K_H_night (105, [l0, l1, l2, l3, l4, l5, l6], v :: w :: st, M) = am_run G d K_H_night (106, [l0, l1, l2, l3, l4, l5, l6], v :: w :: v :: st, M) := am_run_next (x := (.dup_x1, 1, 0, 0, 0, 0)) (by decide +kernel) (if_pos ⟨hv, hw⟩)
theorem r_H_night_106 {G : Nat → Value} {d : Nat} {st : List Value} {M : am_M} {l0 l1 l2 l3 l4 l5 l6 : Option Value} : am_run G d K_H_night (106, [l0, l1, l2, l3, l4, l5, l6], st, M) = am_run G d K_H_night (107, [l0, l1, l2, l3, l4, l5, l6], .int 1 :: st, M) := am_run_next (x := (.iconst 1, 1, 0, 0, 0, 0)) (by decide +kernel) rfl
theorem r_H_night_107 {G : Nat → Value} {d : Nat} {st : List Value} {M : am_M} {l0 l1 l2 l3 l4 l5 l6 : Option Value} {a b : Int32} : am_run G d K_H_night (107, [l0, l1, l2, l3, l4, l5, l6], .int b :: .int a :: st, M) = am_run G d K_H_night (108, [l0, l1, l2, l3, l4, l5, l6], .int (a + b) :: st, M) := am_run_next (x := (.iadd, 1, 0, 0, 0, 0)) (by decide +kernel) rfl
theorem r_H_night_108 {G : Nat → Value} {d : Nat} {st : List Value} {M : am_M} {l0 l1 l2 l3 l4 l5 l6 : Option Value} {a : Nat} {v : Value} : am_run G d K_H_night (108, [l0, l1, l2, l3, l4, l5, l6], v :: .ref a :: st, M) = am_km G d K_H_night 111 [l0, l1, l2, l3, l4, l5, l6] st (am_pf M a 9 7 .int v) := am_run_km (x := (.putfield 141, 3, 9, 7, 2131, 0)) (by decide +kernel) rfl
theorem r_H_night_111 {G : Nat → Value} {d : Nat} {M : am_M} {l0 l1 l2 l3 l4 l5 l6 : Option Value} {a : Int32} : am_run G d K_H_night (111, [l0, l1, l2, l3, l4, l5, l6], [.int a], M) = some (some (.int a), M) := am_run_ret (x := (.ireturn, 1, 0, 0, 0, 0)) (by decide +kernel) rfl
theorem r_H_hallOf_0 {G : Nat → Value} {d : Nat} {st : List Value} {M : am_M} {l0 : Option Value} {v : Int32} : am_run G d K_H_hallOf (0, [l0, some (.int v)], st, M) = am_run G d K_H_hallOf (1, [l0, some (.int v)], .int v :: st, M) := am_run_next (x := (.iload_n 1, 1, 0, 0, 0, 0)) (by decide +kernel) rfl
theorem r_H_hallOf_1 {G : Nat → Value} {d : Nat} {st : List Value} {M : am_M} {l0 l1 : Option Value} {a : Int32} : am_run G d K_H_hallOf (1, [l0, l1], .int a :: st, M) = if a < 0 then am_run G d K_H_hallOf (23, [l0, l1], st, M) else am_run G d K_H_hallOf (4, [l0, l1], st, M) := by
  split
  · next h => exact am_run_next (x := (.ifCond .lt 22, 3, 0, 0, 0, 0)) (by decide +kernel) (am_br_t (decide_eq_true h) (by decide))
  · next h => exact am_run_next (x := (.ifCond .lt 22, 3, 0, 0, 0, 0)) (by decide +kernel) (am_br_f (decide_eq_false h) (by decide))
theorem r_H_hallOf_4 {G : Nat → Value} {d : Nat} {st : List Value} {M : am_M} {l0 : Option Value} {v : Int32} : am_run G d K_H_hallOf (4, [l0, some (.int v)], st, M) = am_run G d K_H_hallOf (5, [l0, some (.int v)], .int v :: st, M) := am_run_next (x := (.iload_n 1, 1, 0, 0, 0, 0)) (by decide +kernel) rfl
theorem r_H_hallOf_5 {G : Nat → Value} {d : Nat} {st : List Value} {M : am_M} {l0 l1 : Option Value} : am_run G d K_H_hallOf (5, [l0, l1], st, M) = am_run G d K_H_hallOf (7, [l0, l1], .int 10 :: st, M) := am_run_next (x := (.bipush 10, 2, 0, 0, 0, 0)) (by decide +kernel) rfl
theorem r_H_hallOf_7 {G : Nat → Value} {d : Nat} {st : List Value} {M : am_M} {l0 l1 : Option Value} {a b : Int32} : am_run G d K_H_hallOf (7, [l0, l1], .int b :: .int a :: st, M) = if b = 0 then none else am_run G d K_H_hallOf (8, [l0, l1], .int (a - a / b * b) :: st, M) := by
  split
  · next h => exact am_run_stuck (x := (.irem, 1, 0, 0, 0, 0)) (by decide +kernel) (if_pos h)
  · next h => exact am_run_next (x := (.irem, 1, 0, 0, 0, 0)) (by decide +kernel) (if_neg h)
theorem r_H_hallOf_8 {G : Nat → Value} {d : Nat} {st : List Value} {M : am_M} {l0 l1 : Option Value} : am_run G d K_H_hallOf (8, [l0, l1], st, M) = am_run G d K_H_hallOf (9, [l0, l1], .int 2 :: st, M) := am_run_next (x := (.iconst 2, 1, 0, 0, 0, 0)) (by decide +kernel) rfl
theorem r_H_hallOf_9 {G : Nat → Value} {d : Nat} {st : List Value} {M : am_M} {l0 l1 : Option Value} {a b : Int32} : am_run G d K_H_hallOf (9, [l0, l1], .int b :: .int a :: st, M) = if b < a then am_run G d K_H_hallOf (23, [l0, l1], st, M) else am_run G d K_H_hallOf (12, [l0, l1], st, M) := by
  split
  · next h => exact am_run_next (x := (.if_icmp .gt 14, 3, 0, 0, 0, 0)) (by decide +kernel) (am_br_t (decide_eq_true h) (by decide))
  · next h => exact am_run_next (x := (.if_icmp .gt 14, 3, 0, 0, 0, 0)) (by decide +kernel) (am_br_f (decide_eq_false h) (by decide))
theorem r_H_hallOf_12 {G : Nat → Value} {d : Nat} {st : List Value} {M : am_M} {l1 : Option Value} {v : Value} (hv : am_isr v = true) : am_run G d K_H_hallOf (12, [some v, l1], st, M) = am_run G d K_H_hallOf (13, [some v, l1], v :: st, M) := by
  rcases am_isr_cases hv with ⟨q, rfl⟩ | rfl
  · exact am_run_next (x := (.aload_n 0, 1, 0, 0, 0, 0)) (by decide +kernel) rfl
  · exact am_run_next (x := (.aload_n 0, 1, 0, 0, 0, 0)) (by decide +kernel) rfl
theorem r_H_hallOf_13 {G : Nat → Value} {d : Nat} {st : List Value} {M : am_M} {l0 : Option Value} {v : Int32} : am_run G d K_H_hallOf (13, [l0, some (.int v)], st, M) = am_run G d K_H_hallOf (14, [l0, some (.int v)], .int v :: st, M) := am_run_next (x := (.iload_n 1, 1, 0, 0, 0, 0)) (by decide +kernel) rfl
theorem r_H_hallOf_14 {G : Nat → Value} {d : Nat} {st : List Value} {M : am_M} {l0 l1 : Option Value} : am_run G d K_H_hallOf (14, [l0, l1], st, M) = am_run G d K_H_hallOf (16, [l0, l1], .int 10 :: st, M) := am_run_next (x := (.bipush 10, 2, 0, 0, 0, 0)) (by decide +kernel) rfl
theorem r_H_hallOf_16 {G : Nat → Value} {d : Nat} {st : List Value} {M : am_M} {l0 l1 : Option Value} {a b : Int32} : am_run G d K_H_hallOf (16, [l0, l1], .int b :: .int a :: st, M) = if b = 0 then none else am_run G d K_H_hallOf (17, [l0, l1], .int (a / b) :: st, M) := by
  split
  · next h => exact am_run_stuck (x := (.idiv, 1, 0, 0, 0, 0)) (by decide +kernel) (if_pos h)
  · next h => exact am_run_next (x := (.idiv, 1, 0, 0, 0, 0)) (by decide +kernel) (if_neg h)
theorem r_H_hallOf_17 {G : Nat → Value} {d : Nat} {st : List Value} {M : am_M} {l0 l1 : Option Value} {q : Nat} {a0 : Int32} (hq : am_cls M q = some 9) (h8 : am_sw st ≤ 8) : am_run G d K_H_hallOf (17, [l0, l1], .int a0 :: .ref q :: st, M) = am_k G d K_H_hallOf 20 [l0, l1] st (am_ex G d K_H_hallAt [.ref q, .int a0] M) := am_run_iv (i := 109) (n := 1) (pl := 3004) (Bs := [.int a0]) (z := K_H_hallAt) (by decide +kernel) hq h8 rfl (Nat.le_of_ble_eq_true rfl) rfl
theorem r_H_hallOf_20 {G : Nat → Value} {d : Nat} {st : List Value} {M : am_M} {l0 l1 : Option Value} : am_run G d K_H_hallOf (20, [l0, l1], st, M) = am_run G d K_H_hallOf (24, [l0, l1], st, M) := am_run_next (x := (.goto 4, 3, 0, 0, 0, 0)) (by decide +kernel) rfl
theorem r_H_hallOf_23 {G : Nat → Value} {d : Nat} {st : List Value} {M : am_M} {l0 l1 : Option Value} : am_run G d K_H_hallOf (23, [l0, l1], st, M) = am_run G d K_H_hallOf (24, [l0, l1], .null :: st, M) := am_run_next (x := (.aconst_null, 1, 0, 0, 0, 0)) (by decide +kernel) rfl
theorem r_H_hallOf_24 {G : Nat → Value} {d : Nat} {M : am_M} {l0 l1 : Option Value} {v : Value} (hv : am_isr v = true) : am_run G d K_H_hallOf (24, [l0, l1], [v], M) = some (some v, M) := am_run_ret (x := (.areturn, 1, 0, 0, 0, 0)) (by decide +kernel) (if_pos ⟨hv, rfl⟩)
theorem r_Ni_init_0 {G : Nat → Value} {d : Nat} {st : List Value} {M : am_M} {l1 l2 l3 l4 l5 l6 : Option Value} {v : Value} (hv : am_isr v = true) : am_run G d K_Ni_init (0, [some v, l1, l2, l3, l4, l5, l6], st, M) = am_run G d K_Ni_init (1, [some v, l1, l2, l3, l4, l5, l6], v :: st, M) := by
  rcases am_isr_cases hv with ⟨q, rfl⟩ | rfl
  · exact am_run_next (x := (.aload_n 0, 1, 0, 0, 0, 0)) (by decide +kernel) rfl
  · exact am_run_next (x := (.aload_n 0, 1, 0, 0, 0, 0)) (by decide +kernel) rfl
theorem r_Ni_init_1 {G : Nat → Value} {d : Nat} {st : List Value} {M : am_M} {l0 l1 l2 l3 l4 l5 l6 : Option Value} {a : Nat} (h8 : am_sw st ≤ 8) : am_run G d K_Ni_init (1, [l0, l1, l2, l3, l4, l5, l6], .ref a :: st, M) = am_run G d K_Ni_init (4, [l0, l1, l2, l3, l4, l5, l6], st, M) := am_run_next (x := (.invokespecial 1, 3, 0, 0, 3070, 5)) (by decide +kernel) (if_pos h8)
theorem r_Ni_init_4 {G : Nat → Value} {d : Nat} {st : List Value} {M : am_M} {l1 l2 l3 l4 l5 l6 : Option Value} {v : Value} (hv : am_isr v = true) : am_run G d K_Ni_init (4, [some v, l1, l2, l3, l4, l5, l6], st, M) = am_run G d K_Ni_init (5, [some v, l1, l2, l3, l4, l5, l6], v :: st, M) := by
  rcases am_isr_cases hv with ⟨q, rfl⟩ | rfl
  · exact am_run_next (x := (.aload_n 0, 1, 0, 0, 0, 0)) (by decide +kernel) rfl
  · exact am_run_next (x := (.aload_n 0, 1, 0, 0, 0, 0)) (by decide +kernel) rfl
theorem r_Ni_init_5 {G : Nat → Value} {d : Nat} {st : List Value} {M : am_M} {l0 l2 l3 l4 l5 l6 : Option Value} {v : Int32} : am_run G d K_Ni_init (5, [l0, some (.int v), l2, l3, l4, l5, l6], st, M) = am_run G d K_Ni_init (6, [l0, some (.int v), l2, l3, l4, l5, l6], .int v :: st, M) := am_run_next (x := (.iload_n 1, 1, 0, 0, 0, 0)) (by decide +kernel) rfl
theorem r_Ni_init_6 {G : Nat → Value} {d : Nat} {st : List Value} {M : am_M} {l0 l1 l2 l3 l4 l5 l6 : Option Value} {a : Nat} {v : Value} : am_run G d K_Ni_init (6, [l0, l1, l2, l3, l4, l5, l6], v :: .ref a :: st, M) = am_km G d K_Ni_init 9 [l0, l1, l2, l3, l4, l5, l6] st (am_pf M a 3 0 .int v) := am_run_km (x := (.putfield 7, 3, 3, 0, 3071, 0)) (by decide +kernel) rfl
theorem r_Ni_init_9 {G : Nat → Value} {d : Nat} {st : List Value} {M : am_M} {l1 l2 l3 l4 l5 l6 : Option Value} {v : Value} (hv : am_isr v = true) : am_run G d K_Ni_init (9, [some v, l1, l2, l3, l4, l5, l6], st, M) = am_run G d K_Ni_init (10, [some v, l1, l2, l3, l4, l5, l6], v :: st, M) := by
  rcases am_isr_cases hv with ⟨q, rfl⟩ | rfl
  · exact am_run_next (x := (.aload_n 0, 1, 0, 0, 0, 0)) (by decide +kernel) rfl
  · exact am_run_next (x := (.aload_n 0, 1, 0, 0, 0, 0)) (by decide +kernel) rfl
theorem r_Ni_init_10 {G : Nat → Value} {d : Nat} {st : List Value} {M : am_M} {l0 l1 l3 l4 l5 l6 : Option Value} {v : Value} (hv : am_isr v = true) : am_run G d K_Ni_init (10, [l0, l1, some v, l3, l4, l5, l6], st, M) = am_run G d K_Ni_init (11, [l0, l1, some v, l3, l4, l5, l6], v :: st, M) := by
  rcases am_isr_cases hv with ⟨q, rfl⟩ | rfl
  · exact am_run_next (x := (.aload_n 2, 1, 0, 0, 0, 0)) (by decide +kernel) rfl
  · exact am_run_next (x := (.aload_n 2, 1, 0, 0, 0, 0)) (by decide +kernel) rfl
theorem r_Ni_init_11 {G : Nat → Value} {d : Nat} {st : List Value} {M : am_M} {l0 l1 l2 l3 l4 l5 l6 : Option Value} {a : Nat} {v : Value} : am_run G d K_Ni_init (11, [l0, l1, l2, l3, l4, l5, l6], v :: .ref a :: st, M) = am_km G d K_Ni_init 14 [l0, l1, l2, l3, l4, l5, l6] st (am_pf M a 3 1 (am_fty 3 1) v) := am_run_km (x := (.putfield 13, 3, 3, 1, 3073, 0)) (by decide +kernel) rfl
theorem r_Ni_init_14 {G : Nat → Value} {d : Nat} {st : List Value} {M : am_M} {l1 l2 l3 l4 l5 l6 : Option Value} {v : Value} (hv : am_isr v = true) : am_run G d K_Ni_init (14, [some v, l1, l2, l3, l4, l5, l6], st, M) = am_run G d K_Ni_init (15, [some v, l1, l2, l3, l4, l5, l6], v :: st, M) := by
  rcases am_isr_cases hv with ⟨q, rfl⟩ | rfl
  · exact am_run_next (x := (.aload_n 0, 1, 0, 0, 0, 0)) (by decide +kernel) rfl
  · exact am_run_next (x := (.aload_n 0, 1, 0, 0, 0, 0)) (by decide +kernel) rfl
theorem r_Ni_init_15 {G : Nat → Value} {d : Nat} {st : List Value} {M : am_M} {l0 l1 l2 l4 l5 l6 : Option Value} {v : Int32} : am_run G d K_Ni_init (15, [l0, l1, l2, some (.int v), l4, l5, l6], st, M) = am_run G d K_Ni_init (16, [l0, l1, l2, some (.int v), l4, l5, l6], .int v :: st, M) := am_run_next (x := (.iload_n 3, 1, 0, 0, 0, 0)) (by decide +kernel) rfl
theorem r_Ni_init_16 {G : Nat → Value} {d : Nat} {st : List Value} {M : am_M} {l0 l1 l2 l3 l4 l5 l6 : Option Value} : am_run G d K_Ni_init (16, [l0, l1, l2, l3, l4, l5, l6], st, M) = am_run G d K_Ni_init (18, [l0, l1, l2, l3, l4, l5, l6], .int 10 :: st, M) := am_run_next (x := (.bipush 10, 2, 0, 0, 0, 0)) (by decide +kernel) rfl
theorem r_Ni_init_18 {G : Nat → Value} {d : Nat} {st : List Value} {M : am_M} {l0 l1 l2 l3 l4 l5 l6 : Option Value} {a b : Int32} : am_run G d K_Ni_init (18, [l0, l1, l2, l3, l4, l5, l6], .int b :: .int a :: st, M) = if b = 0 then none else am_run G d K_Ni_init (19, [l0, l1, l2, l3, l4, l5, l6], .int (a / b) :: st, M) := by
  split
  · next h => exact am_run_stuck (x := (.idiv, 1, 0, 0, 0, 0)) (by decide +kernel) (if_pos h)
  · next h => exact am_run_next (x := (.idiv, 1, 0, 0, 0, 0)) (by decide +kernel) (if_neg h)
theorem r_Ni_init_19 {G : Nat → Value} {d : Nat} {st : List Value} {M : am_M} {l0 l1 l2 l3 l4 l5 l6 : Option Value} {a : Nat} {v : Value} : am_run G d K_Ni_init (19, [l0, l1, l2, l3, l4, l5, l6], v :: .ref a :: st, M) = am_km G d K_Ni_init 22 [l0, l1, l2, l3, l4, l5, l6] st (am_pf M a 3 2 .int v) := am_run_km (x := (.putfield 17, 3, 3, 2, 3076, 0)) (by decide +kernel) rfl
theorem r_Ni_init_22 {G : Nat → Value} {d : Nat} {st : List Value} {M : am_M} {l1 l2 l3 l4 l5 l6 : Option Value} {v : Value} (hv : am_isr v = true) : am_run G d K_Ni_init (22, [some v, l1, l2, l3, l4, l5, l6], st, M) = am_run G d K_Ni_init (23, [some v, l1, l2, l3, l4, l5, l6], v :: st, M) := by
  rcases am_isr_cases hv with ⟨q, rfl⟩ | rfl
  · exact am_run_next (x := (.aload_n 0, 1, 0, 0, 0, 0)) (by decide +kernel) rfl
  · exact am_run_next (x := (.aload_n 0, 1, 0, 0, 0, 0)) (by decide +kernel) rfl
theorem r_Ni_init_23 {G : Nat → Value} {d : Nat} {st : List Value} {M : am_M} {l0 l1 l2 l4 l5 l6 : Option Value} {v : Int32} : am_run G d K_Ni_init (23, [l0, l1, l2, some (.int v), l4, l5, l6], st, M) = am_run G d K_Ni_init (24, [l0, l1, l2, some (.int v), l4, l5, l6], .int v :: st, M) := am_run_next (x := (.iload_n 3, 1, 0, 0, 0, 0)) (by decide +kernel) rfl
theorem r_Ni_init_24 {G : Nat → Value} {d : Nat} {st : List Value} {M : am_M} {l0 l1 l2 l3 l4 l5 l6 : Option Value} : am_run G d K_Ni_init (24, [l0, l1, l2, l3, l4, l5, l6], st, M) = am_run G d K_Ni_init (26, [l0, l1, l2, l3, l4, l5, l6], .int 10 :: st, M) := am_run_next (x := (.bipush 10, 2, 0, 0, 0, 0)) (by decide +kernel) rfl
theorem r_Ni_init_26 {G : Nat → Value} {d : Nat} {st : List Value} {M : am_M} {l0 l1 l2 l3 l4 l5 l6 : Option Value} {a b : Int32} : am_run G d K_Ni_init (26, [l0, l1, l2, l3, l4, l5, l6], .int b :: .int a :: st, M) = if b = 0 then none else am_run G d K_Ni_init (27, [l0, l1, l2, l3, l4, l5, l6], .int (a - a / b * b) :: st, M) := by
  split
  · next h => exact am_run_stuck (x := (.irem, 1, 0, 0, 0, 0)) (by decide +kernel) (if_pos h)
  · next h => exact am_run_next (x := (.irem, 1, 0, 0, 0, 0)) (by decide +kernel) (if_neg h)
theorem r_Ni_init_27 {G : Nat → Value} {d : Nat} {st : List Value} {M : am_M} {l0 l1 l2 l3 l4 l5 l6 : Option Value} {a : Nat} {v : Value} : am_run G d K_Ni_init (27, [l0, l1, l2, l3, l4, l5, l6], v :: .ref a :: st, M) = am_km G d K_Ni_init 30 [l0, l1, l2, l3, l4, l5, l6] st (am_pf M a 3 3 .int v) := am_run_km (x := (.putfield 20, 3, 3, 3, 3078, 0)) (by decide +kernel) rfl
theorem r_Ni_init_30 {G : Nat → Value} {d : Nat} {st : List Value} {M : am_M} {l1 l2 l3 l4 l5 l6 : Option Value} {v : Value} (hv : am_isr v = true) : am_run G d K_Ni_init (30, [some v, l1, l2, l3, l4, l5, l6], st, M) = am_run G d K_Ni_init (31, [some v, l1, l2, l3, l4, l5, l6], v :: st, M) := by
  rcases am_isr_cases hv with ⟨q, rfl⟩ | rfl
  · exact am_run_next (x := (.aload_n 0, 1, 0, 0, 0, 0)) (by decide +kernel) rfl
  · exact am_run_next (x := (.aload_n 0, 1, 0, 0, 0, 0)) (by decide +kernel) rfl
theorem r_Ni_init_31 {G : Nat → Value} {d : Nat} {st : List Value} {M : am_M} {l0 l1 l2 l3 l5 l6 : Option Value} {v : Int32} : am_run G d K_Ni_init (31, [l0, l1, l2, l3, some (.int v), l5, l6], st, M) = am_run G d K_Ni_init (33, [l0, l1, l2, l3, some (.int v), l5, l6], .int v :: st, M) := am_run_next (x := (.iload 4, 2, 0, 0, 0, 0)) (by decide +kernel) rfl
theorem r_Ni_init_33 {G : Nat → Value} {d : Nat} {st : List Value} {M : am_M} {l0 l1 l2 l3 l4 l5 l6 : Option Value} {a : Nat} {v : Value} : am_run G d K_Ni_init (33, [l0, l1, l2, l3, l4, l5, l6], v :: .ref a :: st, M) = am_km G d K_Ni_init 36 [l0, l1, l2, l3, l4, l5, l6] st (am_pf M a 3 4 .int v) := am_run_km (x := (.putfield 23, 3, 3, 4, 3080, 0)) (by decide +kernel) rfl
theorem r_Ni_init_36 {G : Nat → Value} {d : Nat} {st : List Value} {M : am_M} {l1 l2 l3 l4 l5 l6 : Option Value} {v : Value} (hv : am_isr v = true) : am_run G d K_Ni_init (36, [some v, l1, l2, l3, l4, l5, l6], st, M) = am_run G d K_Ni_init (37, [some v, l1, l2, l3, l4, l5, l6], v :: st, M) := by
  rcases am_isr_cases hv with ⟨q, rfl⟩ | rfl
  · exact am_run_next (x := (.aload_n 0, 1, 0, 0, 0, 0)) (by decide +kernel) rfl
  · exact am_run_next (x := (.aload_n 0, 1, 0, 0, 0, 0)) (by decide +kernel) rfl
theorem r_Ni_init_37 {G : Nat → Value} {d : Nat} {st : List Value} {M : am_M} {l0 l1 l2 l3 l4 l6 : Option Value} {v : Int32} : am_run G d K_Ni_init (37, [l0, l1, l2, l3, l4, some (.int v), l6], st, M) = am_run G d K_Ni_init (39, [l0, l1, l2, l3, l4, some (.int v), l6], .int v :: st, M) := am_run_next (x := (.iload 5, 2, 0, 0, 0, 0)) (by decide +kernel) rfl
theorem r_Ni_init_39 {G : Nat → Value} {d : Nat} {st : List Value} {M : am_M} {l0 l1 l2 l3 l4 l5 l6 : Option Value} {a : Nat} {v : Value} : am_run G d K_Ni_init (39, [l0, l1, l2, l3, l4, l5, l6], v :: .ref a :: st, M) = am_km G d K_Ni_init 42 [l0, l1, l2, l3, l4, l5, l6] st (am_pf M a 3 5 .int v) := am_run_km (x := (.putfield 26, 3, 3, 5, 3083, 0)) (by decide +kernel) rfl
theorem r_Ni_init_42 {G : Nat → Value} {d : Nat} {st : List Value} {M : am_M} {l1 l2 l3 l4 l5 l6 : Option Value} {v : Value} (hv : am_isr v = true) : am_run G d K_Ni_init (42, [some v, l1, l2, l3, l4, l5, l6], st, M) = am_run G d K_Ni_init (43, [some v, l1, l2, l3, l4, l5, l6], v :: st, M) := by
  rcases am_isr_cases hv with ⟨q, rfl⟩ | rfl
  · exact am_run_next (x := (.aload_n 0, 1, 0, 0, 0, 0)) (by decide +kernel) rfl
  · exact am_run_next (x := (.aload_n 0, 1, 0, 0, 0, 0)) (by decide +kernel) rfl
theorem r_Ni_init_43 {G : Nat → Value} {d : Nat} {st : List Value} {M : am_M} {l0 l1 l2 l3 l4 l5 : Option Value} {v : Int32} : am_run G d K_Ni_init (43, [l0, l1, l2, l3, l4, l5, some (.int v)], st, M) = am_run G d K_Ni_init (45, [l0, l1, l2, l3, l4, l5, some (.int v)], .int v :: st, M) := am_run_next (x := (.iload 6, 2, 0, 0, 0, 0)) (by decide +kernel) rfl
theorem r_Ni_init_45 {G : Nat → Value} {d : Nat} {st : List Value} {M : am_M} {l0 l1 l2 l3 l4 l5 l6 : Option Value} {a : Nat} {v : Value} : am_run G d K_Ni_init (45, [l0, l1, l2, l3, l4, l5, l6], v :: .ref a :: st, M) = am_km G d K_Ni_init 48 [l0, l1, l2, l3, l4, l5, l6] st (am_pf M a 3 6 .int v) := am_run_km (x := (.putfield 29, 3, 3, 6, 3086, 0)) (by decide +kernel) rfl
theorem r_Ni_init_48 {G : Nat → Value} {d : Nat} {M : am_M} {l0 l1 l2 l3 l4 l5 l6 : Option Value} : am_run G d K_Ni_init (48, [l0, l1, l2, l3, l4, l5, l6], [], M) = some (none, M) := am_run_ret (x := (.return_, 1, 0, 0, 0, 0)) (by decide +kernel) rfl
theorem r_H_told_0 {G : Nat → Value} {d : Nat} {st : List Value} {M : am_M} {l1 l2 l3 : Option Value} {v : Value} (hv : am_isr v = true) : am_run G d K_H_told (0, [some v, l1, l2, l3], st, M) = am_run G d K_H_told (1, [some v, l1, l2, l3], v :: st, M) := by
  rcases am_isr_cases hv with ⟨q, rfl⟩ | rfl
  · exact am_run_next (x := (.aload_n 0, 1, 0, 0, 0, 0)) (by decide +kernel) rfl
  · exact am_run_next (x := (.aload_n 0, 1, 0, 0, 0, 0)) (by decide +kernel) rfl
theorem r_H_told_1 {G : Nat → Value} {d : Nat} {st : List Value} {M : am_M} {l0 l2 l3 : Option Value} {v : Int32} : am_run G d K_H_told (1, [l0, some (.int v), l2, l3], st, M) = am_run G d K_H_told (2, [l0, some (.int v), l2, l3], .int v :: st, M) := am_run_next (x := (.iload_n 1, 1, 0, 0, 0, 0)) (by decide +kernel) rfl
theorem r_H_told_2 {G : Nat → Value} {d : Nat} {st : List Value} {M : am_M} {l0 l1 l2 l3 : Option Value} {q : Nat} {a0 : Int32} (hq : am_cls M q = some 9) (h8 : am_sw st ≤ 8) : am_run G d K_H_told (2, [l0, l1, l2, l3], .int a0 :: .ref q :: st, M) = am_k G d K_H_told 5 [l0, l1, l2, l3] st (am_ex G d K_H_nightAt [.ref q, .int a0] M) := am_run_iv (i := 147) (n := 1) (pl := 3106) (Bs := [.int a0]) (z := K_H_nightAt) (by decide +kernel) hq h8 rfl (Nat.le_of_ble_eq_true rfl) rfl
theorem r_H_told_5 {G : Nat → Value} {d : Nat} {st : List Value} {M : am_M} {l0 l1 l2 l3 : Option Value} {v : Value} (hv : am_isr v = true) (hc : am_c1 l2 = true) : am_run G d K_H_told (5, [l0, l1, l2, l3], v :: st, M) = am_run G d K_H_told (6, [l0, l1, l2, some v], st, M) := by
  rcases am_isr_cases hv with ⟨q1, rfl⟩ | rfl
  · rcases am_c1_cases hc with rfl | ⟨q, rfl⟩ | ⟨q, rfl⟩ | rfl
    · exact am_run_next (x := (.astore_n 3, 1, 0, 0, 0, 0)) (by decide +kernel) rfl
    · exact am_run_next (x := (.astore_n 3, 1, 0, 0, 0, 0)) (by decide +kernel) rfl
    · exact am_run_next (x := (.astore_n 3, 1, 0, 0, 0, 0)) (by decide +kernel) rfl
    · exact am_run_next (x := (.astore_n 3, 1, 0, 0, 0, 0)) (by decide +kernel) rfl
  · rcases am_c1_cases hc with rfl | ⟨q, rfl⟩ | ⟨q, rfl⟩ | rfl
    · exact am_run_next (x := (.astore_n 3, 1, 0, 0, 0, 0)) (by decide +kernel) rfl
    · exact am_run_next (x := (.astore_n 3, 1, 0, 0, 0, 0)) (by decide +kernel) rfl
    · exact am_run_next (x := (.astore_n 3, 1, 0, 0, 0, 0)) (by decide +kernel) rfl
    · exact am_run_next (x := (.astore_n 3, 1, 0, 0, 0, 0)) (by decide +kernel) rfl
theorem r_H_told_5_k {G : Nat → Value} {d : Nat} {st : List Value} {M : am_M} {l0 l1 l3 : Option Value} {v : Value} {z : Int64} (hv : am_isr v = true) : am_run G d K_H_told (5, [l0, l1, some (.long z), l3], v :: st, M) = am_run G d K_H_told (6, [l0, l1, none, some v], st, M) := by
  rcases am_isr_cases hv with ⟨q, rfl⟩ | rfl
  · exact am_run_next (x := (.astore_n 3, 1, 0, 0, 0, 0)) (by decide +kernel) rfl
  · exact am_run_next (x := (.astore_n 3, 1, 0, 0, 0, 0)) (by decide +kernel) rfl
theorem r_H_told_6 {G : Nat → Value} {d : Nat} {st : List Value} {M : am_M} {l0 l1 l2 : Option Value} {v : Value} (hv : am_isr v = true) : am_run G d K_H_told (6, [l0, l1, l2, some v], st, M) = am_run G d K_H_told (7, [l0, l1, l2, some v], v :: st, M) := by
  rcases am_isr_cases hv with ⟨q, rfl⟩ | rfl
  · exact am_run_next (x := (.aload_n 3, 1, 0, 0, 0, 0)) (by decide +kernel) rfl
  · exact am_run_next (x := (.aload_n 3, 1, 0, 0, 0, 0)) (by decide +kernel) rfl
theorem r_H_told_7 {G : Nat → Value} {d : Nat} {st : List Value} {M : am_M} {l0 l1 l2 l3 : Option Value} {v : Value} (hv : am_isr v = true) : am_run G d K_H_told (7, [l0, l1, l2, l3], v :: st, M) = if v = .null then am_run G d K_H_told (20, [l0, l1, l2, l3], st, M) else am_run G d K_H_told (10, [l0, l1, l2, l3], st, M) := by
  split
  · next h => exact am_run_next (x := (.ifnull 13, 3, 0, 0, 0, 0)) (by decide +kernel) ((if_pos hv).trans (am_br_t (decide_eq_true h) (by decide)))
  · next h => exact am_run_next (x := (.ifnull 13, 3, 0, 0, 0, 0)) (by decide +kernel) ((if_pos hv).trans (am_br_f (decide_eq_false h) (by decide)))
theorem r_H_told_10 {G : Nat → Value} {d : Nat} {st : List Value} {M : am_M} {l0 l1 l3 : Option Value} {v : Int32} : am_run G d K_H_told (10, [l0, l1, some (.int v), l3], st, M) = am_run G d K_H_told (11, [l0, l1, some (.int v), l3], .int v :: st, M) := am_run_next (x := (.iload_n 2, 1, 0, 0, 0, 0)) (by decide +kernel) rfl
theorem r_H_told_11 {G : Nat → Value} {d : Nat} {st : List Value} {M : am_M} {l0 l1 l2 l3 : Option Value} : am_run G d K_H_told (11, [l0, l1, l2, l3], st, M) = am_run G d K_H_told (12, [l0, l1, l2, l3], .int 0 :: st, M) := am_run_next (x := (.iconst 0, 1, 0, 0, 0, 0)) (by decide +kernel) rfl
theorem r_H_told_12 {G : Nat → Value} {d : Nat} {st : List Value} {M : am_M} {l0 l1 l2 l3 : Option Value} : am_run G d K_H_told (12, [l0, l1, l2, l3], st, M) = am_run G d K_H_told (14, [l0, l1, l2, l3], .int 10 :: st, M) := am_run_next (x := (.bipush 10, 2, 0, 0, 0, 0)) (by decide +kernel) rfl
theorem r_H_told_14 {G : Nat → Value} {d : Nat} {st : List Value} {M : am_M} {l0 l1 l2 l3 : Option Value} {a0 : Int32} {a1 : Int32} {a2 : Int32} (h8 : am_sw st ≤ 8) : am_run G d K_H_told (14, [l0, l1, l2, l3], .int a2 :: .int a1 :: .int a0 :: st, M) = am_k G d K_H_told 17 [l0, l1, l2, l3] st (am_ex G d K_H_within [.int a0, .int a1, .int a2] M) := am_run_is (i := 92) (n := 3) (pl := 2184) (Bs := [.int a0, .int a1, .int a2]) (z := K_H_within) (v := 1) (by decide) (by decide) (by decide +kernel) h8 rfl (Nat.le_of_ble_eq_true rfl) rfl
theorem r_H_told_17 {G : Nat → Value} {d : Nat} {st : List Value} {M : am_M} {l0 l1 l2 l3 : Option Value} {a : Int32} : am_run G d K_H_told (17, [l0, l1, l2, l3], .int a :: st, M) = if ¬ a = 0 then am_run G d K_H_told (24, [l0, l1, l2, l3], st, M) else am_run G d K_H_told (20, [l0, l1, l2, l3], st, M) := by
  split
  · next h => exact am_run_next (x := (.ifCond .ne 7, 3, 0, 0, 0, 0)) (by decide +kernel) (am_br_t (decide_eq_true h) (by decide))
  · next h => exact am_run_next (x := (.ifCond .ne 7, 3, 0, 0, 0, 0)) (by decide +kernel) (am_br_f (decide_eq_false h) (by decide))
theorem r_H_told_20 {G : Nat → Value} {d : Nat} {st : List Value} {M : am_M} {l0 l1 l2 l3 : Option Value} : am_run G d K_H_told (20, [l0, l1, l2, l3], st, M) = am_run G d K_H_told (23, [l0, l1, l2, l3], .long (-4611686018427387904) :: st, M) := am_run_next (x := (.ldc2_w 128, 3, 0, 0, 3037, (-4611686018427387904))) (by decide +kernel) rfl
theorem r_H_told_23 {G : Nat → Value} {d : Nat} {M : am_M} {l0 l1 l2 l3 : Option Value} {a : Int64} : am_run G d K_H_told (23, [l0, l1, l2, l3], [.long a], M) = some (some (.long a), M) := am_run_ret (x := (.lreturn, 1, 0, 0, 0, 0)) (by decide +kernel) rfl
theorem r_H_told_24 {G : Nat → Value} {d : Nat} {st : List Value} {M : am_M} {l0 l1 l3 : Option Value} {v : Int32} : am_run G d K_H_told (24, [l0, l1, some (.int v), l3], st, M) = am_run G d K_H_told (25, [l0, l1, some (.int v), l3], .int v :: st, M) := am_run_next (x := (.iload_n 2, 1, 0, 0, 0, 0)) (by decide +kernel) rfl
theorem r_H_told_25 {G : Nat → Value} {d : Nat} {st : List Value} {M : am_M} {l0 l1 l2 l3 : Option Value} {a : Int32} : am_run G d K_H_told (25, [l0, l1, l2, l3], .int a :: st, M) = if a = 6 then am_run G d K_H_told (60, [l0, l1, l2, l3], st, M) else if a = 7 then am_run G d K_H_told (72, [l0, l1, l2, l3], st, M) else if a = 8 then am_run G d K_H_told (79, [l0, l1, l2, l3], st, M) else if a = 9 then am_run G d K_H_told (85, [l0, l1, l2, l3], st, M) else if a = 10 then am_run G d K_H_told (97, [l0, l1, l2, l3], st, M) else am_run G d K_H_told (111, [l0, l1, l2, l3], st, M) := by
  by_cases h0 : a = 6
  · rw [if_pos h0]
    subst h0
    exact am_run_next (x := (.tableswitch 86 6 10 #[35, 47, 54, 60, 72], 35, 0, 0, 0, 0)) (by decide +kernel) rfl
  rw [if_neg h0]
  by_cases h1 : a = 7
  · rw [if_pos h1]
    subst h1
    exact am_run_next (x := (.tableswitch 86 6 10 #[35, 47, 54, 60, 72], 35, 0, 0, 0, 0)) (by decide +kernel) rfl
  rw [if_neg h1]
  by_cases h2 : a = 8
  · rw [if_pos h2]
    subst h2
    exact am_run_next (x := (.tableswitch 86 6 10 #[35, 47, 54, 60, 72], 35, 0, 0, 0, 0)) (by decide +kernel) rfl
  rw [if_neg h2]
  by_cases h3 : a = 9
  · rw [if_pos h3]
    subst h3
    exact am_run_next (x := (.tableswitch 86 6 10 #[35, 47, 54, 60, 72], 35, 0, 0, 0, 0)) (by decide +kernel) rfl
  rw [if_neg h3]
  by_cases h4 : a = 10
  · rw [if_pos h4]
    subst h4
    exact am_run_next (x := (.tableswitch 86 6 10 #[35, 47, 54, 60, 72], 35, 0, 0, 0, 0)) (by decide +kernel) rfl
  rw [if_neg h4]
  have g0 := am_ne_i h0 (n := 6) (by decide)
  have g1 := am_ne_i h1 (n := 7) (by decide)
  have g2 := am_ne_i h2 (n := 8) (by decide)
  have g3 := am_ne_i h3 (n := 9) (by decide)
  have g4 := am_ne_i h4 (n := 10) (by decide)
  exact am_run_next (x := (.tableswitch 86 6 10 #[35, 47, 54, 60, 72], 35, 0, 0, 0, 0)) (by decide +kernel) (if_pos (by omega))
theorem r_H_told_60 {G : Nat → Value} {d : Nat} {st : List Value} {M : am_M} {l1 l2 l3 : Option Value} {v : Value} (hv : am_isr v = true) : am_run G d K_H_told (60, [some v, l1, l2, l3], st, M) = am_run G d K_H_told (61, [some v, l1, l2, l3], v :: st, M) := by
  rcases am_isr_cases hv with ⟨q, rfl⟩ | rfl
  · exact am_run_next (x := (.aload_n 0, 1, 0, 0, 0, 0)) (by decide +kernel) rfl
  · exact am_run_next (x := (.aload_n 0, 1, 0, 0, 0, 0)) (by decide +kernel) rfl
theorem r_H_told_61 {G : Nat → Value} {d : Nat} {st : List Value} {M : am_M} {l0 l1 l2 : Option Value} {v : Value} (hv : am_isr v = true) : am_run G d K_H_told (61, [l0, l1, l2, some v], st, M) = am_run G d K_H_told (62, [l0, l1, l2, some v], v :: st, M) := by
  rcases am_isr_cases hv with ⟨q, rfl⟩ | rfl
  · exact am_run_next (x := (.aload_n 3, 1, 0, 0, 0, 0)) (by decide +kernel) rfl
  · exact am_run_next (x := (.aload_n 3, 1, 0, 0, 0, 0)) (by decide +kernel) rfl
theorem r_H_told_62 {G : Nat → Value} {d : Nat} {st : List Value} {M : am_M} {l1 l2 l3 : Option Value} {v : Value} (hv : am_isr v = true) : am_run G d K_H_told (62, [some v, l1, l2, l3], st, M) = am_run G d K_H_told (63, [some v, l1, l2, l3], v :: st, M) := by
  rcases am_isr_cases hv with ⟨q, rfl⟩ | rfl
  · exact am_run_next (x := (.aload_n 0, 1, 0, 0, 0, 0)) (by decide +kernel) rfl
  · exact am_run_next (x := (.aload_n 0, 1, 0, 0, 0, 0)) (by decide +kernel) rfl
theorem r_H_told_63 {G : Nat → Value} {d : Nat} {st : List Value} {M : am_M} {l0 l1 l2 l3 : Option Value} {a : Nat} : am_run G d K_H_told (63, [l0, l1, l2, l3], .ref a :: st, M) = am_kf G d K_H_told 66 [l0, l1, l2, l3] st M (am_fld M a 9 9) := am_run_kf (x := (.getfield 39, 3, 9, 9, 2133, 0)) (by decide +kernel) rfl
theorem r_H_told_66 {G : Nat → Value} {d : Nat} {st : List Value} {M : am_M} {l0 l1 l2 l3 : Option Value} : am_run G d K_H_told (66, [l0, l1, l2, l3], st, M) = am_run G d K_H_told (67, [l0, l1, l2, l3], .int 1 :: st, M) := am_run_next (x := (.iconst 1, 1, 0, 0, 0, 0)) (by decide +kernel) rfl
theorem r_H_told_67 {G : Nat → Value} {d : Nat} {st : List Value} {M : am_M} {l0 l1 l2 l3 : Option Value} {a : Nat} {i : Int32} : am_run G d K_H_told (67, [l0, l1, l2, l3], .int i :: .ref a :: st, M) = am_kf G d K_H_told 68 [l0, l1, l2, l3] st M (am_ag 0 M a i) := am_run_kf (x := (.iaload, 1, 0, 0, 0, 0)) (by decide +kernel) rfl
theorem r_H_told_68 {G : Nat → Value} {d : Nat} {st : List Value} {M : am_M} {l0 l1 l2 l3 : Option Value} {q : Nat} {a0 : Value} {a1 : Int32} (h0 : am_isr a0 = true) (hq : am_cls M q = some 9) (h8 : am_sw st ≤ 8) : am_run G d K_H_told (68, [l0, l1, l2, l3], .int a1 :: a0 :: .ref q :: st, M) = am_k G d K_H_told 71 [l0, l1, l2, l3] st (am_ex G d K_H_moreOf [.ref q, a0, .int a1] M) := by
  have he : (am_exp [.ref q, a0, .int a1]).length ≤ am_mL K_H_moreOf := by
    rcases am_isr_cases h0 with ⟨z0, rfl⟩ | rfl <;> exact Nat.le_of_ble_eq_true rfl
  exact am_run_iv (i := 151) (n := 2) (pl := 3110) (Bs := [a0, .int a1]) (z := K_H_moreOf) (by decide +kernel) hq h8 rfl he rfl
theorem r_H_told_71 {G : Nat → Value} {d : Nat} {M : am_M} {l0 l1 l2 l3 : Option Value} {a : Int64} : am_run G d K_H_told (71, [l0, l1, l2, l3], [.long a], M) = some (some (.long a), M) := am_run_ret (x := (.lreturn, 1, 0, 0, 0, 0)) (by decide +kernel) rfl
theorem r_H_told_72 {G : Nat → Value} {d : Nat} {st : List Value} {M : am_M} {l1 l2 l3 : Option Value} {v : Value} (hv : am_isr v = true) : am_run G d K_H_told (72, [some v, l1, l2, l3], st, M) = am_run G d K_H_told (73, [some v, l1, l2, l3], v :: st, M) := by
  rcases am_isr_cases hv with ⟨q, rfl⟩ | rfl
  · exact am_run_next (x := (.aload_n 0, 1, 0, 0, 0, 0)) (by decide +kernel) rfl
  · exact am_run_next (x := (.aload_n 0, 1, 0, 0, 0, 0)) (by decide +kernel) rfl
theorem r_H_told_73 {G : Nat → Value} {d : Nat} {st : List Value} {M : am_M} {l0 l1 l2 : Option Value} {v : Value} (hv : am_isr v = true) : am_run G d K_H_told (73, [l0, l1, l2, some v], st, M) = am_run G d K_H_told (74, [l0, l1, l2, some v], v :: st, M) := by
  rcases am_isr_cases hv with ⟨q, rfl⟩ | rfl
  · exact am_run_next (x := (.aload_n 3, 1, 0, 0, 0, 0)) (by decide +kernel) rfl
  · exact am_run_next (x := (.aload_n 3, 1, 0, 0, 0, 0)) (by decide +kernel) rfl
theorem r_H_told_74 {G : Nat → Value} {d : Nat} {st : List Value} {M : am_M} {l0 l1 l2 l3 : Option Value} {q : Nat} {a0 : Value} (h0 : am_isr a0 = true) (hq : am_cls M q = some 9) (h8 : am_sw st ≤ 8) : am_run G d K_H_told (74, [l0, l1, l2, l3], a0 :: .ref q :: st, M) = am_k G d K_H_told 77 [l0, l1, l2, l3] st (am_ex G d K_H_lateOf [.ref q, a0] M) := by
  have he : (am_exp [.ref q, a0]).length ≤ am_mL K_H_lateOf := by
    rcases am_isr_cases h0 with ⟨z0, rfl⟩ | rfl <;> exact Nat.le_of_ble_eq_true rfl
  exact am_run_iv (i := 155) (n := 1) (pl := 3116) (Bs := [a0]) (z := K_H_lateOf) (by decide +kernel) hq h8 rfl he rfl
theorem r_H_told_77 {G : Nat → Value} {d : Nat} {st : List Value} {M : am_M} {l0 l1 l2 l3 : Option Value} {a : Int32} : am_run G d K_H_told (77, [l0, l1, l2, l3], .int a :: st, M) = am_run G d K_H_told (78, [l0, l1, l2, l3], .long a.toInt64 :: st, M) := am_run_next (x := (.i2l, 1, 0, 0, 0, 0)) (by decide +kernel) rfl
theorem r_H_told_78 {G : Nat → Value} {d : Nat} {M : am_M} {l0 l1 l2 l3 : Option Value} {a : Int64} : am_run G d K_H_told (78, [l0, l1, l2, l3], [.long a], M) = some (some (.long a), M) := am_run_ret (x := (.lreturn, 1, 0, 0, 0, 0)) (by decide +kernel) rfl
theorem r_H_told_79 {G : Nat → Value} {d : Nat} {st : List Value} {M : am_M} {l1 l2 l3 : Option Value} {v : Value} (hv : am_isr v = true) : am_run G d K_H_told (79, [some v, l1, l2, l3], st, M) = am_run G d K_H_told (80, [some v, l1, l2, l3], v :: st, M) := by
  rcases am_isr_cases hv with ⟨q, rfl⟩ | rfl
  · exact am_run_next (x := (.aload_n 0, 1, 0, 0, 0, 0)) (by decide +kernel) rfl
  · exact am_run_next (x := (.aload_n 0, 1, 0, 0, 0, 0)) (by decide +kernel) rfl
theorem r_H_told_80 {G : Nat → Value} {d : Nat} {st : List Value} {M : am_M} {l0 l1 l2 : Option Value} {v : Value} (hv : am_isr v = true) : am_run G d K_H_told (80, [l0, l1, l2, some v], st, M) = am_run G d K_H_told (81, [l0, l1, l2, some v], v :: st, M) := by
  rcases am_isr_cases hv with ⟨q, rfl⟩ | rfl
  · exact am_run_next (x := (.aload_n 3, 1, 0, 0, 0, 0)) (by decide +kernel) rfl
  · exact am_run_next (x := (.aload_n 3, 1, 0, 0, 0, 0)) (by decide +kernel) rfl
theorem r_H_told_81 {G : Nat → Value} {d : Nat} {st : List Value} {M : am_M} {l0 l1 l2 l3 : Option Value} {q : Nat} {a0 : Value} (h0 : am_isr a0 = true) (hq : am_cls M q = some 9) (h8 : am_sw st ≤ 8) : am_run G d K_H_told (81, [l0, l1, l2, l3], a0 :: .ref q :: st, M) = am_k G d K_H_told 84 [l0, l1, l2, l3] st (am_ex G d K_H_dueOf [.ref q, a0] M) := by
  have he : (am_exp [.ref q, a0]).length ≤ am_mL K_H_dueOf := by
    rcases am_isr_cases h0 with ⟨z0, rfl⟩ | rfl <;> exact Nat.le_of_ble_eq_true rfl
  exact am_run_iv (i := 159) (n := 1) (pl := 3141) (Bs := [a0]) (z := K_H_dueOf) (by decide +kernel) hq h8 rfl he rfl
theorem r_H_told_84 {G : Nat → Value} {d : Nat} {M : am_M} {l0 l1 l2 l3 : Option Value} {a : Int64} : am_run G d K_H_told (84, [l0, l1, l2, l3], [.long a], M) = some (some (.long a), M) := am_run_ret (x := (.lreturn, 1, 0, 0, 0, 0)) (by decide +kernel) rfl
theorem r_H_told_85 {G : Nat → Value} {d : Nat} {st : List Value} {M : am_M} {l0 l1 l2 : Option Value} {v : Value} (hv : am_isr v = true) : am_run G d K_H_told (85, [l0, l1, l2, some v], st, M) = am_run G d K_H_told (86, [l0, l1, l2, some v], v :: st, M) := by
  rcases am_isr_cases hv with ⟨q, rfl⟩ | rfl
  · exact am_run_next (x := (.aload_n 3, 1, 0, 0, 0, 0)) (by decide +kernel) rfl
  · exact am_run_next (x := (.aload_n 3, 1, 0, 0, 0, 0)) (by decide +kernel) rfl
theorem r_H_told_86 {G : Nat → Value} {d : Nat} {st : List Value} {M : am_M} {l0 l1 l2 l3 : Option Value} {a : Nat} : am_run G d K_H_told (86, [l0, l1, l2, l3], .ref a :: st, M) = am_kf G d K_H_told 89 [l0, l1, l2, l3] st M (am_fld M a 3 5) := am_run_kf (x := (.getfield 163, 3, 3, 5, 3085, 1)) (by decide +kernel) rfl
theorem r_H_told_89 {G : Nat → Value} {d : Nat} {st : List Value} {M : am_M} {l0 l1 l2 l3 : Option Value} {a : Int32} : am_run G d K_H_told (89, [l0, l1, l2, l3], .int a :: st, M) = am_run G d K_H_told (90, [l0, l1, l2, l3], .long a.toInt64 :: st, M) := am_run_next (x := (.i2l, 1, 0, 0, 0, 0)) (by decide +kernel) rfl
theorem r_H_told_90 {G : Nat → Value} {d : Nat} {st : List Value} {M : am_M} {l1 l2 l3 : Option Value} {v : Value} (hv : am_isr v = true) : am_run G d K_H_told (90, [some v, l1, l2, l3], st, M) = am_run G d K_H_told (91, [some v, l1, l2, l3], v :: st, M) := by
  rcases am_isr_cases hv with ⟨q, rfl⟩ | rfl
  · exact am_run_next (x := (.aload_n 0, 1, 0, 0, 0, 0)) (by decide +kernel) rfl
  · exact am_run_next (x := (.aload_n 0, 1, 0, 0, 0, 0)) (by decide +kernel) rfl
theorem r_H_told_91 {G : Nat → Value} {d : Nat} {st : List Value} {M : am_M} {l0 l1 l2 : Option Value} {v : Value} (hv : am_isr v = true) : am_run G d K_H_told (91, [l0, l1, l2, some v], st, M) = am_run G d K_H_told (92, [l0, l1, l2, some v], v :: st, M) := by
  rcases am_isr_cases hv with ⟨q, rfl⟩ | rfl
  · exact am_run_next (x := (.aload_n 3, 1, 0, 0, 0, 0)) (by decide +kernel) rfl
  · exact am_run_next (x := (.aload_n 3, 1, 0, 0, 0, 0)) (by decide +kernel) rfl
theorem r_H_told_92 {G : Nat → Value} {d : Nat} {st : List Value} {M : am_M} {l0 l1 l2 l3 : Option Value} {q : Nat} {a0 : Value} (h0 : am_isr a0 = true) (hq : am_cls M q = some 9) (h8 : am_sw st ≤ 8) : am_run G d K_H_told (92, [l0, l1, l2, l3], a0 :: .ref q :: st, M) = am_k G d K_H_told 95 [l0, l1, l2, l3] st (am_ex G d K_H_dueOf [.ref q, a0] M) := by
  have he : (am_exp [.ref q, a0]).length ≤ am_mL K_H_dueOf := by
    rcases am_isr_cases h0 with ⟨z0, rfl⟩ | rfl <;> exact Nat.le_of_ble_eq_true rfl
  exact am_run_iv (i := 159) (n := 1) (pl := 3141) (Bs := [a0]) (z := K_H_dueOf) (by decide +kernel) hq h8 rfl he rfl
theorem r_H_told_95 {G : Nat → Value} {d : Nat} {st : List Value} {M : am_M} {l0 l1 l2 l3 : Option Value} {a b : Int64} : am_run G d K_H_told (95, [l0, l1, l2, l3], .long b :: .long a :: st, M) = am_run G d K_H_told (96, [l0, l1, l2, l3], .long (a - b) :: st, M) := am_run_next (x := (.lsub, 1, 0, 0, 0, 0)) (by decide +kernel) rfl
theorem r_H_told_96 {G : Nat → Value} {d : Nat} {M : am_M} {l0 l1 l2 l3 : Option Value} {a : Int64} : am_run G d K_H_told (96, [l0, l1, l2, l3], [.long a], M) = some (some (.long a), M) := am_run_ret (x := (.lreturn, 1, 0, 0, 0, 0)) (by decide +kernel) rfl
theorem r_H_told_97 {G : Nat → Value} {d : Nat} {st : List Value} {M : am_M} {l1 l2 l3 : Option Value} {v : Value} (hv : am_isr v = true) : am_run G d K_H_told (97, [some v, l1, l2, l3], st, M) = am_run G d K_H_told (98, [some v, l1, l2, l3], v :: st, M) := by
  rcases am_isr_cases hv with ⟨q, rfl⟩ | rfl
  · exact am_run_next (x := (.aload_n 0, 1, 0, 0, 0, 0)) (by decide +kernel) rfl
  · exact am_run_next (x := (.aload_n 0, 1, 0, 0, 0, 0)) (by decide +kernel) rfl
theorem r_H_told_98 {G : Nat → Value} {d : Nat} {st : List Value} {M : am_M} {l0 l1 l2 : Option Value} {v : Value} (hv : am_isr v = true) : am_run G d K_H_told (98, [l0, l1, l2, some v], st, M) = am_run G d K_H_told (99, [l0, l1, l2, some v], v :: st, M) := by
  rcases am_isr_cases hv with ⟨q, rfl⟩ | rfl
  · exact am_run_next (x := (.aload_n 3, 1, 0, 0, 0, 0)) (by decide +kernel) rfl
  · exact am_run_next (x := (.aload_n 3, 1, 0, 0, 0, 0)) (by decide +kernel) rfl
theorem r_H_told_99 {G : Nat → Value} {d : Nat} {st : List Value} {M : am_M} {l0 l1 l2 l3 : Option Value} {q : Nat} {a0 : Value} (h0 : am_isr a0 = true) (hq : am_cls M q = some 9) (h8 : am_sw st ≤ 8) : am_run G d K_H_told (99, [l0, l1, l2, l3], a0 :: .ref q :: st, M) = am_k G d K_H_told 102 [l0, l1, l2, l3] st (am_ex G d K_H_isLeftOut [.ref q, a0] M) := by
  have he : (am_exp [.ref q, a0]).length ≤ am_mL K_H_isLeftOut := by
    rcases am_isr_cases h0 with ⟨z0, rfl⟩ | rfl <;> exact Nat.le_of_ble_eq_true rfl
  exact am_run_iv (i := 166) (n := 1) (pl := 3145) (Bs := [a0]) (z := K_H_isLeftOut) (by decide +kernel) hq h8 rfl he rfl
theorem r_H_told_102 {G : Nat → Value} {d : Nat} {st : List Value} {M : am_M} {l0 l1 l2 l3 : Option Value} {a : Int32} : am_run G d K_H_told (102, [l0, l1, l2, l3], .int a :: st, M) = if a = 0 then am_run G d K_H_told (109, [l0, l1, l2, l3], st, M) else am_run G d K_H_told (105, [l0, l1, l2, l3], st, M) := by
  split
  · next h => exact am_run_next (x := (.ifCond .eq 7, 3, 0, 0, 0, 0)) (by decide +kernel) (am_br_t (decide_eq_true h) (by decide))
  · next h => exact am_run_next (x := (.ifCond .eq 7, 3, 0, 0, 0, 0)) (by decide +kernel) (am_br_f (decide_eq_false h) (by decide))
theorem r_H_told_105 {G : Nat → Value} {d : Nat} {st : List Value} {M : am_M} {l0 l1 l2 l3 : Option Value} : am_run G d K_H_told (105, [l0, l1, l2, l3], st, M) = am_run G d K_H_told (106, [l0, l1, l2, l3], .long 1 :: st, M) := am_run_next (x := (.lconst 1, 1, 0, 0, 0, 0)) (by decide +kernel) rfl
theorem r_H_told_106 {G : Nat → Value} {d : Nat} {st : List Value} {M : am_M} {l0 l1 l2 l3 : Option Value} : am_run G d K_H_told (106, [l0, l1, l2, l3], st, M) = am_run G d K_H_told (110, [l0, l1, l2, l3], st, M) := am_run_next (x := (.goto 4, 3, 0, 0, 0, 0)) (by decide +kernel) rfl
theorem r_H_told_109 {G : Nat → Value} {d : Nat} {st : List Value} {M : am_M} {l0 l1 l2 l3 : Option Value} : am_run G d K_H_told (109, [l0, l1, l2, l3], st, M) = am_run G d K_H_told (110, [l0, l1, l2, l3], .long 0 :: st, M) := am_run_next (x := (.lconst 0, 1, 0, 0, 0, 0)) (by decide +kernel) rfl
theorem r_H_told_110 {G : Nat → Value} {d : Nat} {M : am_M} {l0 l1 l2 l3 : Option Value} {a : Int64} : am_run G d K_H_told (110, [l0, l1, l2, l3], [.long a], M) = some (some (.long a), M) := am_run_ret (x := (.lreturn, 1, 0, 0, 0, 0)) (by decide +kernel) rfl
theorem r_H_told_111 {G : Nat → Value} {d : Nat} {st : List Value} {M : am_M} {l0 l1 l2 : Option Value} {v : Value} (hv : am_isr v = true) : am_run G d K_H_told (111, [l0, l1, l2, some v], st, M) = am_run G d K_H_told (112, [l0, l1, l2, some v], v :: st, M) := by
  rcases am_isr_cases hv with ⟨q, rfl⟩ | rfl
  · exact am_run_next (x := (.aload_n 3, 1, 0, 0, 0, 0)) (by decide +kernel) rfl
  · exact am_run_next (x := (.aload_n 3, 1, 0, 0, 0, 0)) (by decide +kernel) rfl
theorem r_H_told_112 {G : Nat → Value} {d : Nat} {st : List Value} {M : am_M} {l0 l1 l3 : Option Value} {v : Int32} : am_run G d K_H_told (112, [l0, l1, some (.int v), l3], st, M) = am_run G d K_H_told (113, [l0, l1, some (.int v), l3], .int v :: st, M) := am_run_next (x := (.iload_n 2, 1, 0, 0, 0, 0)) (by decide +kernel) rfl
theorem r_H_told_113 {G : Nat → Value} {d : Nat} {st : List Value} {M : am_M} {l0 l1 l2 l3 : Option Value} {q : Nat} {a0 : Int32} (hq : am_cls M q = some 3) (h8 : am_sw st ≤ 8) : am_run G d K_H_told (113, [l0, l1, l2, l3], .int a0 :: .ref q :: st, M) = am_k G d K_H_told 116 [l0, l1, l2, l3] st (am_ex G d K_Ni_part [.ref q, .int a0] M) := am_run_iv (i := 170) (n := 1) (pl := 3153) (Bs := [.int a0]) (z := K_Ni_part) (by decide +kernel) hq h8 rfl (Nat.le_of_ble_eq_true rfl) rfl
theorem r_H_told_116 {G : Nat → Value} {d : Nat} {st : List Value} {M : am_M} {l0 l1 l2 l3 : Option Value} {a : Int32} : am_run G d K_H_told (116, [l0, l1, l2, l3], .int a :: st, M) = am_run G d K_H_told (117, [l0, l1, l2, l3], .long a.toInt64 :: st, M) := am_run_next (x := (.i2l, 1, 0, 0, 0, 0)) (by decide +kernel) rfl
theorem r_H_told_117 {G : Nat → Value} {d : Nat} {M : am_M} {l0 l1 l2 l3 : Option Value} {a : Int64} : am_run G d K_H_told (117, [l0, l1, l2, l3], [.long a], M) = some (some (.long a), M) := am_run_ret (x := (.lreturn, 1, 0, 0, 0, 0)) (by decide +kernel) rfl
theorem r_H_nightAt_0 {G : Nat → Value} {d : Nat} {st : List Value} {M : am_M} {l0 : Option Value} {v : Int32} : am_run G d K_H_nightAt (0, [l0, some (.int v)], st, M) = am_run G d K_H_nightAt (1, [l0, some (.int v)], .int v :: st, M) := am_run_next (x := (.iload_n 1, 1, 0, 0, 0, 0)) (by decide +kernel) rfl
theorem r_H_nightAt_1 {G : Nat → Value} {d : Nat} {st : List Value} {M : am_M} {l0 l1 : Option Value} {a : Int32} : am_run G d K_H_nightAt (1, [l0, l1], .int a :: st, M) = if a < 0 then am_run G d K_H_nightAt (30, [l0, l1], st, M) else am_run G d K_H_nightAt (4, [l0, l1], st, M) := by
  split
  · next h => exact am_run_next (x := (.ifCond .lt 29, 3, 0, 0, 0, 0)) (by decide +kernel) (am_br_t (decide_eq_true h) (by decide))
  · next h => exact am_run_next (x := (.ifCond .lt 29, 3, 0, 0, 0, 0)) (by decide +kernel) (am_br_f (decide_eq_false h) (by decide))
theorem r_H_nightAt_4 {G : Nat → Value} {d : Nat} {st : List Value} {M : am_M} {l0 : Option Value} {v : Int32} : am_run G d K_H_nightAt (4, [l0, some (.int v)], st, M) = am_run G d K_H_nightAt (5, [l0, some (.int v)], .int v :: st, M) := am_run_next (x := (.iload_n 1, 1, 0, 0, 0, 0)) (by decide +kernel) rfl
theorem r_H_nightAt_5 {G : Nat → Value} {d : Nat} {st : List Value} {M : am_M} {l1 : Option Value} {v : Value} (hv : am_isr v = true) : am_run G d K_H_nightAt (5, [some v, l1], st, M) = am_run G d K_H_nightAt (6, [some v, l1], v :: st, M) := by
  rcases am_isr_cases hv with ⟨q, rfl⟩ | rfl
  · exact am_run_next (x := (.aload_n 0, 1, 0, 0, 0, 0)) (by decide +kernel) rfl
  · exact am_run_next (x := (.aload_n 0, 1, 0, 0, 0, 0)) (by decide +kernel) rfl
theorem r_H_nightAt_6 {G : Nat → Value} {d : Nat} {st : List Value} {M : am_M} {l0 l1 : Option Value} {a : Nat} : am_run G d K_H_nightAt (6, [l0, l1], .ref a :: st, M) = am_kf G d K_H_nightAt 9 [l0, l1] st M (am_fld M a 9 7) := am_run_kf (x := (.getfield 141, 3, 9, 7, 2131, 0)) (by decide +kernel) rfl
theorem r_H_nightAt_9 {G : Nat → Value} {d : Nat} {st : List Value} {M : am_M} {l0 l1 : Option Value} {a b : Int32} : am_run G d K_H_nightAt (9, [l0, l1], .int b :: .int a :: st, M) = if b ≤ a then am_run G d K_H_nightAt (30, [l0, l1], st, M) else am_run G d K_H_nightAt (12, [l0, l1], st, M) := by
  split
  · next h => exact am_run_next (x := (.if_icmp .ge 21, 3, 0, 0, 0, 0)) (by decide +kernel) (am_br_t (decide_eq_true h) (by decide))
  · next h => exact am_run_next (x := (.if_icmp .ge 21, 3, 0, 0, 0, 0)) (by decide +kernel) (am_br_f (decide_eq_false h) (by decide))
theorem r_H_nightAt_12 {G : Nat → Value} {d : Nat} {st : List Value} {M : am_M} {l0 : Option Value} {v : Int32} : am_run G d K_H_nightAt (12, [l0, some (.int v)], st, M) = am_run G d K_H_nightAt (13, [l0, some (.int v)], .int v :: st, M) := am_run_next (x := (.iload_n 1, 1, 0, 0, 0, 0)) (by decide +kernel) rfl
theorem r_H_nightAt_13 {G : Nat → Value} {d : Nat} {st : List Value} {M : am_M} {l1 : Option Value} {v : Value} (hv : am_isr v = true) : am_run G d K_H_nightAt (13, [some v, l1], st, M) = am_run G d K_H_nightAt (14, [some v, l1], v :: st, M) := by
  rcases am_isr_cases hv with ⟨q, rfl⟩ | rfl
  · exact am_run_next (x := (.aload_n 0, 1, 0, 0, 0, 0)) (by decide +kernel) rfl
  · exact am_run_next (x := (.aload_n 0, 1, 0, 0, 0, 0)) (by decide +kernel) rfl
theorem r_H_nightAt_14 {G : Nat → Value} {d : Nat} {st : List Value} {M : am_M} {l0 l1 : Option Value} {a : Nat} : am_run G d K_H_nightAt (14, [l0, l1], .ref a :: st, M) = am_kf G d K_H_nightAt 17 [l0, l1] st M (am_fld M a 9 2) := am_run_kf (x := (.getfield 23, 3, 9, 2, 2126, 0)) (by decide +kernel) rfl
theorem r_H_nightAt_17 {G : Nat → Value} {d : Nat} {st : List Value} {M : am_M} {l0 l1 : Option Value} {a : Nat} : am_run G d K_H_nightAt (17, [l0, l1], .ref a :: st, M) = am_kn G d K_H_nightAt 18 [l0, l1] st M (am_len M a) := am_run_kn (x := (.arraylength, 1, 0, 0, 0, 0)) (by decide +kernel) rfl
theorem r_H_nightAt_18 {G : Nat → Value} {d : Nat} {st : List Value} {M : am_M} {l0 l1 : Option Value} {a b : Int32} : am_run G d K_H_nightAt (18, [l0, l1], .int b :: .int a :: st, M) = if b ≤ a then am_run G d K_H_nightAt (30, [l0, l1], st, M) else am_run G d K_H_nightAt (21, [l0, l1], st, M) := by
  split
  · next h => exact am_run_next (x := (.if_icmp .ge 12, 3, 0, 0, 0, 0)) (by decide +kernel) (am_br_t (decide_eq_true h) (by decide))
  · next h => exact am_run_next (x := (.if_icmp .ge 12, 3, 0, 0, 0, 0)) (by decide +kernel) (am_br_f (decide_eq_false h) (by decide))
theorem r_H_nightAt_21 {G : Nat → Value} {d : Nat} {st : List Value} {M : am_M} {l1 : Option Value} {v : Value} (hv : am_isr v = true) : am_run G d K_H_nightAt (21, [some v, l1], st, M) = am_run G d K_H_nightAt (22, [some v, l1], v :: st, M) := by
  rcases am_isr_cases hv with ⟨q, rfl⟩ | rfl
  · exact am_run_next (x := (.aload_n 0, 1, 0, 0, 0, 0)) (by decide +kernel) rfl
  · exact am_run_next (x := (.aload_n 0, 1, 0, 0, 0, 0)) (by decide +kernel) rfl
theorem r_H_nightAt_22 {G : Nat → Value} {d : Nat} {st : List Value} {M : am_M} {l0 l1 : Option Value} {a : Nat} : am_run G d K_H_nightAt (22, [l0, l1], .ref a :: st, M) = am_kf G d K_H_nightAt 25 [l0, l1] st M (am_fld M a 9 2) := am_run_kf (x := (.getfield 23, 3, 9, 2, 2126, 0)) (by decide +kernel) rfl
theorem r_H_nightAt_25 {G : Nat → Value} {d : Nat} {st : List Value} {M : am_M} {l0 : Option Value} {v : Int32} : am_run G d K_H_nightAt (25, [l0, some (.int v)], st, M) = am_run G d K_H_nightAt (26, [l0, some (.int v)], .int v :: st, M) := am_run_next (x := (.iload_n 1, 1, 0, 0, 0, 0)) (by decide +kernel) rfl
theorem r_H_nightAt_26 {G : Nat → Value} {d : Nat} {st : List Value} {M : am_M} {l0 l1 : Option Value} {a : Nat} {i : Int32} : am_run G d K_H_nightAt (26, [l0, l1], .int i :: .ref a :: st, M) = am_kf G d K_H_nightAt 27 [l0, l1] st M (am_ag 3 M a i) := am_run_kf (x := (.aaload, 1, 0, 0, 0, 0)) (by decide +kernel) rfl
theorem r_H_nightAt_27 {G : Nat → Value} {d : Nat} {st : List Value} {M : am_M} {l0 l1 : Option Value} : am_run G d K_H_nightAt (27, [l0, l1], st, M) = am_run G d K_H_nightAt (31, [l0, l1], st, M) := am_run_next (x := (.goto 4, 3, 0, 0, 0, 0)) (by decide +kernel) rfl
theorem r_H_nightAt_30 {G : Nat → Value} {d : Nat} {st : List Value} {M : am_M} {l0 l1 : Option Value} : am_run G d K_H_nightAt (30, [l0, l1], st, M) = am_run G d K_H_nightAt (31, [l0, l1], .null :: st, M) := am_run_next (x := (.aconst_null, 1, 0, 0, 0, 0)) (by decide +kernel) rfl
theorem r_H_nightAt_31 {G : Nat → Value} {d : Nat} {M : am_M} {l0 l1 : Option Value} {v : Value} (hv : am_isr v = true) : am_run G d K_H_nightAt (31, [l0, l1], [v], M) = some (some v, M) := am_run_ret (x := (.areturn, 1, 0, 0, 0, 0)) (by decide +kernel) (if_pos ⟨hv, rfl⟩)
theorem r_H_moreOf_0 {G : Nat → Value} {d : Nat} {st : List Value} {M : am_M} {l0 l2 l3 l4 l5 l6 : Option Value} {v : Value} (hv : am_isr v = true) : am_run G d K_H_moreOf (0, [l0, some v, l2, l3, l4, l5, l6], st, M) = am_run G d K_H_moreOf (1, [l0, some v, l2, l3, l4, l5, l6], v :: st, M) := by
  rcases am_isr_cases hv with ⟨q, rfl⟩ | rfl
  · exact am_run_next (x := (.aload_n 1, 1, 0, 0, 0, 0)) (by decide +kernel) rfl
  · exact am_run_next (x := (.aload_n 1, 1, 0, 0, 0, 0)) (by decide +kernel) rfl
theorem r_H_moreOf_1 {G : Nat → Value} {d : Nat} {st : List Value} {M : am_M} {l0 l1 l2 l3 l4 l5 l6 : Option Value} {a : Nat} : am_run G d K_H_moreOf (1, [l0, l1, l2, l3, l4, l5, l6], .ref a :: st, M) = am_kf G d K_H_moreOf 4 [l0, l1, l2, l3, l4, l5, l6] st M (am_fld M a 3 4) := am_run_kf (x := (.getfield 341, 3, 3, 4, 3082, 1)) (by decide +kernel) rfl
theorem r_H_moreOf_4 {G : Nat → Value} {d : Nat} {st : List Value} {M : am_M} {l0 l1 l2 l3 l4 l5 l6 : Option Value} {a : Int32} : am_run G d K_H_moreOf (4, [l0, l1, l2, l3, l4, l5, l6], .int a :: st, M) = am_run G d K_H_moreOf (5, [l0, l1, l2, l3, l4, l5, l6], .long a.toInt64 :: st, M) := am_run_next (x := (.i2l, 1, 0, 0, 0, 0)) (by decide +kernel) rfl
theorem r_H_moreOf_5 {G : Nat → Value} {d : Nat} {st : List Value} {M : am_M} {l0 l1 l3 l4 l5 l6 : Option Value} {v : Int32} : am_run G d K_H_moreOf (5, [l0, l1, some (.int v), l3, l4, l5, l6], st, M) = am_run G d K_H_moreOf (6, [l0, l1, some (.int v), l3, l4, l5, l6], .int v :: st, M) := am_run_next (x := (.iload_n 2, 1, 0, 0, 0, 0)) (by decide +kernel) rfl
theorem r_H_moreOf_6 {G : Nat → Value} {d : Nat} {st : List Value} {M : am_M} {l0 l1 l2 l3 l4 l5 l6 : Option Value} {a : Int32} : am_run G d K_H_moreOf (6, [l0, l1, l2, l3, l4, l5, l6], .int a :: st, M) = am_run G d K_H_moreOf (7, [l0, l1, l2, l3, l4, l5, l6], .long a.toInt64 :: st, M) := am_run_next (x := (.i2l, 1, 0, 0, 0, 0)) (by decide +kernel) rfl
theorem r_H_moreOf_7 {G : Nat → Value} {d : Nat} {st : List Value} {M : am_M} {l0 l1 l2 l3 l4 l5 l6 : Option Value} {a b : Int64} : am_run G d K_H_moreOf (7, [l0, l1, l2, l3, l4, l5, l6], .long b :: .long a :: st, M) = am_run G d K_H_moreOf (8, [l0, l1, l2, l3, l4, l5, l6], .long (a * b) :: st, M) := am_run_next (x := (.lmul, 1, 0, 0, 0, 0)) (by decide +kernel) rfl
theorem r_H_moreOf_8 {G : Nat → Value} {d : Nat} {st : List Value} {M : am_M} {l0 l1 l2 l3 l4 l5 l6 : Option Value} {v : Int64} (hc : am_c1 l2 = true) : am_run G d K_H_moreOf (8, [l0, l1, l2, l3, l4, l5, l6], .long v :: st, M) = am_run G d K_H_moreOf (9, [l0, l1, l2, some (.long v), none, l5, l6], st, M) := by
  rcases am_c1_cases hc with rfl | ⟨q, rfl⟩ | ⟨q, rfl⟩ | rfl
  · exact am_run_next (x := (.lstore_n 3, 1, 0, 0, 0, 0)) (by decide +kernel) rfl
  · exact am_run_next (x := (.lstore_n 3, 1, 0, 0, 0, 0)) (by decide +kernel) rfl
  · exact am_run_next (x := (.lstore_n 3, 1, 0, 0, 0, 0)) (by decide +kernel) rfl
  · exact am_run_next (x := (.lstore_n 3, 1, 0, 0, 0, 0)) (by decide +kernel) rfl
theorem r_H_moreOf_8_k {G : Nat → Value} {d : Nat} {st : List Value} {M : am_M} {l0 l1 l3 l4 l5 l6 : Option Value} {v : Int64} {z : Int64} : am_run G d K_H_moreOf (8, [l0, l1, some (.long z), l3, l4, l5, l6], .long v :: st, M) = am_run G d K_H_moreOf (9, [l0, l1, none, some (.long v), none, l5, l6], st, M) := am_run_next (x := (.lstore_n 3, 1, 0, 0, 0, 0)) (by decide +kernel) rfl
theorem r_H_moreOf_9 {G : Nat → Value} {d : Nat} {st : List Value} {M : am_M} {l0 l2 l3 l4 l5 l6 : Option Value} {v : Value} (hv : am_isr v = true) : am_run G d K_H_moreOf (9, [l0, some v, l2, l3, l4, l5, l6], st, M) = am_run G d K_H_moreOf (10, [l0, some v, l2, l3, l4, l5, l6], v :: st, M) := by
  rcases am_isr_cases hv with ⟨q, rfl⟩ | rfl
  · exact am_run_next (x := (.aload_n 1, 1, 0, 0, 0, 0)) (by decide +kernel) rfl
  · exact am_run_next (x := (.aload_n 1, 1, 0, 0, 0, 0)) (by decide +kernel) rfl
theorem r_H_moreOf_10 {G : Nat → Value} {d : Nat} {st : List Value} {M : am_M} {l0 l1 l2 l3 l4 l5 l6 : Option Value} {a : Nat} : am_run G d K_H_moreOf (10, [l0, l1, l2, l3, l4, l5, l6], .ref a :: st, M) = am_kf G d K_H_moreOf 13 [l0, l1, l2, l3, l4, l5, l6] st M (am_fld M a 3 4) := am_run_kf (x := (.getfield 341, 3, 3, 4, 3082, 1)) (by decide +kernel) rfl
theorem r_H_moreOf_13 {G : Nat → Value} {d : Nat} {st : List Value} {M : am_M} {l0 l1 l2 l3 l4 l5 l6 : Option Value} {a : Int32} : am_run G d K_H_moreOf (13, [l0, l1, l2, l3, l4, l5, l6], .int a :: st, M) = am_run G d K_H_moreOf (14, [l0, l1, l2, l3, l4, l5, l6], .long a.toInt64 :: st, M) := am_run_next (x := (.i2l, 1, 0, 0, 0, 0)) (by decide +kernel) rfl
theorem r_H_moreOf_14 {G : Nat → Value} {d : Nat} {st : List Value} {M : am_M} {l0 l1 l2 l3 l4 l5 l6 : Option Value} : am_run G d K_H_moreOf (14, [l0, l1, l2, l3, l4, l5, l6], st, M) = am_run G d K_H_moreOf (17, [l0, l1, l2, l3, l4, l5, l6], .long 100 :: st, M) := am_run_next (x := (.ldc2_w 248, 3, 0, 0, 3042, 100)) (by decide +kernel) rfl
theorem r_H_moreOf_17 {G : Nat → Value} {d : Nat} {st : List Value} {M : am_M} {l0 l1 l2 l3 l4 l5 l6 : Option Value} {a b : Int64} : am_run G d K_H_moreOf (17, [l0, l1, l2, l3, l4, l5, l6], .long b :: .long a :: st, M) = am_run G d K_H_moreOf (18, [l0, l1, l2, l3, l4, l5, l6], .long (a * b) :: st, M) := am_run_next (x := (.lmul, 1, 0, 0, 0, 0)) (by decide +kernel) rfl
theorem r_H_moreOf_18 {G : Nat → Value} {d : Nat} {st : List Value} {M : am_M} {l0 l1 l2 l3 l4 l5 l6 : Option Value} {v : Int64} (hc : am_c1 l4 = true) : am_run G d K_H_moreOf (18, [l0, l1, l2, l3, l4, l5, l6], .long v :: st, M) = am_run G d K_H_moreOf (20, [l0, l1, l2, l3, l4, some (.long v), none], st, M) := by
  rcases am_c1_cases hc with rfl | ⟨q, rfl⟩ | ⟨q, rfl⟩ | rfl
  · exact am_run_next (x := (.lstore 5, 2, 0, 0, 0, 0)) (by decide +kernel) rfl
  · exact am_run_next (x := (.lstore 5, 2, 0, 0, 0, 0)) (by decide +kernel) rfl
  · exact am_run_next (x := (.lstore 5, 2, 0, 0, 0, 0)) (by decide +kernel) rfl
  · exact am_run_next (x := (.lstore 5, 2, 0, 0, 0, 0)) (by decide +kernel) rfl
theorem r_H_moreOf_18_k {G : Nat → Value} {d : Nat} {st : List Value} {M : am_M} {l0 l1 l2 l3 l5 l6 : Option Value} {v : Int64} {z : Int64} : am_run G d K_H_moreOf (18, [l0, l1, l2, l3, some (.long z), l5, l6], .long v :: st, M) = am_run G d K_H_moreOf (20, [l0, l1, l2, l3, none, some (.long v), none], st, M) := am_run_next (x := (.lstore 5, 2, 0, 0, 0, 0)) (by decide +kernel) rfl
theorem r_H_moreOf_20 {G : Nat → Value} {d : Nat} {st : List Value} {M : am_M} {l0 l2 l3 l4 l5 l6 : Option Value} {v : Value} (hv : am_isr v = true) : am_run G d K_H_moreOf (20, [l0, some v, l2, l3, l4, l5, l6], st, M) = am_run G d K_H_moreOf (21, [l0, some v, l2, l3, l4, l5, l6], v :: st, M) := by
  rcases am_isr_cases hv with ⟨q, rfl⟩ | rfl
  · exact am_run_next (x := (.aload_n 1, 1, 0, 0, 0, 0)) (by decide +kernel) rfl
  · exact am_run_next (x := (.aload_n 1, 1, 0, 0, 0, 0)) (by decide +kernel) rfl
theorem r_H_moreOf_21 {G : Nat → Value} {d : Nat} {st : List Value} {M : am_M} {l0 l1 l2 l3 l4 l5 l6 : Option Value} {a : Nat} : am_run G d K_H_moreOf (21, [l0, l1, l2, l3, l4, l5, l6], .ref a :: st, M) = am_kf G d K_H_moreOf 24 [l0, l1, l2, l3, l4, l5, l6] st M (am_fld M a 3 0) := am_run_kf (x := (.getfield 335, 3, 3, 0, 3072, 1)) (by decide +kernel) rfl
theorem r_H_moreOf_24 {G : Nat → Value} {d : Nat} {st : List Value} {M : am_M} {l0 l1 l2 l3 l4 l5 l6 : Option Value} {a : Int32} : am_run G d K_H_moreOf (24, [l0, l1, l2, l3, l4, l5, l6], .int a :: st, M) = if a = 1 then am_run G d K_H_moreOf (60, [l0, l1, l2, l3, l4, l5, l6], st, M) else if a = 2 then am_run G d K_H_moreOf (62, [l0, l1, l2, l3, l4, l5, l6], st, M) else if a = 3 then am_run G d K_H_moreOf (65, [l0, l1, l2, l3, l4, l5, l6], st, M) else if a = 4 then am_run G d K_H_moreOf (85, [l0, l1, l2, l3, l4, l5, l6], st, M) else if a = 5 then am_run G d K_H_moreOf (95, [l0, l1, l2, l3, l4, l5, l6], st, M) else am_run G d K_H_moreOf (102, [l0, l1, l2, l3, l4, l5, l6], st, M) := by
  by_cases h0 : a = 1
  · rw [if_pos h0]
    subst h0
    exact am_run_next (x := (.tableswitch 78 1 5 #[36, 38, 41, 61, 71], 36, 0, 0, 0, 0)) (by decide +kernel) rfl
  rw [if_neg h0]
  by_cases h1 : a = 2
  · rw [if_pos h1]
    subst h1
    exact am_run_next (x := (.tableswitch 78 1 5 #[36, 38, 41, 61, 71], 36, 0, 0, 0, 0)) (by decide +kernel) rfl
  rw [if_neg h1]
  by_cases h2 : a = 3
  · rw [if_pos h2]
    subst h2
    exact am_run_next (x := (.tableswitch 78 1 5 #[36, 38, 41, 61, 71], 36, 0, 0, 0, 0)) (by decide +kernel) rfl
  rw [if_neg h2]
  by_cases h3 : a = 4
  · rw [if_pos h3]
    subst h3
    exact am_run_next (x := (.tableswitch 78 1 5 #[36, 38, 41, 61, 71], 36, 0, 0, 0, 0)) (by decide +kernel) rfl
  rw [if_neg h3]
  by_cases h4 : a = 5
  · rw [if_pos h4]
    subst h4
    exact am_run_next (x := (.tableswitch 78 1 5 #[36, 38, 41, 61, 71], 36, 0, 0, 0, 0)) (by decide +kernel) rfl
  rw [if_neg h4]
  have g0 := am_ne_i h0 (n := 1) (by decide)
  have g1 := am_ne_i h1 (n := 2) (by decide)
  have g2 := am_ne_i h2 (n := 3) (by decide)
  have g3 := am_ne_i h3 (n := 4) (by decide)
  have g4 := am_ne_i h4 (n := 5) (by decide)
  exact am_run_next (x := (.tableswitch 78 1 5 #[36, 38, 41, 61, 71], 36, 0, 0, 0, 0)) (by decide +kernel) (if_pos (by omega))
theorem r_H_moreOf_60 {G : Nat → Value} {d : Nat} {st : List Value} {M : am_M} {l0 l1 l2 l4 l5 l6 : Option Value} {v : Int64} : am_run G d K_H_moreOf (60, [l0, l1, l2, some (.long v), l4, l5, l6], st, M) = am_run G d K_H_moreOf (61, [l0, l1, l2, some (.long v), l4, l5, l6], .long v :: st, M) := am_run_next (x := (.lload_n 3, 1, 0, 0, 0, 0)) (by decide +kernel) rfl
theorem r_H_moreOf_61 {G : Nat → Value} {d : Nat} {M : am_M} {l0 l1 l2 l3 l4 l5 l6 : Option Value} {a : Int64} : am_run G d K_H_moreOf (61, [l0, l1, l2, l3, l4, l5, l6], [.long a], M) = some (some (.long a), M) := am_run_ret (x := (.lreturn, 1, 0, 0, 0, 0)) (by decide +kernel) rfl
theorem r_H_moreOf_62 {G : Nat → Value} {d : Nat} {st : List Value} {M : am_M} {l0 l1 l2 l3 l4 l6 : Option Value} {v : Int64} : am_run G d K_H_moreOf (62, [l0, l1, l2, l3, l4, some (.long v), l6], st, M) = am_run G d K_H_moreOf (64, [l0, l1, l2, l3, l4, some (.long v), l6], .long v :: st, M) := am_run_next (x := (.lload 5, 2, 0, 0, 0, 0)) (by decide +kernel) rfl
theorem r_H_moreOf_64 {G : Nat → Value} {d : Nat} {M : am_M} {l0 l1 l2 l3 l4 l5 l6 : Option Value} {a : Int64} : am_run G d K_H_moreOf (64, [l0, l1, l2, l3, l4, l5, l6], [.long a], M) = some (some (.long a), M) := am_run_ret (x := (.lreturn, 1, 0, 0, 0, 0)) (by decide +kernel) rfl
theorem r_H_moreOf_65 {G : Nat → Value} {d : Nat} {st : List Value} {M : am_M} {l0 l2 l3 l4 l5 l6 : Option Value} {v : Value} (hv : am_isr v = true) : am_run G d K_H_moreOf (65, [l0, some v, l2, l3, l4, l5, l6], st, M) = am_run G d K_H_moreOf (66, [l0, some v, l2, l3, l4, l5, l6], v :: st, M) := by
  rcases am_isr_cases hv with ⟨q, rfl⟩ | rfl
  · exact am_run_next (x := (.aload_n 1, 1, 0, 0, 0, 0)) (by decide +kernel) rfl
  · exact am_run_next (x := (.aload_n 1, 1, 0, 0, 0, 0)) (by decide +kernel) rfl
theorem r_H_moreOf_66 {G : Nat → Value} {d : Nat} {st : List Value} {M : am_M} {l0 l1 l2 l3 l4 l5 l6 : Option Value} {a : Nat} : am_run G d K_H_moreOf (66, [l0, l1, l2, l3, l4, l5, l6], .ref a :: st, M) = am_kf G d K_H_moreOf 69 [l0, l1, l2, l3, l4, l5, l6] st M (am_fld M a 3 4) := am_run_kf (x := (.getfield 341, 3, 3, 4, 3082, 1)) (by decide +kernel) rfl
theorem r_H_moreOf_69 {G : Nat → Value} {d : Nat} {st : List Value} {M : am_M} {l0 l1 l2 l3 l4 l5 l6 : Option Value} {a : Int32} : am_run G d K_H_moreOf (69, [l0, l1, l2, l3, l4, l5, l6], .int a :: st, M) = am_run G d K_H_moreOf (70, [l0, l1, l2, l3, l4, l5, l6], .long a.toInt64 :: st, M) := am_run_next (x := (.i2l, 1, 0, 0, 0, 0)) (by decide +kernel) rfl
theorem r_H_moreOf_70 {G : Nat → Value} {d : Nat} {st : List Value} {M : am_M} {l1 l2 l3 l4 l5 l6 : Option Value} {v : Value} (hv : am_isr v = true) : am_run G d K_H_moreOf (70, [some v, l1, l2, l3, l4, l5, l6], st, M) = am_run G d K_H_moreOf (71, [some v, l1, l2, l3, l4, l5, l6], v :: st, M) := by
  rcases am_isr_cases hv with ⟨q, rfl⟩ | rfl
  · exact am_run_next (x := (.aload_n 0, 1, 0, 0, 0, 0)) (by decide +kernel) rfl
  · exact am_run_next (x := (.aload_n 0, 1, 0, 0, 0, 0)) (by decide +kernel) rfl
theorem r_H_moreOf_71 {G : Nat → Value} {d : Nat} {st : List Value} {M : am_M} {l0 l1 l2 l3 l4 l5 l6 : Option Value} {a : Nat} : am_run G d K_H_moreOf (71, [l0, l1, l2, l3, l4, l5, l6], .ref a :: st, M) = am_kf G d K_H_moreOf 74 [l0, l1, l2, l3, l4, l5, l6] st M (am_fld M a 9 9) := am_run_kf (x := (.getfield 39, 3, 9, 9, 2133, 0)) (by decide +kernel) rfl
theorem r_H_moreOf_74 {G : Nat → Value} {d : Nat} {st : List Value} {M : am_M} {l0 l1 l2 l3 l4 l5 l6 : Option Value} : am_run G d K_H_moreOf (74, [l0, l1, l2, l3, l4, l5, l6], st, M) = am_run G d K_H_moreOf (75, [l0, l1, l2, l3, l4, l5, l6], .int 2 :: st, M) := am_run_next (x := (.iconst 2, 1, 0, 0, 0, 0)) (by decide +kernel) rfl
theorem r_H_moreOf_75 {G : Nat → Value} {d : Nat} {st : List Value} {M : am_M} {l0 l1 l2 l3 l4 l5 l6 : Option Value} {a : Nat} {i : Int32} : am_run G d K_H_moreOf (75, [l0, l1, l2, l3, l4, l5, l6], .int i :: .ref a :: st, M) = am_kf G d K_H_moreOf 76 [l0, l1, l2, l3, l4, l5, l6] st M (am_ag 0 M a i) := am_run_kf (x := (.iaload, 1, 0, 0, 0, 0)) (by decide +kernel) rfl
theorem r_H_moreOf_76 {G : Nat → Value} {d : Nat} {st : List Value} {M : am_M} {l0 l1 l2 l3 l4 l5 l6 : Option Value} {a : Int32} : am_run G d K_H_moreOf (76, [l0, l1, l2, l3, l4, l5, l6], .int a :: st, M) = am_run G d K_H_moreOf (77, [l0, l1, l2, l3, l4, l5, l6], .long a.toInt64 :: st, M) := am_run_next (x := (.i2l, 1, 0, 0, 0, 0)) (by decide +kernel) rfl
theorem r_H_moreOf_77 {G : Nat → Value} {d : Nat} {st : List Value} {M : am_M} {l0 l1 l2 l3 l4 l5 l6 : Option Value} {a b : Int64} : am_run G d K_H_moreOf (77, [l0, l1, l2, l3, l4, l5, l6], .long b :: .long a :: st, M) = am_run G d K_H_moreOf (78, [l0, l1, l2, l3, l4, l5, l6], .long (a * b) :: st, M) := am_run_next (x := (.lmul, 1, 0, 0, 0, 0)) (by decide +kernel) rfl
theorem r_H_moreOf_78 {G : Nat → Value} {d : Nat} {st : List Value} {M : am_M} {l0 l1 l2 l4 l5 l6 : Option Value} {v : Int64} : am_run G d K_H_moreOf (78, [l0, l1, l2, some (.long v), l4, l5, l6], st, M) = am_run G d K_H_moreOf (79, [l0, l1, l2, some (.long v), l4, l5, l6], .long v :: st, M) := am_run_next (x := (.lload_n 3, 1, 0, 0, 0, 0)) (by decide +kernel) rfl
theorem r_H_moreOf_79 {G : Nat → Value} {d : Nat} {st : List Value} {M : am_M} {l0 l1 l2 l3 l4 l5 l6 : Option Value} : am_run G d K_H_moreOf (79, [l0, l1, l2, l3, l4, l5, l6], st, M) = am_run G d K_H_moreOf (82, [l0, l1, l2, l3, l4, l5, l6], .long 2 :: st, M) := am_run_next (x := (.ldc2_w 290, 3, 0, 0, 3114, 2)) (by decide +kernel) rfl
theorem r_H_moreOf_82 {G : Nat → Value} {d : Nat} {st : List Value} {M : am_M} {l0 l1 l2 l3 l4 l5 l6 : Option Value} {a b : Int64} : am_run G d K_H_moreOf (82, [l0, l1, l2, l3, l4, l5, l6], .long b :: .long a :: st, M) = if b = 0 then none else am_run G d K_H_moreOf (83, [l0, l1, l2, l3, l4, l5, l6], .long (a / b) :: st, M) := by
  split
  · next h => exact am_run_stuck (x := (.ldiv, 1, 0, 0, 0, 0)) (by decide +kernel) (if_pos h)
  · next h => exact am_run_next (x := (.ldiv, 1, 0, 0, 0, 0)) (by decide +kernel) (if_neg h)
theorem r_H_moreOf_83 {G : Nat → Value} {d : Nat} {st : List Value} {M : am_M} {l0 l1 l2 l3 l4 l5 l6 : Option Value} {a b : Int64} : am_run G d K_H_moreOf (83, [l0, l1, l2, l3, l4, l5, l6], .long b :: .long a :: st, M) = am_run G d K_H_moreOf (84, [l0, l1, l2, l3, l4, l5, l6], .long (a + b) :: st, M) := am_run_next (x := (.ladd, 1, 0, 0, 0, 0)) (by decide +kernel) rfl
theorem r_H_moreOf_84 {G : Nat → Value} {d : Nat} {M : am_M} {l0 l1 l2 l3 l4 l5 l6 : Option Value} {a : Int64} : am_run G d K_H_moreOf (84, [l0, l1, l2, l3, l4, l5, l6], [.long a], M) = some (some (.long a), M) := am_run_ret (x := (.lreturn, 1, 0, 0, 0, 0)) (by decide +kernel) rfl
theorem r_H_moreOf_85 {G : Nat → Value} {d : Nat} {st : List Value} {M : am_M} {l0 l1 l2 l4 l5 l6 : Option Value} {v : Int64} : am_run G d K_H_moreOf (85, [l0, l1, l2, some (.long v), l4, l5, l6], st, M) = am_run G d K_H_moreOf (86, [l0, l1, l2, some (.long v), l4, l5, l6], .long v :: st, M) := am_run_next (x := (.lload_n 3, 1, 0, 0, 0, 0)) (by decide +kernel) rfl
theorem r_H_moreOf_86 {G : Nat → Value} {d : Nat} {st : List Value} {M : am_M} {l1 l2 l3 l4 l5 l6 : Option Value} {v : Value} (hv : am_isr v = true) : am_run G d K_H_moreOf (86, [some v, l1, l2, l3, l4, l5, l6], st, M) = am_run G d K_H_moreOf (87, [some v, l1, l2, l3, l4, l5, l6], v :: st, M) := by
  rcases am_isr_cases hv with ⟨q, rfl⟩ | rfl
  · exact am_run_next (x := (.aload_n 0, 1, 0, 0, 0, 0)) (by decide +kernel) rfl
  · exact am_run_next (x := (.aload_n 0, 1, 0, 0, 0, 0)) (by decide +kernel) rfl
theorem r_H_moreOf_87 {G : Nat → Value} {d : Nat} {st : List Value} {M : am_M} {l0 l1 l2 l3 l4 l5 l6 : Option Value} {a : Nat} : am_run G d K_H_moreOf (87, [l0, l1, l2, l3, l4, l5, l6], .ref a :: st, M) = am_kf G d K_H_moreOf 90 [l0, l1, l2, l3, l4, l5, l6] st M (am_fld M a 9 9) := am_run_kf (x := (.getfield 39, 3, 9, 9, 2133, 0)) (by decide +kernel) rfl
theorem r_H_moreOf_90 {G : Nat → Value} {d : Nat} {st : List Value} {M : am_M} {l0 l1 l2 l3 l4 l5 l6 : Option Value} : am_run G d K_H_moreOf (90, [l0, l1, l2, l3, l4, l5, l6], st, M) = am_run G d K_H_moreOf (91, [l0, l1, l2, l3, l4, l5, l6], .int 3 :: st, M) := am_run_next (x := (.iconst 3, 1, 0, 0, 0, 0)) (by decide +kernel) rfl
theorem r_H_moreOf_91 {G : Nat → Value} {d : Nat} {st : List Value} {M : am_M} {l0 l1 l2 l3 l4 l5 l6 : Option Value} {a : Nat} {i : Int32} : am_run G d K_H_moreOf (91, [l0, l1, l2, l3, l4, l5, l6], .int i :: .ref a :: st, M) = am_kf G d K_H_moreOf 92 [l0, l1, l2, l3, l4, l5, l6] st M (am_ag 0 M a i) := am_run_kf (x := (.iaload, 1, 0, 0, 0, 0)) (by decide +kernel) rfl
theorem r_H_moreOf_92 {G : Nat → Value} {d : Nat} {st : List Value} {M : am_M} {l0 l1 l2 l3 l4 l5 l6 : Option Value} {a : Int32} : am_run G d K_H_moreOf (92, [l0, l1, l2, l3, l4, l5, l6], .int a :: st, M) = am_run G d K_H_moreOf (93, [l0, l1, l2, l3, l4, l5, l6], .long a.toInt64 :: st, M) := am_run_next (x := (.i2l, 1, 0, 0, 0, 0)) (by decide +kernel) rfl
theorem r_H_moreOf_93 {G : Nat → Value} {d : Nat} {st : List Value} {M : am_M} {l0 l1 l2 l3 l4 l5 l6 : Option Value} {a b : Int64} : am_run G d K_H_moreOf (93, [l0, l1, l2, l3, l4, l5, l6], .long b :: .long a :: st, M) = am_run G d K_H_moreOf (94, [l0, l1, l2, l3, l4, l5, l6], .long (a + b) :: st, M) := am_run_next (x := (.ladd, 1, 0, 0, 0, 0)) (by decide +kernel) rfl
theorem r_H_moreOf_94 {G : Nat → Value} {d : Nat} {M : am_M} {l0 l1 l2 l3 l4 l5 l6 : Option Value} {a : Int64} : am_run G d K_H_moreOf (94, [l0, l1, l2, l3, l4, l5, l6], [.long a], M) = some (some (.long a), M) := am_run_ret (x := (.lreturn, 1, 0, 0, 0, 0)) (by decide +kernel) rfl
theorem r_H_moreOf_95 {G : Nat → Value} {d : Nat} {st : List Value} {M : am_M} {l0 l1 l2 l3 l4 l6 : Option Value} {v : Int64} : am_run G d K_H_moreOf (95, [l0, l1, l2, l3, l4, some (.long v), l6], st, M) = am_run G d K_H_moreOf (97, [l0, l1, l2, l3, l4, some (.long v), l6], .long v :: st, M) := am_run_next (x := (.lload 5, 2, 0, 0, 0, 0)) (by decide +kernel) rfl
theorem r_H_moreOf_97 {G : Nat → Value} {d : Nat} {st : List Value} {M : am_M} {l0 l1 l2 l3 l4 l5 l6 : Option Value} : am_run G d K_H_moreOf (97, [l0, l1, l2, l3, l4, l5, l6], st, M) = am_run G d K_H_moreOf (100, [l0, l1, l2, l3, l4, l5, l6], .long 3 :: st, M) := am_run_next (x := (.ldc2_w 363, 3, 0, 0, 3115, 3)) (by decide +kernel) rfl
theorem r_H_moreOf_100 {G : Nat → Value} {d : Nat} {st : List Value} {M : am_M} {l0 l1 l2 l3 l4 l5 l6 : Option Value} {a b : Int64} : am_run G d K_H_moreOf (100, [l0, l1, l2, l3, l4, l5, l6], .long b :: .long a :: st, M) = if b = 0 then none else am_run G d K_H_moreOf (101, [l0, l1, l2, l3, l4, l5, l6], .long (a / b) :: st, M) := by
  split
  · next h => exact am_run_stuck (x := (.ldiv, 1, 0, 0, 0, 0)) (by decide +kernel) (if_pos h)
  · next h => exact am_run_next (x := (.ldiv, 1, 0, 0, 0, 0)) (by decide +kernel) (if_neg h)
theorem r_H_moreOf_101 {G : Nat → Value} {d : Nat} {M : am_M} {l0 l1 l2 l3 l4 l5 l6 : Option Value} {a : Int64} : am_run G d K_H_moreOf (101, [l0, l1, l2, l3, l4, l5, l6], [.long a], M) = some (some (.long a), M) := am_run_ret (x := (.lreturn, 1, 0, 0, 0, 0)) (by decide +kernel) rfl
theorem r_H_moreOf_102 {G : Nat → Value} {d : Nat} {st : List Value} {M : am_M} {l0 l1 l2 l3 l4 l5 l6 : Option Value} : am_run G d K_H_moreOf (102, [l0, l1, l2, l3, l4, l5, l6], st, M) = am_run G d K_H_moreOf (103, [l0, l1, l2, l3, l4, l5, l6], .long 0 :: st, M) := am_run_next (x := (.lconst 0, 1, 0, 0, 0, 0)) (by decide +kernel) rfl
theorem r_H_moreOf_103 {G : Nat → Value} {d : Nat} {M : am_M} {l0 l1 l2 l3 l4 l5 l6 : Option Value} {a : Int64} : am_run G d K_H_moreOf (103, [l0, l1, l2, l3, l4, l5, l6], [.long a], M) = some (some (.long a), M) := am_run_ret (x := (.lreturn, 1, 0, 0, 0, 0)) (by decide +kernel) rfl
theorem r_H_lateOf_0 {G : Nat → Value} {d : Nat} {st : List Value} {M : am_M} {l1 l2 l3 : Option Value} {v : Value} (hv : am_isr v = true) : am_run G d K_H_lateOf (0, [some v, l1, l2, l3], st, M) = am_run G d K_H_lateOf (1, [some v, l1, l2, l3], v :: st, M) := by
  rcases am_isr_cases hv with ⟨q, rfl⟩ | rfl
  · exact am_run_next (x := (.aload_n 0, 1, 0, 0, 0, 0)) (by decide +kernel) rfl
  · exact am_run_next (x := (.aload_n 0, 1, 0, 0, 0, 0)) (by decide +kernel) rfl
theorem r_H_lateOf_1 {G : Nat → Value} {d : Nat} {st : List Value} {M : am_M} {l0 l1 l2 l3 : Option Value} {q : Nat} (hq : am_cls M q = some 9) (h8 : am_sw st ≤ 8) : am_run G d K_H_lateOf (1, [l0, l1, l2, l3], .ref q :: st, M) = am_k G d K_H_lateOf 4 [l0, l1, l2, l3] st (am_ex G d K_H_ruleNow [.ref q] M) := am_run_iv (i := 365) (n := 0) (pl := 3120) (Bs := []) (z := K_H_ruleNow) (by decide +kernel) hq h8 rfl (Nat.le_of_ble_eq_true rfl) rfl
theorem r_H_lateOf_4 {G : Nat → Value} {d : Nat} {st : List Value} {M : am_M} {l0 l1 l2 l3 : Option Value} {v : Value} (hv : am_isr v = true) (hc : am_c1 l1 = true) : am_run G d K_H_lateOf (4, [l0, l1, l2, l3], v :: st, M) = am_run G d K_H_lateOf (5, [l0, l1, some v, l3], st, M) := by
  rcases am_isr_cases hv with ⟨q1, rfl⟩ | rfl
  · rcases am_c1_cases hc with rfl | ⟨q, rfl⟩ | ⟨q, rfl⟩ | rfl
    · exact am_run_next (x := (.astore_n 2, 1, 0, 0, 0, 0)) (by decide +kernel) rfl
    · exact am_run_next (x := (.astore_n 2, 1, 0, 0, 0, 0)) (by decide +kernel) rfl
    · exact am_run_next (x := (.astore_n 2, 1, 0, 0, 0, 0)) (by decide +kernel) rfl
    · exact am_run_next (x := (.astore_n 2, 1, 0, 0, 0, 0)) (by decide +kernel) rfl
  · rcases am_c1_cases hc with rfl | ⟨q, rfl⟩ | ⟨q, rfl⟩ | rfl
    · exact am_run_next (x := (.astore_n 2, 1, 0, 0, 0, 0)) (by decide +kernel) rfl
    · exact am_run_next (x := (.astore_n 2, 1, 0, 0, 0, 0)) (by decide +kernel) rfl
    · exact am_run_next (x := (.astore_n 2, 1, 0, 0, 0, 0)) (by decide +kernel) rfl
    · exact am_run_next (x := (.astore_n 2, 1, 0, 0, 0, 0)) (by decide +kernel) rfl
theorem r_H_lateOf_4_k {G : Nat → Value} {d : Nat} {st : List Value} {M : am_M} {l0 l2 l3 : Option Value} {v : Value} {z : Int64} (hv : am_isr v = true) : am_run G d K_H_lateOf (4, [l0, some (.long z), l2, l3], v :: st, M) = am_run G d K_H_lateOf (5, [l0, none, some v, l3], st, M) := by
  rcases am_isr_cases hv with ⟨q, rfl⟩ | rfl
  · exact am_run_next (x := (.astore_n 2, 1, 0, 0, 0, 0)) (by decide +kernel) rfl
  · exact am_run_next (x := (.astore_n 2, 1, 0, 0, 0, 0)) (by decide +kernel) rfl
theorem r_H_lateOf_5 {G : Nat → Value} {d : Nat} {st : List Value} {M : am_M} {l0 l1 l3 : Option Value} {v : Value} (hv : am_isr v = true) : am_run G d K_H_lateOf (5, [l0, l1, some v, l3], st, M) = am_run G d K_H_lateOf (6, [l0, l1, some v, l3], v :: st, M) := by
  rcases am_isr_cases hv with ⟨q, rfl⟩ | rfl
  · exact am_run_next (x := (.aload_n 2, 1, 0, 0, 0, 0)) (by decide +kernel) rfl
  · exact am_run_next (x := (.aload_n 2, 1, 0, 0, 0, 0)) (by decide +kernel) rfl
theorem r_H_lateOf_6 {G : Nat → Value} {d : Nat} {st : List Value} {M : am_M} {l0 l1 l2 l3 : Option Value} {v : Value} (hv : am_isr v = true) : am_run G d K_H_lateOf (6, [l0, l1, l2, l3], v :: st, M) = if ¬ v = .null then am_run G d K_H_lateOf (13, [l0, l1, l2, l3], st, M) else am_run G d K_H_lateOf (9, [l0, l1, l2, l3], st, M) := by
  split
  · next h => exact am_run_next (x := (.ifnonnull 7, 3, 0, 0, 0, 0)) (by decide +kernel) ((if_pos hv).trans (am_br_t (decide_eq_true h) (by decide)))
  · next h => exact am_run_next (x := (.ifnonnull 7, 3, 0, 0, 0, 0)) (by decide +kernel) ((if_pos hv).trans (am_br_f (decide_eq_false h) (by decide)))
theorem r_H_lateOf_9 {G : Nat → Value} {d : Nat} {st : List Value} {M : am_M} {l0 l1 l2 l3 : Option Value} : am_run G d K_H_lateOf (9, [l0, l1, l2, l3], st, M) = am_run G d K_H_lateOf (10, [l0, l1, l2, l3], .int 0 :: st, M) := am_run_next (x := (.iconst 0, 1, 0, 0, 0, 0)) (by decide +kernel) rfl
theorem r_H_lateOf_10 {G : Nat → Value} {d : Nat} {st : List Value} {M : am_M} {l0 l1 l2 l3 : Option Value} : am_run G d K_H_lateOf (10, [l0, l1, l2, l3], st, M) = am_run G d K_H_lateOf (28, [l0, l1, l2, l3], st, M) := am_run_next (x := (.goto 18, 3, 0, 0, 0, 0)) (by decide +kernel) rfl
theorem r_H_lateOf_13 {G : Nat → Value} {d : Nat} {st : List Value} {M : am_M} {l0 l1 l2 l3 : Option Value} : am_run G d K_H_lateOf (13, [l0, l1, l2, l3], st, M) = am_run G d K_H_lateOf (14, [l0, l1, l2, l3], .int 0 :: st, M) := am_run_next (x := (.iconst 0, 1, 0, 0, 0, 0)) (by decide +kernel) rfl
theorem r_H_lateOf_14 {G : Nat → Value} {d : Nat} {st : List Value} {M : am_M} {l0 l1 l2 l3 : Option Value} : am_run G d K_H_lateOf (14, [l0, l1, l2, l3], st, M) = am_run G d K_H_lateOf (17, [l0, l1, l2, l3], .int 999 :: st, M) := am_run_next (x := (.sipush 999, 3, 0, 0, 0, 0)) (by decide +kernel) rfl
theorem r_H_lateOf_17 {G : Nat → Value} {d : Nat} {st : List Value} {M : am_M} {l0 l1 l3 : Option Value} {v : Value} (hv : am_isr v = true) : am_run G d K_H_lateOf (17, [l0, l1, some v, l3], st, M) = am_run G d K_H_lateOf (18, [l0, l1, some v, l3], v :: st, M) := by
  rcases am_isr_cases hv with ⟨q, rfl⟩ | rfl
  · exact am_run_next (x := (.aload_n 2, 1, 0, 0, 0, 0)) (by decide +kernel) rfl
  · exact am_run_next (x := (.aload_n 2, 1, 0, 0, 0, 0)) (by decide +kernel) rfl
theorem r_H_lateOf_18 {G : Nat → Value} {d : Nat} {st : List Value} {M : am_M} {l0 l2 l3 : Option Value} {v : Value} (hv : am_isr v = true) : am_run G d K_H_lateOf (18, [l0, some v, l2, l3], st, M) = am_run G d K_H_lateOf (19, [l0, some v, l2, l3], v :: st, M) := by
  rcases am_isr_cases hv with ⟨q, rfl⟩ | rfl
  · exact am_run_next (x := (.aload_n 1, 1, 0, 0, 0, 0)) (by decide +kernel) rfl
  · exact am_run_next (x := (.aload_n 1, 1, 0, 0, 0, 0)) (by decide +kernel) rfl
theorem r_H_lateOf_19 {G : Nat → Value} {d : Nat} {st : List Value} {M : am_M} {l0 l1 l2 l3 : Option Value} {q : Nat} {a0 : Value} (h0 : am_isr a0 = true) (hq : am_cls M q = some 8) (h8 : am_sw st ≤ 8) : am_run G d K_H_lateOf (19, [l0, l1, l2, l3], a0 :: .ref q :: st, M) = am_k G d K_H_lateOf 22 [l0, l1, l2, l3] st (am_ex G d K_Te_lateOf [.ref q, a0] M) := by
  have he : (am_exp [.ref q, a0]).length ≤ am_mL K_Te_lateOf := by
    rcases am_isr_cases h0 with ⟨z0, rfl⟩ | rfl <;> exact Nat.le_of_ble_eq_true rfl
  exact am_run_iv (i := 368) (n := 1) (pl := 3124) (Bs := [a0]) (z := K_Te_lateOf) (by decide +kernel) hq h8 rfl he rfl
theorem r_H_lateOf_22 {G : Nat → Value} {d : Nat} {st : List Value} {M : am_M} {l0 l1 l2 l3 : Option Value} {a b : Int32} (h8 : am_sw st ≤ 8) : am_run G d K_H_lateOf (22, [l0, l1, l2, l3], .int b :: .int a :: st, M) = am_run G d K_H_lateOf (25, [l0, l1, l2, l3], .int (if b < a then b else a) :: st, M) := am_run_next (x := (.invokestatic 369, 3, 0, 2, 3139, 11)) (by decide +kernel) (if_pos h8)
theorem r_H_lateOf_25 {G : Nat → Value} {d : Nat} {st : List Value} {M : am_M} {l0 l1 l2 l3 : Option Value} {a b : Int32} (h8 : am_sw st ≤ 8) : am_run G d K_H_lateOf (25, [l0, l1, l2, l3], .int b :: .int a :: st, M) = am_run G d K_H_lateOf (28, [l0, l1, l2, l3], .int (if a < b then b else a) :: st, M) := am_run_next (x := (.invokestatic 372, 3, 0, 2, 3140, 10)) (by decide +kernel) (if_pos h8)
theorem r_H_lateOf_28 {G : Nat → Value} {d : Nat} {st : List Value} {M : am_M} {l0 l1 l2 l3 : Option Value} {v : Int32} (hc : am_c1 l2 = true) : am_run G d K_H_lateOf (28, [l0, l1, l2, l3], .int v :: st, M) = am_run G d K_H_lateOf (29, [l0, l1, l2, some (.int v)], st, M) := by
  rcases am_c1_cases hc with rfl | ⟨q, rfl⟩ | ⟨q, rfl⟩ | rfl
  · exact am_run_next (x := (.istore_n 3, 1, 0, 0, 0, 0)) (by decide +kernel) rfl
  · exact am_run_next (x := (.istore_n 3, 1, 0, 0, 0, 0)) (by decide +kernel) rfl
  · exact am_run_next (x := (.istore_n 3, 1, 0, 0, 0, 0)) (by decide +kernel) rfl
  · exact am_run_next (x := (.istore_n 3, 1, 0, 0, 0, 0)) (by decide +kernel) rfl
theorem r_H_lateOf_28_k {G : Nat → Value} {d : Nat} {st : List Value} {M : am_M} {l0 l1 l3 : Option Value} {v : Int32} {z : Int64} : am_run G d K_H_lateOf (28, [l0, l1, some (.long z), l3], .int v :: st, M) = am_run G d K_H_lateOf (29, [l0, l1, none, some (.int v)], st, M) := am_run_next (x := (.istore_n 3, 1, 0, 0, 0, 0)) (by decide +kernel) rfl
theorem r_H_lateOf_29 {G : Nat → Value} {d : Nat} {st : List Value} {M : am_M} {l0 l2 l3 : Option Value} {v : Value} (hv : am_isr v = true) : am_run G d K_H_lateOf (29, [l0, some v, l2, l3], st, M) = am_run G d K_H_lateOf (30, [l0, some v, l2, l3], v :: st, M) := by
  rcases am_isr_cases hv with ⟨q, rfl⟩ | rfl
  · exact am_run_next (x := (.aload_n 1, 1, 0, 0, 0, 0)) (by decide +kernel) rfl
  · exact am_run_next (x := (.aload_n 1, 1, 0, 0, 0, 0)) (by decide +kernel) rfl
theorem r_H_lateOf_30 {G : Nat → Value} {d : Nat} {st : List Value} {M : am_M} {l0 l1 l2 l3 : Option Value} {a : Nat} : am_run G d K_H_lateOf (30, [l0, l1, l2, l3], .ref a :: st, M) = am_kf G d K_H_lateOf 33 [l0, l1, l2, l3] st M (am_fld M a 3 0) := am_run_kf (x := (.getfield 335, 3, 3, 0, 3072, 1)) (by decide +kernel) rfl
theorem r_H_lateOf_33 {G : Nat → Value} {d : Nat} {st : List Value} {M : am_M} {l0 l1 l2 l3 : Option Value} {a : Int32} : am_run G d K_H_lateOf (33, [l0, l1, l2, l3], .int a :: st, M) = if a = 1 then am_run G d K_H_lateOf (68, [l0, l1, l2, l3], st, M) else if a = 2 then am_run G d K_H_lateOf (86, [l0, l1, l2, l3], st, M) else if a = 3 then am_run G d K_H_lateOf (72, [l0, l1, l2, l3], st, M) else if a = 4 then am_run G d K_H_lateOf (68, [l0, l1, l2, l3], st, M) else if a = 5 then am_run G d K_H_lateOf (82, [l0, l1, l2, l3], st, M) else am_run G d K_H_lateOf (86, [l0, l1, l2, l3], st, M) := by
  by_cases h0 : a = 1
  · rw [if_pos h0]
    subst h0
    exact am_run_next (x := (.tableswitch 53 1 5 #[35, 53, 39, 35, 49], 35, 0, 0, 0, 0)) (by decide +kernel) rfl
  rw [if_neg h0]
  by_cases h1 : a = 2
  · rw [if_pos h1]
    subst h1
    exact am_run_next (x := (.tableswitch 53 1 5 #[35, 53, 39, 35, 49], 35, 0, 0, 0, 0)) (by decide +kernel) rfl
  rw [if_neg h1]
  by_cases h2 : a = 3
  · rw [if_pos h2]
    subst h2
    exact am_run_next (x := (.tableswitch 53 1 5 #[35, 53, 39, 35, 49], 35, 0, 0, 0, 0)) (by decide +kernel) rfl
  rw [if_neg h2]
  by_cases h3 : a = 4
  · rw [if_pos h3]
    subst h3
    exact am_run_next (x := (.tableswitch 53 1 5 #[35, 53, 39, 35, 49], 35, 0, 0, 0, 0)) (by decide +kernel) rfl
  rw [if_neg h3]
  by_cases h4 : a = 5
  · rw [if_pos h4]
    subst h4
    exact am_run_next (x := (.tableswitch 53 1 5 #[35, 53, 39, 35, 49], 35, 0, 0, 0, 0)) (by decide +kernel) rfl
  rw [if_neg h4]
  have g0 := am_ne_i h0 (n := 1) (by decide)
  have g1 := am_ne_i h1 (n := 2) (by decide)
  have g2 := am_ne_i h2 (n := 3) (by decide)
  have g3 := am_ne_i h3 (n := 4) (by decide)
  have g4 := am_ne_i h4 (n := 5) (by decide)
  exact am_run_next (x := (.tableswitch 53 1 5 #[35, 53, 39, 35, 49], 35, 0, 0, 0, 0)) (by decide +kernel) (if_pos (by omega))
theorem r_H_lateOf_68 {G : Nat → Value} {d : Nat} {st : List Value} {M : am_M} {l0 l1 l2 : Option Value} {v : Int32} : am_run G d K_H_lateOf (68, [l0, l1, l2, some (.int v)], st, M) = am_run G d K_H_lateOf (69, [l0, l1, l2, some (.int v)], .int v :: st, M) := am_run_next (x := (.iload_n 3, 1, 0, 0, 0, 0)) (by decide +kernel) rfl
theorem r_H_lateOf_69 {G : Nat → Value} {d : Nat} {st : List Value} {M : am_M} {l0 l1 l2 l3 : Option Value} : am_run G d K_H_lateOf (69, [l0, l1, l2, l3], st, M) = am_run G d K_H_lateOf (70, [l0, l1, l2, l3], .int 1 :: st, M) := am_run_next (x := (.iconst 1, 1, 0, 0, 0, 0)) (by decide +kernel) rfl
theorem r_H_lateOf_70 {G : Nat → Value} {d : Nat} {st : List Value} {M : am_M} {l0 l1 l2 l3 : Option Value} {a b : Int32} : am_run G d K_H_lateOf (70, [l0, l1, l2, l3], .int b :: .int a :: st, M) = am_run G d K_H_lateOf (71, [l0, l1, l2, l3], .int (a + b) :: st, M) := am_run_next (x := (.iadd, 1, 0, 0, 0, 0)) (by decide +kernel) rfl
theorem r_H_lateOf_71 {G : Nat → Value} {d : Nat} {M : am_M} {l0 l1 l2 l3 : Option Value} {a : Int32} : am_run G d K_H_lateOf (71, [l0, l1, l2, l3], [.int a], M) = some (some (.int a), M) := am_run_ret (x := (.ireturn, 1, 0, 0, 0, 0)) (by decide +kernel) rfl
theorem r_H_lateOf_72 {G : Nat → Value} {d : Nat} {st : List Value} {M : am_M} {l0 l1 l2 l3 : Option Value} : am_run G d K_H_lateOf (72, [l0, l1, l2, l3], st, M) = am_run G d K_H_lateOf (73, [l0, l1, l2, l3], .int 0 :: st, M) := am_run_next (x := (.iconst 0, 1, 0, 0, 0, 0)) (by decide +kernel) rfl
theorem r_H_lateOf_73 {G : Nat → Value} {d : Nat} {st : List Value} {M : am_M} {l0 l1 l2 : Option Value} {v : Int32} : am_run G d K_H_lateOf (73, [l0, l1, l2, some (.int v)], st, M) = am_run G d K_H_lateOf (74, [l0, l1, l2, some (.int v)], .int v :: st, M) := am_run_next (x := (.iload_n 3, 1, 0, 0, 0, 0)) (by decide +kernel) rfl
theorem r_H_lateOf_74 {G : Nat → Value} {d : Nat} {st : List Value} {M : am_M} {l0 l1 l2 l3 : Option Value} : am_run G d K_H_lateOf (74, [l0, l1, l2, l3], st, M) = am_run G d K_H_lateOf (75, [l0, l1, l2, l3], .int 1 :: st, M) := am_run_next (x := (.iconst 1, 1, 0, 0, 0, 0)) (by decide +kernel) rfl
theorem r_H_lateOf_75 {G : Nat → Value} {d : Nat} {st : List Value} {M : am_M} {l0 l1 l2 l3 : Option Value} {a b : Int32} : am_run G d K_H_lateOf (75, [l0, l1, l2, l3], .int b :: .int a :: st, M) = am_run G d K_H_lateOf (76, [l0, l1, l2, l3], .int (a + b) :: st, M) := am_run_next (x := (.iadd, 1, 0, 0, 0, 0)) (by decide +kernel) rfl
theorem r_H_lateOf_76 {G : Nat → Value} {d : Nat} {st : List Value} {M : am_M} {l0 l1 l2 l3 : Option Value} : am_run G d K_H_lateOf (76, [l0, l1, l2, l3], st, M) = am_run G d K_H_lateOf (77, [l0, l1, l2, l3], .int 4 :: st, M) := am_run_next (x := (.iconst 4, 1, 0, 0, 0, 0)) (by decide +kernel) rfl
theorem r_H_lateOf_77 {G : Nat → Value} {d : Nat} {st : List Value} {M : am_M} {l0 l1 l2 l3 : Option Value} {a b : Int32} : am_run G d K_H_lateOf (77, [l0, l1, l2, l3], .int b :: .int a :: st, M) = am_run G d K_H_lateOf (78, [l0, l1, l2, l3], .int (a - b) :: st, M) := am_run_next (x := (.isub, 1, 0, 0, 0, 0)) (by decide +kernel) rfl
theorem r_H_lateOf_78 {G : Nat → Value} {d : Nat} {st : List Value} {M : am_M} {l0 l1 l2 l3 : Option Value} {a b : Int32} (h8 : am_sw st ≤ 8) : am_run G d K_H_lateOf (78, [l0, l1, l2, l3], .int b :: .int a :: st, M) = am_run G d K_H_lateOf (81, [l0, l1, l2, l3], .int (if a < b then b else a) :: st, M) := am_run_next (x := (.invokestatic 372, 3, 0, 2, 3140, 10)) (by decide +kernel) (if_pos h8)
theorem r_H_lateOf_81 {G : Nat → Value} {d : Nat} {M : am_M} {l0 l1 l2 l3 : Option Value} {a : Int32} : am_run G d K_H_lateOf (81, [l0, l1, l2, l3], [.int a], M) = some (some (.int a), M) := am_run_ret (x := (.ireturn, 1, 0, 0, 0, 0)) (by decide +kernel) rfl
theorem r_H_lateOf_82 {G : Nat → Value} {d : Nat} {st : List Value} {M : am_M} {l0 l1 l2 : Option Value} {v : Int32} : am_run G d K_H_lateOf (82, [l0, l1, l2, some (.int v)], st, M) = am_run G d K_H_lateOf (83, [l0, l1, l2, some (.int v)], .int v :: st, M) := am_run_next (x := (.iload_n 3, 1, 0, 0, 0, 0)) (by decide +kernel) rfl
theorem r_H_lateOf_83 {G : Nat → Value} {d : Nat} {st : List Value} {M : am_M} {l0 l1 l2 l3 : Option Value} : am_run G d K_H_lateOf (83, [l0, l1, l2, l3], st, M) = am_run G d K_H_lateOf (84, [l0, l1, l2, l3], .int 2 :: st, M) := am_run_next (x := (.iconst 2, 1, 0, 0, 0, 0)) (by decide +kernel) rfl
theorem r_H_lateOf_84 {G : Nat → Value} {d : Nat} {st : List Value} {M : am_M} {l0 l1 l2 l3 : Option Value} {a b : Int32} : am_run G d K_H_lateOf (84, [l0, l1, l2, l3], .int b :: .int a :: st, M) = am_run G d K_H_lateOf (85, [l0, l1, l2, l3], .int (a * b) :: st, M) := am_run_next (x := (.imul, 1, 0, 0, 0, 0)) (by decide +kernel) rfl
theorem r_H_lateOf_85 {G : Nat → Value} {d : Nat} {M : am_M} {l0 l1 l2 l3 : Option Value} {a : Int32} : am_run G d K_H_lateOf (85, [l0, l1, l2, l3], [.int a], M) = some (some (.int a), M) := am_run_ret (x := (.ireturn, 1, 0, 0, 0, 0)) (by decide +kernel) rfl
theorem r_H_lateOf_86 {G : Nat → Value} {d : Nat} {st : List Value} {M : am_M} {l0 l1 l2 : Option Value} {v : Int32} : am_run G d K_H_lateOf (86, [l0, l1, l2, some (.int v)], st, M) = am_run G d K_H_lateOf (87, [l0, l1, l2, some (.int v)], .int v :: st, M) := am_run_next (x := (.iload_n 3, 1, 0, 0, 0, 0)) (by decide +kernel) rfl
theorem r_H_lateOf_87 {G : Nat → Value} {d : Nat} {M : am_M} {l0 l1 l2 l3 : Option Value} {a : Int32} : am_run G d K_H_lateOf (87, [l0, l1, l2, l3], [.int a], M) = some (some (.int a), M) := am_run_ret (x := (.ireturn, 1, 0, 0, 0, 0)) (by decide +kernel) rfl
theorem r_H_ruleNow_0 {G : Nat → Value} {d : Nat} {st : List Value} {M : am_M} {v : Value} (hv : am_isr v = true) : am_run G d K_H_ruleNow (0, [some v], st, M) = am_run G d K_H_ruleNow (1, [some v], v :: st, M) := by
  rcases am_isr_cases hv with ⟨q, rfl⟩ | rfl
  · exact am_run_next (x := (.aload_n 0, 1, 0, 0, 0, 0)) (by decide +kernel) rfl
  · exact am_run_next (x := (.aload_n 0, 1, 0, 0, 0, 0)) (by decide +kernel) rfl
theorem r_H_ruleNow_1 {G : Nat → Value} {d : Nat} {st : List Value} {M : am_M} {l0 : Option Value} {a : Nat} : am_run G d K_H_ruleNow (1, [l0], .ref a :: st, M) = am_kf G d K_H_ruleNow 4 [l0] st M (am_fld M a 9 10) := am_run_kf (x := (.getfield 183, 3, 9, 10, 2134, 0)) (by decide +kernel) rfl
theorem r_H_ruleNow_4 {G : Nat → Value} {d : Nat} {st : List Value} {M : am_M} {l0 : Option Value} {a : Int32} : am_run G d K_H_ruleNow (4, [l0], .int a :: st, M) = if a < 0 then am_run G d K_H_ruleNow (42, [l0], st, M) else am_run G d K_H_ruleNow (7, [l0], st, M) := by
  split
  · next h => exact am_run_next (x := (.ifCond .lt 38, 3, 0, 0, 0, 0)) (by decide +kernel) (am_br_t (decide_eq_true h) (by decide))
  · next h => exact am_run_next (x := (.ifCond .lt 38, 3, 0, 0, 0, 0)) (by decide +kernel) (am_br_f (decide_eq_false h) (by decide))
theorem r_H_ruleNow_7 {G : Nat → Value} {d : Nat} {st : List Value} {M : am_M} {v : Value} (hv : am_isr v = true) : am_run G d K_H_ruleNow (7, [some v], st, M) = am_run G d K_H_ruleNow (8, [some v], v :: st, M) := by
  rcases am_isr_cases hv with ⟨q, rfl⟩ | rfl
  · exact am_run_next (x := (.aload_n 0, 1, 0, 0, 0, 0)) (by decide +kernel) rfl
  · exact am_run_next (x := (.aload_n 0, 1, 0, 0, 0, 0)) (by decide +kernel) rfl
theorem r_H_ruleNow_8 {G : Nat → Value} {d : Nat} {st : List Value} {M : am_M} {l0 : Option Value} {a : Nat} : am_run G d K_H_ruleNow (8, [l0], .ref a :: st, M) = am_kf G d K_H_ruleNow 11 [l0] st M (am_fld M a 9 10) := am_run_kf (x := (.getfield 183, 3, 9, 10, 2134, 0)) (by decide +kernel) rfl
theorem r_H_ruleNow_11 {G : Nat → Value} {d : Nat} {st : List Value} {M : am_M} {v : Value} (hv : am_isr v = true) : am_run G d K_H_ruleNow (11, [some v], st, M) = am_run G d K_H_ruleNow (12, [some v], v :: st, M) := by
  rcases am_isr_cases hv with ⟨q, rfl⟩ | rfl
  · exact am_run_next (x := (.aload_n 0, 1, 0, 0, 0, 0)) (by decide +kernel) rfl
  · exact am_run_next (x := (.aload_n 0, 1, 0, 0, 0, 0)) (by decide +kernel) rfl
theorem r_H_ruleNow_12 {G : Nat → Value} {d : Nat} {st : List Value} {M : am_M} {l0 : Option Value} {a : Nat} : am_run G d K_H_ruleNow (12, [l0], .ref a :: st, M) = am_kf G d K_H_ruleNow 15 [l0] st M (am_fld M a 9 8) := am_run_kf (x := (.getfield 87, 3, 9, 8, 2132, 0)) (by decide +kernel) rfl
theorem r_H_ruleNow_15 {G : Nat → Value} {d : Nat} {st : List Value} {M : am_M} {l0 : Option Value} {a b : Int32} : am_run G d K_H_ruleNow (15, [l0], .int b :: .int a :: st, M) = if b ≤ a then am_run G d K_H_ruleNow (42, [l0], st, M) else am_run G d K_H_ruleNow (18, [l0], st, M) := by
  split
  · next h => exact am_run_next (x := (.if_icmp .ge 27, 3, 0, 0, 0, 0)) (by decide +kernel) (am_br_t (decide_eq_true h) (by decide))
  · next h => exact am_run_next (x := (.if_icmp .ge 27, 3, 0, 0, 0, 0)) (by decide +kernel) (am_br_f (decide_eq_false h) (by decide))
theorem r_H_ruleNow_18 {G : Nat → Value} {d : Nat} {st : List Value} {M : am_M} {v : Value} (hv : am_isr v = true) : am_run G d K_H_ruleNow (18, [some v], st, M) = am_run G d K_H_ruleNow (19, [some v], v :: st, M) := by
  rcases am_isr_cases hv with ⟨q, rfl⟩ | rfl
  · exact am_run_next (x := (.aload_n 0, 1, 0, 0, 0, 0)) (by decide +kernel) rfl
  · exact am_run_next (x := (.aload_n 0, 1, 0, 0, 0, 0)) (by decide +kernel) rfl
theorem r_H_ruleNow_19 {G : Nat → Value} {d : Nat} {st : List Value} {M : am_M} {l0 : Option Value} {a : Nat} : am_run G d K_H_ruleNow (19, [l0], .ref a :: st, M) = am_kf G d K_H_ruleNow 22 [l0] st M (am_fld M a 9 10) := am_run_kf (x := (.getfield 183, 3, 9, 10, 2134, 0)) (by decide +kernel) rfl
theorem r_H_ruleNow_22 {G : Nat → Value} {d : Nat} {st : List Value} {M : am_M} {v : Value} (hv : am_isr v = true) : am_run G d K_H_ruleNow (22, [some v], st, M) = am_run G d K_H_ruleNow (23, [some v], v :: st, M) := by
  rcases am_isr_cases hv with ⟨q, rfl⟩ | rfl
  · exact am_run_next (x := (.aload_n 0, 1, 0, 0, 0, 0)) (by decide +kernel) rfl
  · exact am_run_next (x := (.aload_n 0, 1, 0, 0, 0, 0)) (by decide +kernel) rfl
theorem r_H_ruleNow_23 {G : Nat → Value} {d : Nat} {st : List Value} {M : am_M} {l0 : Option Value} {a : Nat} : am_run G d K_H_ruleNow (23, [l0], .ref a :: st, M) = am_kf G d K_H_ruleNow 26 [l0] st M (am_fld M a 9 3) := am_run_kf (x := (.getfield 29, 3, 9, 3, 2127, 0)) (by decide +kernel) rfl
theorem r_H_ruleNow_26 {G : Nat → Value} {d : Nat} {st : List Value} {M : am_M} {l0 : Option Value} {a : Nat} : am_run G d K_H_ruleNow (26, [l0], .ref a :: st, M) = am_kn G d K_H_ruleNow 27 [l0] st M (am_len M a) := am_run_kn (x := (.arraylength, 1, 0, 0, 0, 0)) (by decide +kernel) rfl
theorem r_H_ruleNow_27 {G : Nat → Value} {d : Nat} {st : List Value} {M : am_M} {l0 : Option Value} {a b : Int32} : am_run G d K_H_ruleNow (27, [l0], .int b :: .int a :: st, M) = if b ≤ a then am_run G d K_H_ruleNow (42, [l0], st, M) else am_run G d K_H_ruleNow (30, [l0], st, M) := by
  split
  · next h => exact am_run_next (x := (.if_icmp .ge 15, 3, 0, 0, 0, 0)) (by decide +kernel) (am_br_t (decide_eq_true h) (by decide))
  · next h => exact am_run_next (x := (.if_icmp .ge 15, 3, 0, 0, 0, 0)) (by decide +kernel) (am_br_f (decide_eq_false h) (by decide))
theorem r_H_ruleNow_30 {G : Nat → Value} {d : Nat} {st : List Value} {M : am_M} {v : Value} (hv : am_isr v = true) : am_run G d K_H_ruleNow (30, [some v], st, M) = am_run G d K_H_ruleNow (31, [some v], v :: st, M) := by
  rcases am_isr_cases hv with ⟨q, rfl⟩ | rfl
  · exact am_run_next (x := (.aload_n 0, 1, 0, 0, 0, 0)) (by decide +kernel) rfl
  · exact am_run_next (x := (.aload_n 0, 1, 0, 0, 0, 0)) (by decide +kernel) rfl
theorem r_H_ruleNow_31 {G : Nat → Value} {d : Nat} {st : List Value} {M : am_M} {l0 : Option Value} {a : Nat} : am_run G d K_H_ruleNow (31, [l0], .ref a :: st, M) = am_kf G d K_H_ruleNow 34 [l0] st M (am_fld M a 9 3) := am_run_kf (x := (.getfield 29, 3, 9, 3, 2127, 0)) (by decide +kernel) rfl
theorem r_H_ruleNow_34 {G : Nat → Value} {d : Nat} {st : List Value} {M : am_M} {v : Value} (hv : am_isr v = true) : am_run G d K_H_ruleNow (34, [some v], st, M) = am_run G d K_H_ruleNow (35, [some v], v :: st, M) := by
  rcases am_isr_cases hv with ⟨q, rfl⟩ | rfl
  · exact am_run_next (x := (.aload_n 0, 1, 0, 0, 0, 0)) (by decide +kernel) rfl
  · exact am_run_next (x := (.aload_n 0, 1, 0, 0, 0, 0)) (by decide +kernel) rfl
theorem r_H_ruleNow_35 {G : Nat → Value} {d : Nat} {st : List Value} {M : am_M} {l0 : Option Value} {a : Nat} : am_run G d K_H_ruleNow (35, [l0], .ref a :: st, M) = am_kf G d K_H_ruleNow 38 [l0] st M (am_fld M a 9 10) := am_run_kf (x := (.getfield 183, 3, 9, 10, 2134, 0)) (by decide +kernel) rfl
theorem r_H_ruleNow_38 {G : Nat → Value} {d : Nat} {st : List Value} {M : am_M} {l0 : Option Value} {a : Nat} {i : Int32} : am_run G d K_H_ruleNow (38, [l0], .int i :: .ref a :: st, M) = am_kf G d K_H_ruleNow 39 [l0] st M (am_ag 3 M a i) := am_run_kf (x := (.aaload, 1, 0, 0, 0, 0)) (by decide +kernel) rfl
theorem r_H_ruleNow_39 {G : Nat → Value} {d : Nat} {st : List Value} {M : am_M} {l0 : Option Value} : am_run G d K_H_ruleNow (39, [l0], st, M) = am_run G d K_H_ruleNow (43, [l0], st, M) := am_run_next (x := (.goto 4, 3, 0, 0, 0, 0)) (by decide +kernel) rfl
theorem r_H_ruleNow_42 {G : Nat → Value} {d : Nat} {st : List Value} {M : am_M} {l0 : Option Value} : am_run G d K_H_ruleNow (42, [l0], st, M) = am_run G d K_H_ruleNow (43, [l0], .null :: st, M) := am_run_next (x := (.aconst_null, 1, 0, 0, 0, 0)) (by decide +kernel) rfl
theorem r_H_ruleNow_43 {G : Nat → Value} {d : Nat} {M : am_M} {l0 : Option Value} {v : Value} (hv : am_isr v = true) : am_run G d K_H_ruleNow (43, [l0], [v], M) = some (some v, M) := am_run_ret (x := (.areturn, 1, 0, 0, 0, 0)) (by decide +kernel) (if_pos ⟨hv, rfl⟩)
theorem r_Te_lateOf_0 {G : Nat → Value} {d : Nat} {st : List Value} {M : am_M} {l1 : Option Value} {v : Value} (hv : am_isr v = true) : am_run G d K_Te_lateOf (0, [some v, l1], st, M) = am_run G d K_Te_lateOf (1, [some v, l1], v :: st, M) := by
  rcases am_isr_cases hv with ⟨q, rfl⟩ | rfl
  · exact am_run_next (x := (.aload_n 0, 1, 0, 0, 0, 0)) (by decide +kernel) rfl
  · exact am_run_next (x := (.aload_n 0, 1, 0, 0, 0, 0)) (by decide +kernel) rfl
theorem r_Te_lateOf_1 {G : Nat → Value} {d : Nat} {st : List Value} {M : am_M} {l1 : Option Value} {v : Value} (hv : am_isr v = true) : am_run G d K_Te_lateOf (1, [some v, l1], st, M) = am_run G d K_Te_lateOf (2, [some v, l1], v :: st, M) := by
  rcases am_isr_cases hv with ⟨q, rfl⟩ | rfl
  · exact am_run_next (x := (.aload_n 0, 1, 0, 0, 0, 0)) (by decide +kernel) rfl
  · exact am_run_next (x := (.aload_n 0, 1, 0, 0, 0, 0)) (by decide +kernel) rfl
theorem r_Te_lateOf_2 {G : Nat → Value} {d : Nat} {st : List Value} {M : am_M} {l0 l1 : Option Value} {a : Nat} : am_run G d K_Te_lateOf (2, [l0, l1], .ref a :: st, M) = am_kf G d K_Te_lateOf 5 [l0, l1] st M (am_fld M a 8 0) := am_run_kf (x := (.getfield 7, 3, 8, 0, 2095, 0)) (by decide +kernel) rfl
theorem r_Te_lateOf_5 {G : Nat → Value} {d : Nat} {st : List Value} {M : am_M} {l0 : Option Value} {v : Value} (hv : am_isr v = true) : am_run G d K_Te_lateOf (5, [l0, some v], st, M) = am_run G d K_Te_lateOf (6, [l0, some v], v :: st, M) := by
  rcases am_isr_cases hv with ⟨q, rfl⟩ | rfl
  · exact am_run_next (x := (.aload_n 1, 1, 0, 0, 0, 0)) (by decide +kernel) rfl
  · exact am_run_next (x := (.aload_n 1, 1, 0, 0, 0, 0)) (by decide +kernel) rfl
theorem r_Te_lateOf_6 {G : Nat → Value} {d : Nat} {st : List Value} {M : am_M} {l0 l1 : Option Value} {q : Nat} {a0 : Value} {a1 : Value} (h0 : am_isr a0 = true) (h1 : am_isr a1 = true) (hq : am_cls M q = some 8) (h8 : am_sw st ≤ 8) : am_run G d K_Te_lateOf (6, [l0, l1], a1 :: a0 :: .ref q :: st, M) = am_k G d K_Te_lateOf 9 [l0, l1] st (am_ex G d K_Te_workOff [.ref q, a0, a1] M) := by
  have he : (am_exp [.ref q, a0, a1]).length ≤ am_mL K_Te_workOff := by
    rcases am_isr_cases h0 with ⟨z0, rfl⟩ | rfl <;> rcases am_isr_cases h1 with ⟨z1, rfl⟩ | rfl <;> exact Nat.le_of_ble_eq_true rfl
  exact am_run_iv (i := 25) (n := 2) (pl := 3128) (Bs := [a0, a1]) (z := K_Te_workOff) (by decide +kernel) hq h8 rfl he rfl
theorem r_Te_lateOf_9 {G : Nat → Value} {d : Nat} {M : am_M} {l0 l1 : Option Value} {a : Int32} : am_run G d K_Te_lateOf (9, [l0, l1], [.int a], M) = some (some (.int a), M) := am_run_ret (x := (.ireturn, 1, 0, 0, 0, 0)) (by decide +kernel) rfl
theorem r_Te_workOff_0 {G : Nat → Value} {d : Nat} {st : List Value} {M : am_M} {l0 l1 l2 l3 l4 l5 : Option Value} : am_run G d K_Te_workOff (0, [l0, l1, l2, l3, l4, l5], st, M) = am_run G d K_Te_workOff (1, [l0, l1, l2, l3, l4, l5], .int 0 :: st, M) := am_run_next (x := (.iconst 0, 1, 0, 0, 0, 0)) (by decide +kernel) rfl
theorem r_Te_workOff_1 {G : Nat → Value} {d : Nat} {st : List Value} {M : am_M} {l0 l1 l2 l3 l4 l5 : Option Value} {v : Int32} (hc : am_c1 l2 = true) : am_run G d K_Te_workOff (1, [l0, l1, l2, l3, l4, l5], .int v :: st, M) = am_run G d K_Te_workOff (2, [l0, l1, l2, some (.int v), l4, l5], st, M) := by
  rcases am_c1_cases hc with rfl | ⟨q, rfl⟩ | ⟨q, rfl⟩ | rfl
  · exact am_run_next (x := (.istore_n 3, 1, 0, 0, 0, 0)) (by decide +kernel) rfl
  · exact am_run_next (x := (.istore_n 3, 1, 0, 0, 0, 0)) (by decide +kernel) rfl
  · exact am_run_next (x := (.istore_n 3, 1, 0, 0, 0, 0)) (by decide +kernel) rfl
  · exact am_run_next (x := (.istore_n 3, 1, 0, 0, 0, 0)) (by decide +kernel) rfl
theorem r_Te_workOff_1_k {G : Nat → Value} {d : Nat} {st : List Value} {M : am_M} {l0 l1 l3 l4 l5 : Option Value} {v : Int32} {z : Int64} : am_run G d K_Te_workOff (1, [l0, l1, some (.long z), l3, l4, l5], .int v :: st, M) = am_run G d K_Te_workOff (2, [l0, l1, none, some (.int v), l4, l5], st, M) := am_run_next (x := (.istore_n 3, 1, 0, 0, 0, 0)) (by decide +kernel) rfl
theorem r_Te_workOff_2 {G : Nat → Value} {d : Nat} {st : List Value} {M : am_M} {l0 l1 l2 l3 l4 l5 : Option Value} : am_run G d K_Te_workOff (2, [l0, l1, l2, l3, l4, l5], st, M) = am_run G d K_Te_workOff (3, [l0, l1, l2, l3, l4, l5], .int 0 :: st, M) := am_run_next (x := (.iconst 0, 1, 0, 0, 0, 0)) (by decide +kernel) rfl
theorem r_Te_workOff_3 {G : Nat → Value} {d : Nat} {st : List Value} {M : am_M} {l0 l1 l2 l3 l4 l5 : Option Value} {v : Int32} (hc : am_c1 l3 = true) : am_run G d K_Te_workOff (3, [l0, l1, l2, l3, l4, l5], .int v :: st, M) = am_run G d K_Te_workOff (5, [l0, l1, l2, l3, some (.int v), l5], st, M) := by
  rcases am_c1_cases hc with rfl | ⟨q, rfl⟩ | ⟨q, rfl⟩ | rfl
  · exact am_run_next (x := (.istore 4, 2, 0, 0, 0, 0)) (by decide +kernel) rfl
  · exact am_run_next (x := (.istore 4, 2, 0, 0, 0, 0)) (by decide +kernel) rfl
  · exact am_run_next (x := (.istore 4, 2, 0, 0, 0, 0)) (by decide +kernel) rfl
  · exact am_run_next (x := (.istore 4, 2, 0, 0, 0, 0)) (by decide +kernel) rfl
theorem r_Te_workOff_3_k {G : Nat → Value} {d : Nat} {st : List Value} {M : am_M} {l0 l1 l2 l4 l5 : Option Value} {v : Int32} {z : Int64} : am_run G d K_Te_workOff (3, [l0, l1, l2, some (.long z), l4, l5], .int v :: st, M) = am_run G d K_Te_workOff (5, [l0, l1, l2, none, some (.int v), l5], st, M) := am_run_next (x := (.istore 4, 2, 0, 0, 0, 0)) (by decide +kernel) rfl
theorem r_Te_workOff_5 {G : Nat → Value} {d : Nat} {st : List Value} {M : am_M} {l0 l1 l2 l3 l5 : Option Value} {v : Int32} : am_run G d K_Te_workOff (5, [l0, l1, l2, l3, some (.int v), l5], st, M) = am_run G d K_Te_workOff (7, [l0, l1, l2, l3, some (.int v), l5], .int v :: st, M) := am_run_next (x := (.iload 4, 2, 0, 0, 0, 0)) (by decide +kernel) rfl
theorem r_Te_workOff_7 {G : Nat → Value} {d : Nat} {st : List Value} {M : am_M} {l0 l2 l3 l4 l5 : Option Value} {v : Value} (hv : am_isr v = true) : am_run G d K_Te_workOff (7, [l0, some v, l2, l3, l4, l5], st, M) = am_run G d K_Te_workOff (8, [l0, some v, l2, l3, l4, l5], v :: st, M) := by
  rcases am_isr_cases hv with ⟨q, rfl⟩ | rfl
  · exact am_run_next (x := (.aload_n 1, 1, 0, 0, 0, 0)) (by decide +kernel) rfl
  · exact am_run_next (x := (.aload_n 1, 1, 0, 0, 0, 0)) (by decide +kernel) rfl
theorem r_Te_workOff_8 {G : Nat → Value} {d : Nat} {st : List Value} {M : am_M} {l0 l1 l2 l3 l4 l5 : Option Value} {a : Nat} : am_run G d K_Te_workOff (8, [l0, l1, l2, l3, l4, l5], .ref a :: st, M) = am_kn G d K_Te_workOff 9 [l0, l1, l2, l3, l4, l5] st M (am_len M a) := am_run_kn (x := (.arraylength, 1, 0, 0, 0, 0)) (by decide +kernel) rfl
theorem r_Te_workOff_9 {G : Nat → Value} {d : Nat} {st : List Value} {M : am_M} {l0 l1 l2 l3 l4 l5 : Option Value} {a b : Int32} : am_run G d K_Te_workOff (9, [l0, l1, l2, l3, l4, l5], .int b :: .int a :: st, M) = if b ≤ a then am_run G d K_Te_workOff (169, [l0, l1, l2, l3, l4, l5], st, M) else am_run G d K_Te_workOff (12, [l0, l1, l2, l3, l4, l5], st, M) := by
  split
  · next h => exact am_run_next (x := (.if_icmp .ge 160, 3, 0, 0, 0, 0)) (by decide +kernel) (am_br_t (decide_eq_true h) (by decide))
  · next h => exact am_run_next (x := (.if_icmp .ge 160, 3, 0, 0, 0, 0)) (by decide +kernel) (am_br_f (decide_eq_false h) (by decide))
theorem r_Te_workOff_12 {G : Nat → Value} {d : Nat} {st : List Value} {M : am_M} {l0 l2 l3 l4 l5 : Option Value} {v : Value} (hv : am_isr v = true) : am_run G d K_Te_workOff (12, [l0, some v, l2, l3, l4, l5], st, M) = am_run G d K_Te_workOff (13, [l0, some v, l2, l3, l4, l5], v :: st, M) := by
  rcases am_isr_cases hv with ⟨q, rfl⟩ | rfl
  · exact am_run_next (x := (.aload_n 1, 1, 0, 0, 0, 0)) (by decide +kernel) rfl
  · exact am_run_next (x := (.aload_n 1, 1, 0, 0, 0, 0)) (by decide +kernel) rfl
theorem r_Te_workOff_13 {G : Nat → Value} {d : Nat} {st : List Value} {M : am_M} {l0 l1 l2 l3 l5 : Option Value} {v : Int32} : am_run G d K_Te_workOff (13, [l0, l1, l2, l3, some (.int v), l5], st, M) = am_run G d K_Te_workOff (15, [l0, l1, l2, l3, some (.int v), l5], .int v :: st, M) := am_run_next (x := (.iload 4, 2, 0, 0, 0, 0)) (by decide +kernel) rfl
theorem r_Te_workOff_15 {G : Nat → Value} {d : Nat} {st : List Value} {M : am_M} {l0 l1 l2 l3 l4 l5 : Option Value} {a : Nat} {i : Int32} : am_run G d K_Te_workOff (15, [l0, l1, l2, l3, l4, l5], .int i :: .ref a :: st, M) = am_kf G d K_Te_workOff 16 [l0, l1, l2, l3, l4, l5] st M (am_ag 0 M a i) := am_run_kf (x := (.iaload, 1, 0, 0, 0, 0)) (by decide +kernel) rfl
theorem r_Te_workOff_16 {G : Nat → Value} {d : Nat} {st : List Value} {M : am_M} {l0 l1 l2 l3 l4 l5 : Option Value} {v : Int32} (hc : am_c1 l4 = true) : am_run G d K_Te_workOff (16, [l0, l1, l2, l3, l4, l5], .int v :: st, M) = am_run G d K_Te_workOff (18, [l0, l1, l2, l3, l4, some (.int v)], st, M) := by
  rcases am_c1_cases hc with rfl | ⟨q, rfl⟩ | ⟨q, rfl⟩ | rfl
  · exact am_run_next (x := (.istore 5, 2, 0, 0, 0, 0)) (by decide +kernel) rfl
  · exact am_run_next (x := (.istore 5, 2, 0, 0, 0, 0)) (by decide +kernel) rfl
  · exact am_run_next (x := (.istore 5, 2, 0, 0, 0, 0)) (by decide +kernel) rfl
  · exact am_run_next (x := (.istore 5, 2, 0, 0, 0, 0)) (by decide +kernel) rfl
theorem r_Te_workOff_16_k {G : Nat → Value} {d : Nat} {st : List Value} {M : am_M} {l0 l1 l2 l3 l5 : Option Value} {v : Int32} {z : Int64} : am_run G d K_Te_workOff (16, [l0, l1, l2, l3, some (.long z), l5], .int v :: st, M) = am_run G d K_Te_workOff (18, [l0, l1, l2, l3, none, some (.int v)], st, M) := am_run_next (x := (.istore 5, 2, 0, 0, 0, 0)) (by decide +kernel) rfl
theorem r_Te_workOff_18 {G : Nat → Value} {d : Nat} {st : List Value} {M : am_M} {l0 l1 l2 l3 l4 : Option Value} {v : Int32} : am_run G d K_Te_workOff (18, [l0, l1, l2, l3, l4, some (.int v)], st, M) = am_run G d K_Te_workOff (20, [l0, l1, l2, l3, l4, some (.int v)], .int v :: st, M) := am_run_next (x := (.iload 5, 2, 0, 0, 0, 0)) (by decide +kernel) rfl
theorem r_Te_workOff_20 {G : Nat → Value} {d : Nat} {st : List Value} {M : am_M} {l0 l1 l2 l3 l4 l5 : Option Value} : am_run G d K_Te_workOff (20, [l0, l1, l2, l3, l4, l5], st, M) = am_run G d K_Te_workOff (22, [l0, l1, l2, l3, l4, l5], .int (-6) :: st, M) := am_run_next (x := (.bipush (-6), 2, 0, 0, 0, 0)) (by decide +kernel) rfl
theorem r_Te_workOff_22 {G : Nat → Value} {d : Nat} {st : List Value} {M : am_M} {l0 l1 l2 l3 l4 l5 : Option Value} {a b : Int32} : am_run G d K_Te_workOff (22, [l0, l1, l2, l3, l4, l5], .int b :: .int a :: st, M) = if a < b then am_run G d K_Te_workOff (66, [l0, l1, l2, l3, l4, l5], st, M) else am_run G d K_Te_workOff (25, [l0, l1, l2, l3, l4, l5], st, M) := by
  split
  · next h => exact am_run_next (x := (.if_icmp .lt 44, 3, 0, 0, 0, 0)) (by decide +kernel) (am_br_t (decide_eq_true h) (by decide))
  · next h => exact am_run_next (x := (.if_icmp .lt 44, 3, 0, 0, 0, 0)) (by decide +kernel) (am_br_f (decide_eq_false h) (by decide))
theorem r_Te_workOff_25 {G : Nat → Value} {d : Nat} {st : List Value} {M : am_M} {l0 l1 l2 l4 l5 : Option Value} {v : Int32} : am_run G d K_Te_workOff (25, [l0, l1, l2, some (.int v), l4, l5], st, M) = am_run G d K_Te_workOff (26, [l0, l1, l2, some (.int v), l4, l5], .int v :: st, M) := am_run_next (x := (.iload_n 3, 1, 0, 0, 0, 0)) (by decide +kernel) rfl
theorem r_Te_workOff_26 {G : Nat → Value} {d : Nat} {st : List Value} {M : am_M} {l1 l2 l3 l4 l5 : Option Value} {v : Value} (hv : am_isr v = true) : am_run G d K_Te_workOff (26, [some v, l1, l2, l3, l4, l5], st, M) = am_run G d K_Te_workOff (27, [some v, l1, l2, l3, l4, l5], v :: st, M) := by
  rcases am_isr_cases hv with ⟨q, rfl⟩ | rfl
  · exact am_run_next (x := (.aload_n 0, 1, 0, 0, 0, 0)) (by decide +kernel) rfl
  · exact am_run_next (x := (.aload_n 0, 1, 0, 0, 0, 0)) (by decide +kernel) rfl
theorem r_Te_workOff_27 {G : Nat → Value} {d : Nat} {st : List Value} {M : am_M} {l0 l1 l2 l3 l4 l5 : Option Value} {a : Nat} : am_run G d K_Te_workOff (27, [l0, l1, l2, l3, l4, l5], .ref a :: st, M) = am_kf G d K_Te_workOff 30 [l0, l1, l2, l3, l4, l5] st M (am_fld M a 8 2) := am_run_kf (x := (.getfield 22, 3, 8, 2, 2097, 0)) (by decide +kernel) rfl
theorem r_Te_workOff_30 {G : Nat → Value} {d : Nat} {st : List Value} {M : am_M} {l0 l1 l2 l3 l4 l5 : Option Value} {a : Nat} : am_run G d K_Te_workOff (30, [l0, l1, l2, l3, l4, l5], .ref a :: st, M) = am_kn G d K_Te_workOff 31 [l0, l1, l2, l3, l4, l5] st M (am_len M a) := am_run_kn (x := (.arraylength, 1, 0, 0, 0, 0)) (by decide +kernel) rfl
theorem r_Te_workOff_31 {G : Nat → Value} {d : Nat} {st : List Value} {M : am_M} {l0 l1 l2 l3 l4 l5 : Option Value} {a b : Int32} : am_run G d K_Te_workOff (31, [l0, l1, l2, l3, l4, l5], .int b :: .int a :: st, M) = if a < b then am_run G d K_Te_workOff (36, [l0, l1, l2, l3, l4, l5], st, M) else am_run G d K_Te_workOff (34, [l0, l1, l2, l3, l4, l5], st, M) := by
  split
  · next h => exact am_run_next (x := (.if_icmp .lt 5, 3, 0, 0, 0, 0)) (by decide +kernel) (am_br_t (decide_eq_true h) (by decide))
  · next h => exact am_run_next (x := (.if_icmp .lt 5, 3, 0, 0, 0, 0)) (by decide +kernel) (am_br_f (decide_eq_false h) (by decide))
theorem r_Te_workOff_34 {G : Nat → Value} {d : Nat} {st : List Value} {M : am_M} {l0 l1 l2 l3 l4 l5 : Option Value} : am_run G d K_Te_workOff (34, [l0, l1, l2, l3, l4, l5], st, M) = am_run G d K_Te_workOff (35, [l0, l1, l2, l3, l4, l5], .int 0 :: st, M) := am_run_next (x := (.iconst 0, 1, 0, 0, 0, 0)) (by decide +kernel) rfl
theorem r_Te_workOff_35 {G : Nat → Value} {d : Nat} {M : am_M} {l0 l1 l2 l3 l4 l5 : Option Value} {a : Int32} : am_run G d K_Te_workOff (35, [l0, l1, l2, l3, l4, l5], [.int a], M) = some (some (.int a), M) := am_run_ret (x := (.ireturn, 1, 0, 0, 0, 0)) (by decide +kernel) rfl
theorem r_Te_workOff_36 {G : Nat → Value} {d : Nat} {st : List Value} {M : am_M} {l1 l2 l3 l4 l5 : Option Value} {v : Value} (hv : am_isr v = true) : am_run G d K_Te_workOff (36, [some v, l1, l2, l3, l4, l5], st, M) = am_run G d K_Te_workOff (37, [some v, l1, l2, l3, l4, l5], v :: st, M) := by
  rcases am_isr_cases hv with ⟨q, rfl⟩ | rfl
  · exact am_run_next (x := (.aload_n 0, 1, 0, 0, 0, 0)) (by decide +kernel) rfl
  · exact am_run_next (x := (.aload_n 0, 1, 0, 0, 0, 0)) (by decide +kernel) rfl
theorem r_Te_workOff_37 {G : Nat → Value} {d : Nat} {st : List Value} {M : am_M} {l0 l1 l2 l3 l4 l5 : Option Value} {a : Nat} : am_run G d K_Te_workOff (37, [l0, l1, l2, l3, l4, l5], .ref a :: st, M) = am_kf G d K_Te_workOff 40 [l0, l1, l2, l3, l4, l5] st M (am_fld M a 8 2) := am_run_kf (x := (.getfield 22, 3, 8, 2, 2097, 0)) (by decide +kernel) rfl
theorem r_Te_workOff_40 {G : Nat → Value} {d : Nat} {st : List Value} {M : am_M} {l0 l1 l2 l4 l5 : Option Value} {v : Int32} : am_run G d K_Te_workOff (40, [l0, l1, l2, some (.int v), l4, l5], st, M) = am_run G d K_Te_workOff (41, [l0, l1, l2, some (.int v), l4, l5], .int v :: st, M) := am_run_next (x := (.iload_n 3, 1, 0, 0, 0, 0)) (by decide +kernel) rfl
theorem r_Te_workOff_41 {G : Nat → Value} {d : Nat} {st : List Value} {M : am_M} {l0 l1 l2 l3 l4 : Option Value} {v : Int32} : am_run G d K_Te_workOff (41, [l0, l1, l2, l3, l4, some (.int v)], st, M) = am_run G d K_Te_workOff (43, [l0, l1, l2, l3, l4, some (.int v)], .int v :: st, M) := am_run_next (x := (.iload 5, 2, 0, 0, 0, 0)) (by decide +kernel) rfl
theorem r_Te_workOff_43 {G : Nat → Value} {d : Nat} {st : List Value} {M : am_M} {l0 l1 l2 l3 l4 l5 : Option Value} {a : Int32} : am_run G d K_Te_workOff (43, [l0, l1, l2, l3, l4, l5], .int a :: st, M) = if a < 0 then am_run G d K_Te_workOff (51, [l0, l1, l2, l3, l4, l5], st, M) else am_run G d K_Te_workOff (46, [l0, l1, l2, l3, l4, l5], st, M) := by
  split
  · next h => exact am_run_next (x := (.ifCond .lt 8, 3, 0, 0, 0, 0)) (by decide +kernel) (am_br_t (decide_eq_true h) (by decide))
  · next h => exact am_run_next (x := (.ifCond .lt 8, 3, 0, 0, 0, 0)) (by decide +kernel) (am_br_f (decide_eq_false h) (by decide))
theorem r_Te_workOff_46 {G : Nat → Value} {d : Nat} {st : List Value} {M : am_M} {l0 l1 l2 l3 l4 : Option Value} {v : Int32} : am_run G d K_Te_workOff (46, [l0, l1, l2, l3, l4, some (.int v)], st, M) = am_run G d K_Te_workOff (48, [l0, l1, l2, l3, l4, some (.int v)], .int v :: st, M) := am_run_next (x := (.iload 5, 2, 0, 0, 0, 0)) (by decide +kernel) rfl
theorem r_Te_workOff_48 {G : Nat → Value} {d : Nat} {st : List Value} {M : am_M} {l0 l1 l2 l3 l4 l5 : Option Value} : am_run G d K_Te_workOff (48, [l0, l1, l2, l3, l4, l5], st, M) = am_run G d K_Te_workOff (59, [l0, l1, l2, l3, l4, l5], st, M) := am_run_next (x := (.goto 11, 3, 0, 0, 0, 0)) (by decide +kernel) rfl
theorem r_Te_workOff_51 {G : Nat → Value} {d : Nat} {st : List Value} {M : am_M} {l0 l1 l3 l4 l5 : Option Value} {v : Value} (hv : am_isr v = true) : am_run G d K_Te_workOff (51, [l0, l1, some v, l3, l4, l5], st, M) = am_run G d K_Te_workOff (52, [l0, l1, some v, l3, l4, l5], v :: st, M) := by
  rcases am_isr_cases hv with ⟨q, rfl⟩ | rfl
  · exact am_run_next (x := (.aload_n 2, 1, 0, 0, 0, 0)) (by decide +kernel) rfl
  · exact am_run_next (x := (.aload_n 2, 1, 0, 0, 0, 0)) (by decide +kernel) rfl
theorem r_Te_workOff_52 {G : Nat → Value} {d : Nat} {st : List Value} {M : am_M} {l0 l1 l2 l3 l4 l5 : Option Value} : am_run G d K_Te_workOff (52, [l0, l1, l2, l3, l4, l5], st, M) = am_run G d K_Te_workOff (53, [l0, l1, l2, l3, l4, l5], .int (-1) :: st, M) := am_run_next (x := (.iconst (-1), 1, 0, 0, 0, 0)) (by decide +kernel) rfl
theorem r_Te_workOff_53 {G : Nat → Value} {d : Nat} {st : List Value} {M : am_M} {l0 l1 l2 l3 l4 : Option Value} {v : Int32} : am_run G d K_Te_workOff (53, [l0, l1, l2, l3, l4, some (.int v)], st, M) = am_run G d K_Te_workOff (55, [l0, l1, l2, l3, l4, some (.int v)], .int v :: st, M) := am_run_next (x := (.iload 5, 2, 0, 0, 0, 0)) (by decide +kernel) rfl
theorem r_Te_workOff_55 {G : Nat → Value} {d : Nat} {st : List Value} {M : am_M} {l0 l1 l2 l3 l4 l5 : Option Value} {a b : Int32} : am_run G d K_Te_workOff (55, [l0, l1, l2, l3, l4, l5], .int b :: .int a :: st, M) = am_run G d K_Te_workOff (56, [l0, l1, l2, l3, l4, l5], .int (a - b) :: st, M) := am_run_next (x := (.isub, 1, 0, 0, 0, 0)) (by decide +kernel) rfl
theorem r_Te_workOff_56 {G : Nat → Value} {d : Nat} {st : List Value} {M : am_M} {l0 l1 l2 l3 l4 l5 : Option Value} {q : Nat} {a0 : Int32} (hq : am_cls M q = some 3) (h8 : am_sw st ≤ 8) : am_run G d K_Te_workOff (56, [l0, l1, l2, l3, l4, l5], .int a0 :: .ref q :: st, M) = am_k G d K_Te_workOff 59 [l0, l1, l2, l3, l4, l5] st (am_ex G d K_Ni_part [.ref q, .int a0] M) := am_run_iv (i := 29) (n := 1) (pl := 3132) (Bs := [.int a0]) (z := K_Ni_part) (by decide +kernel) hq h8 rfl (Nat.le_of_ble_eq_true rfl) rfl
theorem r_Te_workOff_59 {G : Nat → Value} {d : Nat} {st : List Value} {M : am_M} {l0 l1 l2 l3 l4 l5 : Option Value} {a : Nat} {i x : Int32} : am_run G d K_Te_workOff (59, [l0, l1, l2, l3, l4, l5], .int x :: .int i :: .ref a :: st, M) = am_km G d K_Te_workOff 60 [l0, l1, l2, l3, l4, l5] st (am_pi M a i x) := am_run_km (x := (.iastore, 1, 0, 0, 0, 0)) (by decide +kernel) rfl
theorem r_Te_workOff_60 {G : Nat → Value} {d : Nat} {st : List Value} {M : am_M} {l0 l1 l2 l4 l5 : Option Value} {v : Int32} (hc : am_c1 l2 = true) : am_run G d K_Te_workOff (60, [l0, l1, l2, some (.int v), l4, l5], st, M) = am_run G d K_Te_workOff (63, [l0, l1, l2, some (.int (v + 1)), l4, l5], st, M) := by
  rcases am_c1_cases hc with rfl | ⟨q, rfl⟩ | ⟨q, rfl⟩ | rfl
  · exact am_run_next (x := (.iinc 3 1, 3, 0, 0, 0, 0)) (by decide +kernel) rfl
  · exact am_run_next (x := (.iinc 3 1, 3, 0, 0, 0, 0)) (by decide +kernel) rfl
  · exact am_run_next (x := (.iinc 3 1, 3, 0, 0, 0, 0)) (by decide +kernel) rfl
  · exact am_run_next (x := (.iinc 3 1, 3, 0, 0, 0, 0)) (by decide +kernel) rfl
theorem r_Te_workOff_60_k {G : Nat → Value} {d : Nat} {st : List Value} {M : am_M} {l0 l1 l4 l5 : Option Value} {v : Int32} {z : Int64} : am_run G d K_Te_workOff (60, [l0, l1, some (.long z), some (.int v), l4, l5], st, M) = am_run G d K_Te_workOff (63, [l0, l1, none, some (.int (v + 1)), l4, l5], st, M) := am_run_next (x := (.iinc 3 1, 3, 0, 0, 0, 0)) (by decide +kernel) rfl
theorem r_Te_workOff_63 {G : Nat → Value} {d : Nat} {st : List Value} {M : am_M} {l0 l1 l2 l3 l4 l5 : Option Value} : am_run G d K_Te_workOff (63, [l0, l1, l2, l3, l4, l5], st, M) = am_run G d K_Te_workOff (163, [l0, l1, l2, l3, l4, l5], st, M) := am_run_next (x := (.goto 100, 3, 0, 0, 0, 0)) (by decide +kernel) rfl
theorem r_Te_workOff_66 {G : Nat → Value} {d : Nat} {st : List Value} {M : am_M} {l0 l1 l2 l3 l4 : Option Value} {v : Int32} : am_run G d K_Te_workOff (66, [l0, l1, l2, l3, l4, some (.int v)], st, M) = am_run G d K_Te_workOff (68, [l0, l1, l2, l3, l4, some (.int v)], .int v :: st, M) := am_run_next (x := (.iload 5, 2, 0, 0, 0, 0)) (by decide +kernel) rfl
theorem r_Te_workOff_68 {G : Nat → Value} {d : Nat} {st : List Value} {M : am_M} {l0 l1 l2 l3 l4 l5 : Option Value} : am_run G d K_Te_workOff (68, [l0, l1, l2, l3, l4, l5], st, M) = am_run G d K_Te_workOff (70, [l0, l1, l2, l3, l4, l5], .int (-20) :: st, M) := am_run_next (x := (.bipush (-20), 2, 0, 0, 0, 0)) (by decide +kernel) rfl
theorem r_Te_workOff_70 {G : Nat → Value} {d : Nat} {st : List Value} {M : am_M} {l0 l1 l2 l3 l4 l5 : Option Value} {a b : Int32} : am_run G d K_Te_workOff (70, [l0, l1, l2, l3, l4, l5], .int b :: .int a :: st, M) = if b < a then am_run G d K_Te_workOff (124, [l0, l1, l2, l3, l4, l5], st, M) else am_run G d K_Te_workOff (73, [l0, l1, l2, l3, l4, l5], st, M) := by
  split
  · next h => exact am_run_next (x := (.if_icmp .gt 54, 3, 0, 0, 0, 0)) (by decide +kernel) (am_br_t (decide_eq_true h) (by decide))
  · next h => exact am_run_next (x := (.if_icmp .gt 54, 3, 0, 0, 0, 0)) (by decide +kernel) (am_br_f (decide_eq_false h) (by decide))
theorem r_Te_workOff_73 {G : Nat → Value} {d : Nat} {st : List Value} {M : am_M} {l0 l1 l2 l4 l5 : Option Value} {v : Int32} : am_run G d K_Te_workOff (73, [l0, l1, l2, some (.int v), l4, l5], st, M) = am_run G d K_Te_workOff (74, [l0, l1, l2, some (.int v), l4, l5], .int v :: st, M) := am_run_next (x := (.iload_n 3, 1, 0, 0, 0, 0)) (by decide +kernel) rfl
theorem r_Te_workOff_74 {G : Nat → Value} {d : Nat} {st : List Value} {M : am_M} {l0 l1 l2 l3 l4 l5 : Option Value} : am_run G d K_Te_workOff (74, [l0, l1, l2, l3, l4, l5], st, M) = am_run G d K_Te_workOff (75, [l0, l1, l2, l3, l4, l5], .int 1 :: st, M) := am_run_next (x := (.iconst 1, 1, 0, 0, 0, 0)) (by decide +kernel) rfl
theorem r_Te_workOff_75 {G : Nat → Value} {d : Nat} {st : List Value} {M : am_M} {l0 l1 l2 l3 l4 l5 : Option Value} {a b : Int32} : am_run G d K_Te_workOff (75, [l0, l1, l2, l3, l4, l5], .int b :: .int a :: st, M) = if b ≤ a then am_run G d K_Te_workOff (80, [l0, l1, l2, l3, l4, l5], st, M) else am_run G d K_Te_workOff (78, [l0, l1, l2, l3, l4, l5], st, M) := by
  split
  · next h => exact am_run_next (x := (.if_icmp .ge 5, 3, 0, 0, 0, 0)) (by decide +kernel) (am_br_t (decide_eq_true h) (by decide))
  · next h => exact am_run_next (x := (.if_icmp .ge 5, 3, 0, 0, 0, 0)) (by decide +kernel) (am_br_f (decide_eq_false h) (by decide))
theorem r_Te_workOff_78 {G : Nat → Value} {d : Nat} {st : List Value} {M : am_M} {l0 l1 l2 l3 l4 l5 : Option Value} : am_run G d K_Te_workOff (78, [l0, l1, l2, l3, l4, l5], st, M) = am_run G d K_Te_workOff (79, [l0, l1, l2, l3, l4, l5], .int 0 :: st, M) := am_run_next (x := (.iconst 0, 1, 0, 0, 0, 0)) (by decide +kernel) rfl
theorem r_Te_workOff_79 {G : Nat → Value} {d : Nat} {M : am_M} {l0 l1 l2 l3 l4 l5 : Option Value} {a : Int32} : am_run G d K_Te_workOff (79, [l0, l1, l2, l3, l4, l5], [.int a], M) = some (some (.int a), M) := am_run_ret (x := (.ireturn, 1, 0, 0, 0, 0)) (by decide +kernel) rfl
theorem r_Te_workOff_80 {G : Nat → Value} {d : Nat} {st : List Value} {M : am_M} {l1 l2 l3 l4 l5 : Option Value} {v : Value} (hv : am_isr v = true) : am_run G d K_Te_workOff (80, [some v, l1, l2, l3, l4, l5], st, M) = am_run G d K_Te_workOff (81, [some v, l1, l2, l3, l4, l5], v :: st, M) := by
  rcases am_isr_cases hv with ⟨q, rfl⟩ | rfl
  · exact am_run_next (x := (.aload_n 0, 1, 0, 0, 0, 0)) (by decide +kernel) rfl
  · exact am_run_next (x := (.aload_n 0, 1, 0, 0, 0, 0)) (by decide +kernel) rfl
theorem r_Te_workOff_81 {G : Nat → Value} {d : Nat} {st : List Value} {M : am_M} {l0 l1 l2 l3 l4 l5 : Option Value} {a : Nat} : am_run G d K_Te_workOff (81, [l0, l1, l2, l3, l4, l5], .ref a :: st, M) = am_kf G d K_Te_workOff 84 [l0, l1, l2, l3, l4, l5] st M (am_fld M a 8 2) := am_run_kf (x := (.getfield 22, 3, 8, 2, 2097, 0)) (by decide +kernel) rfl
theorem r_Te_workOff_84 {G : Nat → Value} {d : Nat} {st : List Value} {M : am_M} {l0 l1 l2 l4 l5 : Option Value} {v : Int32} : am_run G d K_Te_workOff (84, [l0, l1, l2, some (.int v), l4, l5], st, M) = am_run G d K_Te_workOff (85, [l0, l1, l2, some (.int v), l4, l5], .int v :: st, M) := am_run_next (x := (.iload_n 3, 1, 0, 0, 0, 0)) (by decide +kernel) rfl
theorem r_Te_workOff_85 {G : Nat → Value} {d : Nat} {st : List Value} {M : am_M} {l0 l1 l2 l3 l4 l5 : Option Value} : am_run G d K_Te_workOff (85, [l0, l1, l2, l3, l4, l5], st, M) = am_run G d K_Te_workOff (86, [l0, l1, l2, l3, l4, l5], .int 1 :: st, M) := am_run_next (x := (.iconst 1, 1, 0, 0, 0, 0)) (by decide +kernel) rfl
theorem r_Te_workOff_86 {G : Nat → Value} {d : Nat} {st : List Value} {M : am_M} {l0 l1 l2 l3 l4 l5 : Option Value} {a b : Int32} : am_run G d K_Te_workOff (86, [l0, l1, l2, l3, l4, l5], .int b :: .int a :: st, M) = am_run G d K_Te_workOff (87, [l0, l1, l2, l3, l4, l5], .int (a - b) :: st, M) := am_run_next (x := (.isub, 1, 0, 0, 0, 0)) (by decide +kernel) rfl
theorem r_Te_workOff_87 {G : Nat → Value} {d : Nat} {st : List Value} {M : am_M} {l0 l1 l2 l3 l4 : Option Value} {v : Int32} : am_run G d K_Te_workOff (87, [l0, l1, l2, l3, l4, some (.int v)], st, M) = am_run G d K_Te_workOff (89, [l0, l1, l2, l3, l4, some (.int v)], .int v :: st, M) := am_run_next (x := (.iload 5, 2, 0, 0, 0, 0)) (by decide +kernel) rfl
theorem r_Te_workOff_89 {G : Nat → Value} {d : Nat} {st : List Value} {M : am_M} {l0 l1 l2 l3 l4 l5 : Option Value} : am_run G d K_Te_workOff (89, [l0, l1, l2, l3, l4, l5], st, M) = am_run G d K_Te_workOff (91, [l0, l1, l2, l3, l4, l5], .int (-21) :: st, M) := am_run_next (x := (.bipush (-21), 2, 0, 0, 0, 0)) (by decide +kernel) rfl
theorem r_Te_workOff_91 {G : Nat → Value} {d : Nat} {st : List Value} {M : am_M} {l0 l1 l2 l3 l4 l5 : Option Value} {a b : Int32} : am_run G d K_Te_workOff (91, [l0, l1, l2, l3, l4, l5], .int b :: .int a :: st, M) = if ¬ a = b then am_run G d K_Te_workOff (111, [l0, l1, l2, l3, l4, l5], st, M) else am_run G d K_Te_workOff (94, [l0, l1, l2, l3, l4, l5], st, M) := by
  split
  · next h => exact am_run_next (x := (.if_icmp .ne 20, 3, 0, 0, 0, 0)) (by decide +kernel) (am_br_t (decide_eq_true h) (by decide))
  · next h => exact am_run_next (x := (.if_icmp .ne 20, 3, 0, 0, 0, 0)) (by decide +kernel) (am_br_f (decide_eq_false h) (by decide))
theorem r_Te_workOff_94 {G : Nat → Value} {d : Nat} {st : List Value} {M : am_M} {l0 l1 l2 l3 l4 l5 : Option Value} : am_run G d K_Te_workOff (94, [l0, l1, l2, l3, l4, l5], st, M) = am_run G d K_Te_workOff (96, [l0, l1, l2, l3, l4, l5], .int (-14) :: st, M) := am_run_next (x := (.bipush (-14), 2, 0, 0, 0, 0)) (by decide +kernel) rfl
theorem r_Te_workOff_96 {G : Nat → Value} {d : Nat} {st : List Value} {M : am_M} {l1 l2 l3 l4 l5 : Option Value} {v : Value} (hv : am_isr v = true) : am_run G d K_Te_workOff (96, [some v, l1, l2, l3, l4, l5], st, M) = am_run G d K_Te_workOff (97, [some v, l1, l2, l3, l4, l5], v :: st, M) := by
  rcases am_isr_cases hv with ⟨q, rfl⟩ | rfl
  · exact am_run_next (x := (.aload_n 0, 1, 0, 0, 0, 0)) (by decide +kernel) rfl
  · exact am_run_next (x := (.aload_n 0, 1, 0, 0, 0, 0)) (by decide +kernel) rfl
theorem r_Te_workOff_97 {G : Nat → Value} {d : Nat} {st : List Value} {M : am_M} {l0 l1 l2 l3 l4 l5 : Option Value} {a : Nat} : am_run G d K_Te_workOff (97, [l0, l1, l2, l3, l4, l5], .ref a :: st, M) = am_kf G d K_Te_workOff 100 [l0, l1, l2, l3, l4, l5] st M (am_fld M a 8 2) := am_run_kf (x := (.getfield 22, 3, 8, 2, 2097, 0)) (by decide +kernel) rfl
theorem r_Te_workOff_100 {G : Nat → Value} {d : Nat} {st : List Value} {M : am_M} {l0 l1 l2 l4 l5 : Option Value} {v : Int32} : am_run G d K_Te_workOff (100, [l0, l1, l2, some (.int v), l4, l5], st, M) = am_run G d K_Te_workOff (101, [l0, l1, l2, some (.int v), l4, l5], .int v :: st, M) := am_run_next (x := (.iload_n 3, 1, 0, 0, 0, 0)) (by decide +kernel) rfl
theorem r_Te_workOff_101 {G : Nat → Value} {d : Nat} {st : List Value} {M : am_M} {l0 l1 l2 l3 l4 l5 : Option Value} : am_run G d K_Te_workOff (101, [l0, l1, l2, l3, l4, l5], st, M) = am_run G d K_Te_workOff (102, [l0, l1, l2, l3, l4, l5], .int 1 :: st, M) := am_run_next (x := (.iconst 1, 1, 0, 0, 0, 0)) (by decide +kernel) rfl
theorem r_Te_workOff_102 {G : Nat → Value} {d : Nat} {st : List Value} {M : am_M} {l0 l1 l2 l3 l4 l5 : Option Value} {a b : Int32} : am_run G d K_Te_workOff (102, [l0, l1, l2, l3, l4, l5], .int b :: .int a :: st, M) = am_run G d K_Te_workOff (103, [l0, l1, l2, l3, l4, l5], .int (a - b) :: st, M) := am_run_next (x := (.isub, 1, 0, 0, 0, 0)) (by decide +kernel) rfl
theorem r_Te_workOff_103 {G : Nat → Value} {d : Nat} {st : List Value} {M : am_M} {l0 l1 l2 l3 l4 l5 : Option Value} {a : Nat} {i : Int32} : am_run G d K_Te_workOff (103, [l0, l1, l2, l3, l4, l5], .int i :: .ref a :: st, M) = am_kf G d K_Te_workOff 104 [l0, l1, l2, l3, l4, l5] st M (am_ag 0 M a i) := am_run_kf (x := (.iaload, 1, 0, 0, 0, 0)) (by decide +kernel) rfl
theorem r_Te_workOff_104 {G : Nat → Value} {d : Nat} {st : List Value} {M : am_M} {l0 l1 l2 l3 l4 l5 : Option Value} : am_run G d K_Te_workOff (104, [l0, l1, l2, l3, l4, l5], st, M) = am_run G d K_Te_workOff (105, [l0, l1, l2, l3, l4, l5], .int 0 :: st, M) := am_run_next (x := (.iconst 0, 1, 0, 0, 0, 0)) (by decide +kernel) rfl
theorem r_Te_workOff_105 {G : Nat → Value} {d : Nat} {st : List Value} {M : am_M} {l0 l1 l2 l3 l4 l5 : Option Value} {a0 : Int32} {a1 : Int32} {a2 : Int32} (h8 : am_sw st ≤ 8) : am_run G d K_Te_workOff (105, [l0, l1, l2, l3, l4, l5], .int a2 :: .int a1 :: .int a0 :: st, M) = am_k G d K_Te_workOff 108 [l0, l1, l2, l3, l4, l5] st (am_ex G d K_Te_join [.int a0, .int a1, .int a2] M) := am_run_is (i := 35) (n := 3) (pl := 3136) (Bs := [.int a0, .int a1, .int a2]) (z := K_Te_join) (v := 1) (by decide) (by decide) (by decide +kernel) h8 rfl (Nat.le_of_ble_eq_true rfl) rfl
theorem r_Te_workOff_108 {G : Nat → Value} {d : Nat} {st : List Value} {M : am_M} {l0 l1 l2 l3 l4 l5 : Option Value} : am_run G d K_Te_workOff (108, [l0, l1, l2, l3, l4, l5], st, M) = am_run G d K_Te_workOff (120, [l0, l1, l2, l3, l4, l5], st, M) := am_run_next (x := (.goto 12, 3, 0, 0, 0, 0)) (by decide +kernel) rfl
theorem r_Te_workOff_111 {G : Nat → Value} {d : Nat} {st : List Value} {M : am_M} {l1 l2 l3 l4 l5 : Option Value} {v : Value} (hv : am_isr v = true) : am_run G d K_Te_workOff (111, [some v, l1, l2, l3, l4, l5], st, M) = am_run G d K_Te_workOff (112, [some v, l1, l2, l3, l4, l5], v :: st, M) := by
  rcases am_isr_cases hv with ⟨q, rfl⟩ | rfl
  · exact am_run_next (x := (.aload_n 0, 1, 0, 0, 0, 0)) (by decide +kernel) rfl
  · exact am_run_next (x := (.aload_n 0, 1, 0, 0, 0, 0)) (by decide +kernel) rfl
theorem r_Te_workOff_112 {G : Nat → Value} {d : Nat} {st : List Value} {M : am_M} {l0 l1 l2 l3 l4 l5 : Option Value} {a : Nat} : am_run G d K_Te_workOff (112, [l0, l1, l2, l3, l4, l5], .ref a :: st, M) = am_kf G d K_Te_workOff 115 [l0, l1, l2, l3, l4, l5] st M (am_fld M a 8 2) := am_run_kf (x := (.getfield 22, 3, 8, 2, 2097, 0)) (by decide +kernel) rfl
theorem r_Te_workOff_115 {G : Nat → Value} {d : Nat} {st : List Value} {M : am_M} {l0 l1 l2 l4 l5 : Option Value} {v : Int32} : am_run G d K_Te_workOff (115, [l0, l1, l2, some (.int v), l4, l5], st, M) = am_run G d K_Te_workOff (116, [l0, l1, l2, some (.int v), l4, l5], .int v :: st, M) := am_run_next (x := (.iload_n 3, 1, 0, 0, 0, 0)) (by decide +kernel) rfl
theorem r_Te_workOff_116 {G : Nat → Value} {d : Nat} {st : List Value} {M : am_M} {l0 l1 l2 l3 l4 l5 : Option Value} : am_run G d K_Te_workOff (116, [l0, l1, l2, l3, l4, l5], st, M) = am_run G d K_Te_workOff (117, [l0, l1, l2, l3, l4, l5], .int 1 :: st, M) := am_run_next (x := (.iconst 1, 1, 0, 0, 0, 0)) (by decide +kernel) rfl
theorem r_Te_workOff_117 {G : Nat → Value} {d : Nat} {st : List Value} {M : am_M} {l0 l1 l2 l3 l4 l5 : Option Value} {a b : Int32} : am_run G d K_Te_workOff (117, [l0, l1, l2, l3, l4, l5], .int b :: .int a :: st, M) = am_run G d K_Te_workOff (118, [l0, l1, l2, l3, l4, l5], .int (a - b) :: st, M) := am_run_next (x := (.isub, 1, 0, 0, 0, 0)) (by decide +kernel) rfl
theorem r_Te_workOff_118 {G : Nat → Value} {d : Nat} {st : List Value} {M : am_M} {l0 l1 l2 l3 l4 l5 : Option Value} {a : Nat} {i : Int32} : am_run G d K_Te_workOff (118, [l0, l1, l2, l3, l4, l5], .int i :: .ref a :: st, M) = am_kf G d K_Te_workOff 119 [l0, l1, l2, l3, l4, l5] st M (am_ag 0 M a i) := am_run_kf (x := (.iaload, 1, 0, 0, 0, 0)) (by decide +kernel) rfl
theorem r_Te_workOff_119 {G : Nat → Value} {d : Nat} {st : List Value} {M : am_M} {l0 l1 l2 l3 l4 l5 : Option Value} {a : Int32} : am_run G d K_Te_workOff (119, [l0, l1, l2, l3, l4, l5], .int a :: st, M) = am_run G d K_Te_workOff (120, [l0, l1, l2, l3, l4, l5], .int (-a) :: st, M) := am_run_next (x := (.ineg, 1, 0, 0, 0, 0)) (by decide +kernel) rfl
theorem r_Te_workOff_120 {G : Nat → Value} {d : Nat} {st : List Value} {M : am_M} {l0 l1 l2 l3 l4 l5 : Option Value} {a : Nat} {i x : Int32} : am_run G d K_Te_workOff (120, [l0, l1, l2, l3, l4, l5], .int x :: .int i :: .ref a :: st, M) = am_km G d K_Te_workOff 121 [l0, l1, l2, l3, l4, l5] st (am_pi M a i x) := am_run_km (x := (.iastore, 1, 0, 0, 0, 0)) (by decide +kernel) rfl
theorem r_Te_workOff_121 {G : Nat → Value} {d : Nat} {st : List Value} {M : am_M} {l0 l1 l2 l3 l4 l5 : Option Value} : am_run G d K_Te_workOff (121, [l0, l1, l2, l3, l4, l5], st, M) = am_run G d K_Te_workOff (163, [l0, l1, l2, l3, l4, l5], st, M) := am_run_next (x := (.goto 42, 3, 0, 0, 0, 0)) (by decide +kernel) rfl
theorem r_Te_workOff_124 {G : Nat → Value} {d : Nat} {st : List Value} {M : am_M} {l0 l1 l2 l4 l5 : Option Value} {v : Int32} : am_run G d K_Te_workOff (124, [l0, l1, l2, some (.int v), l4, l5], st, M) = am_run G d K_Te_workOff (125, [l0, l1, l2, some (.int v), l4, l5], .int v :: st, M) := am_run_next (x := (.iload_n 3, 1, 0, 0, 0, 0)) (by decide +kernel) rfl
theorem r_Te_workOff_125 {G : Nat → Value} {d : Nat} {st : List Value} {M : am_M} {l0 l1 l2 l3 l4 l5 : Option Value} : am_run G d K_Te_workOff (125, [l0, l1, l2, l3, l4, l5], st, M) = am_run G d K_Te_workOff (126, [l0, l1, l2, l3, l4, l5], .int 2 :: st, M) := am_run_next (x := (.iconst 2, 1, 0, 0, 0, 0)) (by decide +kernel) rfl
theorem r_Te_workOff_126 {G : Nat → Value} {d : Nat} {st : List Value} {M : am_M} {l0 l1 l2 l3 l4 l5 : Option Value} {a b : Int32} : am_run G d K_Te_workOff (126, [l0, l1, l2, l3, l4, l5], .int b :: .int a :: st, M) = if b ≤ a then am_run G d K_Te_workOff (131, [l0, l1, l2, l3, l4, l5], st, M) else am_run G d K_Te_workOff (129, [l0, l1, l2, l3, l4, l5], st, M) := by
  split
  · next h => exact am_run_next (x := (.if_icmp .ge 5, 3, 0, 0, 0, 0)) (by decide +kernel) (am_br_t (decide_eq_true h) (by decide))
  · next h => exact am_run_next (x := (.if_icmp .ge 5, 3, 0, 0, 0, 0)) (by decide +kernel) (am_br_f (decide_eq_false h) (by decide))
theorem r_Te_workOff_129 {G : Nat → Value} {d : Nat} {st : List Value} {M : am_M} {l0 l1 l2 l3 l4 l5 : Option Value} : am_run G d K_Te_workOff (129, [l0, l1, l2, l3, l4, l5], st, M) = am_run G d K_Te_workOff (130, [l0, l1, l2, l3, l4, l5], .int 0 :: st, M) := am_run_next (x := (.iconst 0, 1, 0, 0, 0, 0)) (by decide +kernel) rfl
theorem r_Te_workOff_130 {G : Nat → Value} {d : Nat} {M : am_M} {l0 l1 l2 l3 l4 l5 : Option Value} {a : Int32} : am_run G d K_Te_workOff (130, [l0, l1, l2, l3, l4, l5], [.int a], M) = some (some (.int a), M) := am_run_ret (x := (.ireturn, 1, 0, 0, 0, 0)) (by decide +kernel) rfl
theorem r_Te_workOff_131 {G : Nat → Value} {d : Nat} {st : List Value} {M : am_M} {l1 l2 l3 l4 l5 : Option Value} {v : Value} (hv : am_isr v = true) : am_run G d K_Te_workOff (131, [some v, l1, l2, l3, l4, l5], st, M) = am_run G d K_Te_workOff (132, [some v, l1, l2, l3, l4, l5], v :: st, M) := by
  rcases am_isr_cases hv with ⟨q, rfl⟩ | rfl
  · exact am_run_next (x := (.aload_n 0, 1, 0, 0, 0, 0)) (by decide +kernel) rfl
  · exact am_run_next (x := (.aload_n 0, 1, 0, 0, 0, 0)) (by decide +kernel) rfl
theorem r_Te_workOff_132 {G : Nat → Value} {d : Nat} {st : List Value} {M : am_M} {l0 l1 l2 l3 l4 l5 : Option Value} {a : Nat} : am_run G d K_Te_workOff (132, [l0, l1, l2, l3, l4, l5], .ref a :: st, M) = am_kf G d K_Te_workOff 135 [l0, l1, l2, l3, l4, l5] st M (am_fld M a 8 2) := am_run_kf (x := (.getfield 22, 3, 8, 2, 2097, 0)) (by decide +kernel) rfl
theorem r_Te_workOff_135 {G : Nat → Value} {d : Nat} {st : List Value} {M : am_M} {l0 l1 l2 l4 l5 : Option Value} {v : Int32} : am_run G d K_Te_workOff (135, [l0, l1, l2, some (.int v), l4, l5], st, M) = am_run G d K_Te_workOff (136, [l0, l1, l2, some (.int v), l4, l5], .int v :: st, M) := am_run_next (x := (.iload_n 3, 1, 0, 0, 0, 0)) (by decide +kernel) rfl
theorem r_Te_workOff_136 {G : Nat → Value} {d : Nat} {st : List Value} {M : am_M} {l0 l1 l2 l3 l4 l5 : Option Value} : am_run G d K_Te_workOff (136, [l0, l1, l2, l3, l4, l5], st, M) = am_run G d K_Te_workOff (137, [l0, l1, l2, l3, l4, l5], .int 2 :: st, M) := am_run_next (x := (.iconst 2, 1, 0, 0, 0, 0)) (by decide +kernel) rfl
theorem r_Te_workOff_137 {G : Nat → Value} {d : Nat} {st : List Value} {M : am_M} {l0 l1 l2 l3 l4 l5 : Option Value} {a b : Int32} : am_run G d K_Te_workOff (137, [l0, l1, l2, l3, l4, l5], .int b :: .int a :: st, M) = am_run G d K_Te_workOff (138, [l0, l1, l2, l3, l4, l5], .int (a - b) :: st, M) := am_run_next (x := (.isub, 1, 0, 0, 0, 0)) (by decide +kernel) rfl
theorem r_Te_workOff_138 {G : Nat → Value} {d : Nat} {st : List Value} {M : am_M} {l0 l1 l2 l3 l4 : Option Value} {v : Int32} : am_run G d K_Te_workOff (138, [l0, l1, l2, l3, l4, some (.int v)], st, M) = am_run G d K_Te_workOff (140, [l0, l1, l2, l3, l4, some (.int v)], .int v :: st, M) := am_run_next (x := (.iload 5, 2, 0, 0, 0, 0)) (by decide +kernel) rfl
theorem r_Te_workOff_140 {G : Nat → Value} {d : Nat} {st : List Value} {M : am_M} {l1 l2 l3 l4 l5 : Option Value} {v : Value} (hv : am_isr v = true) : am_run G d K_Te_workOff (140, [some v, l1, l2, l3, l4, l5], st, M) = am_run G d K_Te_workOff (141, [some v, l1, l2, l3, l4, l5], v :: st, M) := by
  rcases am_isr_cases hv with ⟨q, rfl⟩ | rfl
  · exact am_run_next (x := (.aload_n 0, 1, 0, 0, 0, 0)) (by decide +kernel) rfl
  · exact am_run_next (x := (.aload_n 0, 1, 0, 0, 0, 0)) (by decide +kernel) rfl
theorem r_Te_workOff_141 {G : Nat → Value} {d : Nat} {st : List Value} {M : am_M} {l0 l1 l2 l3 l4 l5 : Option Value} {a : Nat} : am_run G d K_Te_workOff (141, [l0, l1, l2, l3, l4, l5], .ref a :: st, M) = am_kf G d K_Te_workOff 144 [l0, l1, l2, l3, l4, l5] st M (am_fld M a 8 2) := am_run_kf (x := (.getfield 22, 3, 8, 2, 2097, 0)) (by decide +kernel) rfl
theorem r_Te_workOff_144 {G : Nat → Value} {d : Nat} {st : List Value} {M : am_M} {l0 l1 l2 l4 l5 : Option Value} {v : Int32} : am_run G d K_Te_workOff (144, [l0, l1, l2, some (.int v), l4, l5], st, M) = am_run G d K_Te_workOff (145, [l0, l1, l2, some (.int v), l4, l5], .int v :: st, M) := am_run_next (x := (.iload_n 3, 1, 0, 0, 0, 0)) (by decide +kernel) rfl
theorem r_Te_workOff_145 {G : Nat → Value} {d : Nat} {st : List Value} {M : am_M} {l0 l1 l2 l3 l4 l5 : Option Value} : am_run G d K_Te_workOff (145, [l0, l1, l2, l3, l4, l5], st, M) = am_run G d K_Te_workOff (146, [l0, l1, l2, l3, l4, l5], .int 2 :: st, M) := am_run_next (x := (.iconst 2, 1, 0, 0, 0, 0)) (by decide +kernel) rfl
theorem r_Te_workOff_146 {G : Nat → Value} {d : Nat} {st : List Value} {M : am_M} {l0 l1 l2 l3 l4 l5 : Option Value} {a b : Int32} : am_run G d K_Te_workOff (146, [l0, l1, l2, l3, l4, l5], .int b :: .int a :: st, M) = am_run G d K_Te_workOff (147, [l0, l1, l2, l3, l4, l5], .int (a - b) :: st, M) := am_run_next (x := (.isub, 1, 0, 0, 0, 0)) (by decide +kernel) rfl
theorem r_Te_workOff_147 {G : Nat → Value} {d : Nat} {st : List Value} {M : am_M} {l0 l1 l2 l3 l4 l5 : Option Value} {a : Nat} {i : Int32} : am_run G d K_Te_workOff (147, [l0, l1, l2, l3, l4, l5], .int i :: .ref a :: st, M) = am_kf G d K_Te_workOff 148 [l0, l1, l2, l3, l4, l5] st M (am_ag 0 M a i) := am_run_kf (x := (.iaload, 1, 0, 0, 0, 0)) (by decide +kernel) rfl
theorem r_Te_workOff_148 {G : Nat → Value} {d : Nat} {st : List Value} {M : am_M} {l1 l2 l3 l4 l5 : Option Value} {v : Value} (hv : am_isr v = true) : am_run G d K_Te_workOff (148, [some v, l1, l2, l3, l4, l5], st, M) = am_run G d K_Te_workOff (149, [some v, l1, l2, l3, l4, l5], v :: st, M) := by
  rcases am_isr_cases hv with ⟨q, rfl⟩ | rfl
  · exact am_run_next (x := (.aload_n 0, 1, 0, 0, 0, 0)) (by decide +kernel) rfl
  · exact am_run_next (x := (.aload_n 0, 1, 0, 0, 0, 0)) (by decide +kernel) rfl
theorem r_Te_workOff_149 {G : Nat → Value} {d : Nat} {st : List Value} {M : am_M} {l0 l1 l2 l3 l4 l5 : Option Value} {a : Nat} : am_run G d K_Te_workOff (149, [l0, l1, l2, l3, l4, l5], .ref a :: st, M) = am_kf G d K_Te_workOff 152 [l0, l1, l2, l3, l4, l5] st M (am_fld M a 8 2) := am_run_kf (x := (.getfield 22, 3, 8, 2, 2097, 0)) (by decide +kernel) rfl
theorem r_Te_workOff_152 {G : Nat → Value} {d : Nat} {st : List Value} {M : am_M} {l0 l1 l2 l4 l5 : Option Value} {v : Int32} : am_run G d K_Te_workOff (152, [l0, l1, l2, some (.int v), l4, l5], st, M) = am_run G d K_Te_workOff (153, [l0, l1, l2, some (.int v), l4, l5], .int v :: st, M) := am_run_next (x := (.iload_n 3, 1, 0, 0, 0, 0)) (by decide +kernel) rfl
theorem r_Te_workOff_153 {G : Nat → Value} {d : Nat} {st : List Value} {M : am_M} {l0 l1 l2 l3 l4 l5 : Option Value} : am_run G d K_Te_workOff (153, [l0, l1, l2, l3, l4, l5], st, M) = am_run G d K_Te_workOff (154, [l0, l1, l2, l3, l4, l5], .int 1 :: st, M) := am_run_next (x := (.iconst 1, 1, 0, 0, 0, 0)) (by decide +kernel) rfl
theorem r_Te_workOff_154 {G : Nat → Value} {d : Nat} {st : List Value} {M : am_M} {l0 l1 l2 l3 l4 l5 : Option Value} {a b : Int32} : am_run G d K_Te_workOff (154, [l0, l1, l2, l3, l4, l5], .int b :: .int a :: st, M) = am_run G d K_Te_workOff (155, [l0, l1, l2, l3, l4, l5], .int (a - b) :: st, M) := am_run_next (x := (.isub, 1, 0, 0, 0, 0)) (by decide +kernel) rfl
theorem r_Te_workOff_155 {G : Nat → Value} {d : Nat} {st : List Value} {M : am_M} {l0 l1 l2 l3 l4 l5 : Option Value} {a : Nat} {i : Int32} : am_run G d K_Te_workOff (155, [l0, l1, l2, l3, l4, l5], .int i :: .ref a :: st, M) = am_kf G d K_Te_workOff 156 [l0, l1, l2, l3, l4, l5] st M (am_ag 0 M a i) := am_run_kf (x := (.iaload, 1, 0, 0, 0, 0)) (by decide +kernel) rfl
theorem r_Te_workOff_156 {G : Nat → Value} {d : Nat} {st : List Value} {M : am_M} {l0 l1 l2 l3 l4 l5 : Option Value} {a0 : Int32} {a1 : Int32} {a2 : Int32} (h8 : am_sw st ≤ 8) : am_run G d K_Te_workOff (156, [l0, l1, l2, l3, l4, l5], .int a2 :: .int a1 :: .int a0 :: st, M) = am_k G d K_Te_workOff 159 [l0, l1, l2, l3, l4, l5] st (am_ex G d K_Te_join [.int a0, .int a1, .int a2] M) := am_run_is (i := 35) (n := 3) (pl := 3136) (Bs := [.int a0, .int a1, .int a2]) (z := K_Te_join) (v := 1) (by decide) (by decide) (by decide +kernel) h8 rfl (Nat.le_of_ble_eq_true rfl) rfl
theorem r_Te_workOff_159 {G : Nat → Value} {d : Nat} {st : List Value} {M : am_M} {l0 l1 l2 l3 l4 l5 : Option Value} {a : Nat} {i x : Int32} : am_run G d K_Te_workOff (159, [l0, l1, l2, l3, l4, l5], .int x :: .int i :: .ref a :: st, M) = am_km G d K_Te_workOff 160 [l0, l1, l2, l3, l4, l5] st (am_pi M a i x) := am_run_km (x := (.iastore, 1, 0, 0, 0, 0)) (by decide +kernel) rfl
theorem r_Te_workOff_160 {G : Nat → Value} {d : Nat} {st : List Value} {M : am_M} {l0 l1 l2 l4 l5 : Option Value} {v : Int32} (hc : am_c1 l2 = true) : am_run G d K_Te_workOff (160, [l0, l1, l2, some (.int v), l4, l5], st, M) = am_run G d K_Te_workOff (163, [l0, l1, l2, some (.int (v + (-1))), l4, l5], st, M) := by
  rw [show (-1 : Int32) = Int32.ofInt (-1) by decide]
  rcases am_c1_cases hc with rfl | ⟨q, rfl⟩ | ⟨q, rfl⟩ | rfl
  · exact am_run_next (x := (.iinc 3 (-1), 3, 0, 0, 0, 0)) (by decide +kernel) rfl
  · exact am_run_next (x := (.iinc 3 (-1), 3, 0, 0, 0, 0)) (by decide +kernel) rfl
  · exact am_run_next (x := (.iinc 3 (-1), 3, 0, 0, 0, 0)) (by decide +kernel) rfl
  · exact am_run_next (x := (.iinc 3 (-1), 3, 0, 0, 0, 0)) (by decide +kernel) rfl
theorem r_Te_workOff_160_k {G : Nat → Value} {d : Nat} {st : List Value} {M : am_M} {l0 l1 l4 l5 : Option Value} {v : Int32} {z : Int64} : am_run G d K_Te_workOff (160, [l0, l1, some (.long z), some (.int v), l4, l5], st, M) = am_run G d K_Te_workOff (163, [l0, l1, none, some (.int (v + (-1))), l4, l5], st, M) := by
  rw [show (-1 : Int32) = Int32.ofInt (-1) by decide]
  exact am_run_next (x := (.iinc 3 (-1), 3, 0, 0, 0, 0)) (by decide +kernel) rfl
theorem r_Te_workOff_163 {G : Nat → Value} {d : Nat} {st : List Value} {M : am_M} {l0 l1 l2 l3 l5 : Option Value} {v : Int32} (hc : am_c1 l3 = true) : am_run G d K_Te_workOff (163, [l0, l1, l2, l3, some (.int v), l5], st, M) = am_run G d K_Te_workOff (166, [l0, l1, l2, l3, some (.int (v + 1)), l5], st, M) := by
  rcases am_c1_cases hc with rfl | ⟨q, rfl⟩ | ⟨q, rfl⟩ | rfl
  · exact am_run_next (x := (.iinc 4 1, 3, 0, 0, 0, 0)) (by decide +kernel) rfl
  · exact am_run_next (x := (.iinc 4 1, 3, 0, 0, 0, 0)) (by decide +kernel) rfl
  · exact am_run_next (x := (.iinc 4 1, 3, 0, 0, 0, 0)) (by decide +kernel) rfl
  · exact am_run_next (x := (.iinc 4 1, 3, 0, 0, 0, 0)) (by decide +kernel) rfl
theorem r_Te_workOff_163_k {G : Nat → Value} {d : Nat} {st : List Value} {M : am_M} {l0 l1 l2 l5 : Option Value} {v : Int32} {z : Int64} : am_run G d K_Te_workOff (163, [l0, l1, l2, some (.long z), some (.int v), l5], st, M) = am_run G d K_Te_workOff (166, [l0, l1, l2, none, some (.int (v + 1)), l5], st, M) := am_run_next (x := (.iinc 4 1, 3, 0, 0, 0, 0)) (by decide +kernel) rfl
theorem r_Te_workOff_166 {G : Nat → Value} {d : Nat} {st : List Value} {M : am_M} {l0 l1 l2 l3 l4 l5 : Option Value} : am_run G d K_Te_workOff (166, [l0, l1, l2, l3, l4, l5], st, M) = am_run G d K_Te_workOff (5, [l0, l1, l2, l3, l4, l5], st, M) := am_run_next (x := (.goto (-161), 3, 0, 0, 0, 0)) (by decide +kernel) rfl
theorem r_Te_workOff_169 {G : Nat → Value} {d : Nat} {st : List Value} {M : am_M} {l0 l1 l2 l4 l5 : Option Value} {v : Int32} : am_run G d K_Te_workOff (169, [l0, l1, l2, some (.int v), l4, l5], st, M) = am_run G d K_Te_workOff (170, [l0, l1, l2, some (.int v), l4, l5], .int v :: st, M) := am_run_next (x := (.iload_n 3, 1, 0, 0, 0, 0)) (by decide +kernel) rfl
theorem r_Te_workOff_170 {G : Nat → Value} {d : Nat} {st : List Value} {M : am_M} {l0 l1 l2 l3 l4 l5 : Option Value} {a : Int32} : am_run G d K_Te_workOff (170, [l0, l1, l2, l3, l4, l5], .int a :: st, M) = if a ≤ 0 then am_run G d K_Te_workOff (184, [l0, l1, l2, l3, l4, l5], st, M) else am_run G d K_Te_workOff (173, [l0, l1, l2, l3, l4, l5], st, M) := by
  split
  · next h => exact am_run_next (x := (.ifCond .le 14, 3, 0, 0, 0, 0)) (by decide +kernel) (am_br_t (decide_eq_true h) (by decide))
  · next h => exact am_run_next (x := (.ifCond .le 14, 3, 0, 0, 0, 0)) (by decide +kernel) (am_br_f (decide_eq_false h) (by decide))
theorem r_Te_workOff_173 {G : Nat → Value} {d : Nat} {st : List Value} {M : am_M} {l1 l2 l3 l4 l5 : Option Value} {v : Value} (hv : am_isr v = true) : am_run G d K_Te_workOff (173, [some v, l1, l2, l3, l4, l5], st, M) = am_run G d K_Te_workOff (174, [some v, l1, l2, l3, l4, l5], v :: st, M) := by
  rcases am_isr_cases hv with ⟨q, rfl⟩ | rfl
  · exact am_run_next (x := (.aload_n 0, 1, 0, 0, 0, 0)) (by decide +kernel) rfl
  · exact am_run_next (x := (.aload_n 0, 1, 0, 0, 0, 0)) (by decide +kernel) rfl
theorem r_Te_workOff_174 {G : Nat → Value} {d : Nat} {st : List Value} {M : am_M} {l0 l1 l2 l3 l4 l5 : Option Value} {a : Nat} : am_run G d K_Te_workOff (174, [l0, l1, l2, l3, l4, l5], .ref a :: st, M) = am_kf G d K_Te_workOff 177 [l0, l1, l2, l3, l4, l5] st M (am_fld M a 8 2) := am_run_kf (x := (.getfield 22, 3, 8, 2, 2097, 0)) (by decide +kernel) rfl
theorem r_Te_workOff_177 {G : Nat → Value} {d : Nat} {st : List Value} {M : am_M} {l0 l1 l2 l4 l5 : Option Value} {v : Int32} : am_run G d K_Te_workOff (177, [l0, l1, l2, some (.int v), l4, l5], st, M) = am_run G d K_Te_workOff (178, [l0, l1, l2, some (.int v), l4, l5], .int v :: st, M) := am_run_next (x := (.iload_n 3, 1, 0, 0, 0, 0)) (by decide +kernel) rfl
theorem r_Te_workOff_178 {G : Nat → Value} {d : Nat} {st : List Value} {M : am_M} {l0 l1 l2 l3 l4 l5 : Option Value} : am_run G d K_Te_workOff (178, [l0, l1, l2, l3, l4, l5], st, M) = am_run G d K_Te_workOff (179, [l0, l1, l2, l3, l4, l5], .int 1 :: st, M) := am_run_next (x := (.iconst 1, 1, 0, 0, 0, 0)) (by decide +kernel) rfl
theorem r_Te_workOff_179 {G : Nat → Value} {d : Nat} {st : List Value} {M : am_M} {l0 l1 l2 l3 l4 l5 : Option Value} {a b : Int32} : am_run G d K_Te_workOff (179, [l0, l1, l2, l3, l4, l5], .int b :: .int a :: st, M) = am_run G d K_Te_workOff (180, [l0, l1, l2, l3, l4, l5], .int (a - b) :: st, M) := am_run_next (x := (.isub, 1, 0, 0, 0, 0)) (by decide +kernel) rfl
theorem r_Te_workOff_180 {G : Nat → Value} {d : Nat} {st : List Value} {M : am_M} {l0 l1 l2 l3 l4 l5 : Option Value} {a : Nat} {i : Int32} : am_run G d K_Te_workOff (180, [l0, l1, l2, l3, l4, l5], .int i :: .ref a :: st, M) = am_kf G d K_Te_workOff 181 [l0, l1, l2, l3, l4, l5] st M (am_ag 0 M a i) := am_run_kf (x := (.iaload, 1, 0, 0, 0, 0)) (by decide +kernel) rfl
theorem r_Te_workOff_181 {G : Nat → Value} {d : Nat} {st : List Value} {M : am_M} {l0 l1 l2 l3 l4 l5 : Option Value} : am_run G d K_Te_workOff (181, [l0, l1, l2, l3, l4, l5], st, M) = am_run G d K_Te_workOff (185, [l0, l1, l2, l3, l4, l5], st, M) := am_run_next (x := (.goto 4, 3, 0, 0, 0, 0)) (by decide +kernel) rfl
theorem r_Te_workOff_184 {G : Nat → Value} {d : Nat} {st : List Value} {M : am_M} {l0 l1 l2 l3 l4 l5 : Option Value} : am_run G d K_Te_workOff (184, [l0, l1, l2, l3, l4, l5], st, M) = am_run G d K_Te_workOff (185, [l0, l1, l2, l3, l4, l5], .int 0 :: st, M) := am_run_next (x := (.iconst 0, 1, 0, 0, 0, 0)) (by decide +kernel) rfl
theorem r_Te_workOff_185 {G : Nat → Value} {d : Nat} {M : am_M} {l0 l1 l2 l3 l4 l5 : Option Value} {a : Int32} : am_run G d K_Te_workOff (185, [l0, l1, l2, l3, l4, l5], [.int a], M) = some (some (.int a), M) := am_run_ret (x := (.ireturn, 1, 0, 0, 0, 0)) (by decide +kernel) rfl
theorem r_Ni_part_0 {G : Nat → Value} {d : Nat} {st : List Value} {M : am_M} {l0 : Option Value} {v : Int32} : am_run G d K_Ni_part (0, [l0, some (.int v)], st, M) = am_run G d K_Ni_part (1, [l0, some (.int v)], .int v :: st, M) := am_run_next (x := (.iload_n 1, 1, 0, 0, 0, 0)) (by decide +kernel) rfl
theorem r_Ni_part_1 {G : Nat → Value} {d : Nat} {st : List Value} {M : am_M} {l0 l1 : Option Value} {a : Int32} : am_run G d K_Ni_part (1, [l0, l1], .int a :: st, M) = if a = 0 then am_run G d K_Ni_part (36, [l0, l1], st, M) else if a = 1 then am_run G d K_Ni_part (41, [l0, l1], st, M) else if a = 2 then am_run G d K_Ni_part (46, [l0, l1], st, M) else if a = 3 then am_run G d K_Ni_part (51, [l0, l1], st, M) else if a = 4 then am_run G d K_Ni_part (56, [l0, l1], st, M) else am_run G d K_Ni_part (61, [l0, l1], st, M) := by
  by_cases h0 : a = 0
  · rw [if_pos h0]
    subst h0
    exact am_run_next (x := (.tableswitch 60 0 4 #[35, 40, 45, 50, 55], 35, 0, 0, 0, 0)) (by decide +kernel) rfl
  rw [if_neg h0]
  by_cases h1 : a = 1
  · rw [if_pos h1]
    subst h1
    exact am_run_next (x := (.tableswitch 60 0 4 #[35, 40, 45, 50, 55], 35, 0, 0, 0, 0)) (by decide +kernel) rfl
  rw [if_neg h1]
  by_cases h2 : a = 2
  · rw [if_pos h2]
    subst h2
    exact am_run_next (x := (.tableswitch 60 0 4 #[35, 40, 45, 50, 55], 35, 0, 0, 0, 0)) (by decide +kernel) rfl
  rw [if_neg h2]
  by_cases h3 : a = 3
  · rw [if_pos h3]
    subst h3
    exact am_run_next (x := (.tableswitch 60 0 4 #[35, 40, 45, 50, 55], 35, 0, 0, 0, 0)) (by decide +kernel) rfl
  rw [if_neg h3]
  by_cases h4 : a = 4
  · rw [if_pos h4]
    subst h4
    exact am_run_next (x := (.tableswitch 60 0 4 #[35, 40, 45, 50, 55], 35, 0, 0, 0, 0)) (by decide +kernel) rfl
  rw [if_neg h4]
  have g0 := am_ne_i h0 (n := 0) (by decide)
  have g1 := am_ne_i h1 (n := 1) (by decide)
  have g2 := am_ne_i h2 (n := 2) (by decide)
  have g3 := am_ne_i h3 (n := 3) (by decide)
  have g4 := am_ne_i h4 (n := 4) (by decide)
  exact am_run_next (x := (.tableswitch 60 0 4 #[35, 40, 45, 50, 55], 35, 0, 0, 0, 0)) (by decide +kernel) (if_pos (by omega))
theorem r_Ni_part_36 {G : Nat → Value} {d : Nat} {st : List Value} {M : am_M} {l1 : Option Value} {v : Value} (hv : am_isr v = true) : am_run G d K_Ni_part (36, [some v, l1], st, M) = am_run G d K_Ni_part (37, [some v, l1], v :: st, M) := by
  rcases am_isr_cases hv with ⟨q, rfl⟩ | rfl
  · exact am_run_next (x := (.aload_n 0, 1, 0, 0, 0, 0)) (by decide +kernel) rfl
  · exact am_run_next (x := (.aload_n 0, 1, 0, 0, 0, 0)) (by decide +kernel) rfl
theorem r_Ni_part_37 {G : Nat → Value} {d : Nat} {st : List Value} {M : am_M} {l0 l1 : Option Value} {a : Nat} : am_run G d K_Ni_part (37, [l0, l1], .ref a :: st, M) = am_kf G d K_Ni_part 40 [l0, l1] st M (am_fld M a 3 0) := am_run_kf (x := (.getfield 7, 3, 3, 0, 3071, 0)) (by decide +kernel) rfl
theorem r_Ni_part_40 {G : Nat → Value} {d : Nat} {M : am_M} {l0 l1 : Option Value} {a : Int32} : am_run G d K_Ni_part (40, [l0, l1], [.int a], M) = some (some (.int a), M) := am_run_ret (x := (.ireturn, 1, 0, 0, 0, 0)) (by decide +kernel) rfl
theorem r_Ni_part_41 {G : Nat → Value} {d : Nat} {st : List Value} {M : am_M} {l1 : Option Value} {v : Value} (hv : am_isr v = true) : am_run G d K_Ni_part (41, [some v, l1], st, M) = am_run G d K_Ni_part (42, [some v, l1], v :: st, M) := by
  rcases am_isr_cases hv with ⟨q, rfl⟩ | rfl
  · exact am_run_next (x := (.aload_n 0, 1, 0, 0, 0, 0)) (by decide +kernel) rfl
  · exact am_run_next (x := (.aload_n 0, 1, 0, 0, 0, 0)) (by decide +kernel) rfl
theorem r_Ni_part_42 {G : Nat → Value} {d : Nat} {st : List Value} {M : am_M} {l0 l1 : Option Value} {a : Nat} : am_run G d K_Ni_part (42, [l0, l1], .ref a :: st, M) = am_kf G d K_Ni_part 45 [l0, l1] st M (am_fld M a 3 2) := am_run_kf (x := (.getfield 17, 3, 3, 2, 3076, 0)) (by decide +kernel) rfl
theorem r_Ni_part_45 {G : Nat → Value} {d : Nat} {M : am_M} {l0 l1 : Option Value} {a : Int32} : am_run G d K_Ni_part (45, [l0, l1], [.int a], M) = some (some (.int a), M) := am_run_ret (x := (.ireturn, 1, 0, 0, 0, 0)) (by decide +kernel) rfl
theorem r_Ni_part_46 {G : Nat → Value} {d : Nat} {st : List Value} {M : am_M} {l1 : Option Value} {v : Value} (hv : am_isr v = true) : am_run G d K_Ni_part (46, [some v, l1], st, M) = am_run G d K_Ni_part (47, [some v, l1], v :: st, M) := by
  rcases am_isr_cases hv with ⟨q, rfl⟩ | rfl
  · exact am_run_next (x := (.aload_n 0, 1, 0, 0, 0, 0)) (by decide +kernel) rfl
  · exact am_run_next (x := (.aload_n 0, 1, 0, 0, 0, 0)) (by decide +kernel) rfl
theorem r_Ni_part_47 {G : Nat → Value} {d : Nat} {st : List Value} {M : am_M} {l0 l1 : Option Value} {a : Nat} : am_run G d K_Ni_part (47, [l0, l1], .ref a :: st, M) = am_kf G d K_Ni_part 50 [l0, l1] st M (am_fld M a 3 3) := am_run_kf (x := (.getfield 20, 3, 3, 3, 3078, 0)) (by decide +kernel) rfl
theorem r_Ni_part_50 {G : Nat → Value} {d : Nat} {M : am_M} {l0 l1 : Option Value} {a : Int32} : am_run G d K_Ni_part (50, [l0, l1], [.int a], M) = some (some (.int a), M) := am_run_ret (x := (.ireturn, 1, 0, 0, 0, 0)) (by decide +kernel) rfl
theorem r_Ni_part_51 {G : Nat → Value} {d : Nat} {st : List Value} {M : am_M} {l1 : Option Value} {v : Value} (hv : am_isr v = true) : am_run G d K_Ni_part (51, [some v, l1], st, M) = am_run G d K_Ni_part (52, [some v, l1], v :: st, M) := by
  rcases am_isr_cases hv with ⟨q, rfl⟩ | rfl
  · exact am_run_next (x := (.aload_n 0, 1, 0, 0, 0, 0)) (by decide +kernel) rfl
  · exact am_run_next (x := (.aload_n 0, 1, 0, 0, 0, 0)) (by decide +kernel) rfl
theorem r_Ni_part_52 {G : Nat → Value} {d : Nat} {st : List Value} {M : am_M} {l0 l1 : Option Value} {a : Nat} : am_run G d K_Ni_part (52, [l0, l1], .ref a :: st, M) = am_kf G d K_Ni_part 55 [l0, l1] st M (am_fld M a 3 4) := am_run_kf (x := (.getfield 23, 3, 3, 4, 3080, 0)) (by decide +kernel) rfl
theorem r_Ni_part_55 {G : Nat → Value} {d : Nat} {M : am_M} {l0 l1 : Option Value} {a : Int32} : am_run G d K_Ni_part (55, [l0, l1], [.int a], M) = some (some (.int a), M) := am_run_ret (x := (.ireturn, 1, 0, 0, 0, 0)) (by decide +kernel) rfl
theorem r_Ni_part_56 {G : Nat → Value} {d : Nat} {st : List Value} {M : am_M} {l1 : Option Value} {v : Value} (hv : am_isr v = true) : am_run G d K_Ni_part (56, [some v, l1], st, M) = am_run G d K_Ni_part (57, [some v, l1], v :: st, M) := by
  rcases am_isr_cases hv with ⟨q, rfl⟩ | rfl
  · exact am_run_next (x := (.aload_n 0, 1, 0, 0, 0, 0)) (by decide +kernel) rfl
  · exact am_run_next (x := (.aload_n 0, 1, 0, 0, 0, 0)) (by decide +kernel) rfl
theorem r_Ni_part_57 {G : Nat → Value} {d : Nat} {st : List Value} {M : am_M} {l0 l1 : Option Value} {a : Nat} : am_run G d K_Ni_part (57, [l0, l1], .ref a :: st, M) = am_kf G d K_Ni_part 60 [l0, l1] st M (am_fld M a 3 5) := am_run_kf (x := (.getfield 26, 3, 3, 5, 3083, 0)) (by decide +kernel) rfl
theorem r_Ni_part_60 {G : Nat → Value} {d : Nat} {M : am_M} {l0 l1 : Option Value} {a : Int32} : am_run G d K_Ni_part (60, [l0, l1], [.int a], M) = some (some (.int a), M) := am_run_ret (x := (.ireturn, 1, 0, 0, 0, 0)) (by decide +kernel) rfl
theorem r_Ni_part_61 {G : Nat → Value} {d : Nat} {st : List Value} {M : am_M} {l1 : Option Value} {v : Value} (hv : am_isr v = true) : am_run G d K_Ni_part (61, [some v, l1], st, M) = am_run G d K_Ni_part (62, [some v, l1], v :: st, M) := by
  rcases am_isr_cases hv with ⟨q, rfl⟩ | rfl
  · exact am_run_next (x := (.aload_n 0, 1, 0, 0, 0, 0)) (by decide +kernel) rfl
  · exact am_run_next (x := (.aload_n 0, 1, 0, 0, 0, 0)) (by decide +kernel) rfl
theorem r_Ni_part_62 {G : Nat → Value} {d : Nat} {st : List Value} {M : am_M} {l0 l1 : Option Value} {a : Nat} : am_run G d K_Ni_part (62, [l0, l1], .ref a :: st, M) = am_kf G d K_Ni_part 65 [l0, l1] st M (am_fld M a 3 6) := am_run_kf (x := (.getfield 29, 3, 3, 6, 3086, 0)) (by decide +kernel) rfl
theorem r_Ni_part_65 {G : Nat → Value} {d : Nat} {M : am_M} {l0 l1 : Option Value} {a : Int32} : am_run G d K_Ni_part (65, [l0, l1], [.int a], M) = some (some (.int a), M) := am_run_ret (x := (.ireturn, 1, 0, 0, 0, 0)) (by decide +kernel) rfl
theorem r_Te_join_0 {G : Nat → Value} {d : Nat} {st : List Value} {M : am_M} {l1 l2 : Option Value} {v : Int32} : am_run G d K_Te_join (0, [some (.int v), l1, l2], st, M) = am_run G d K_Te_join (1, [some (.int v), l1, l2], .int v :: st, M) := am_run_next (x := (.iload_n 0, 1, 0, 0, 0, 0)) (by decide +kernel) rfl
theorem r_Te_join_1 {G : Nat → Value} {d : Nat} {st : List Value} {M : am_M} {l0 l1 l2 : Option Value} {a : Int32} : am_run G d K_Te_join (1, [l0, l1, l2], .int a :: st, M) = if a = (-15) then am_run G d K_Te_join (74, [l0, l1, l2], st, M) else if a = (-14) then am_run G d K_Te_join (63, [l0, l1, l2], st, M) else if a = (-13) then am_run G d K_Te_join (52, [l0, l1, l2], st, M) else if a = (-12) then am_run G d K_Te_join (48, [l0, l1, l2], st, M) else if a = (-11) then am_run G d K_Te_join (44, [l0, l1, l2], st, M) else if a = (-10) then am_run G d K_Te_join (40, [l0, l1, l2], st, M) else am_run G d K_Te_join (88, [l0, l1, l2], st, M) := by
  by_cases h0 : a = (-15)
  · rw [if_pos h0]
    subst h0
    exact am_run_next (x := (.tableswitch 87 (-15) (-10) #[73, 62, 51, 47, 43, 39], 39, 0, 0, 0, 0)) (by decide +kernel) rfl
  rw [if_neg h0]
  by_cases h1 : a = (-14)
  · rw [if_pos h1]
    subst h1
    exact am_run_next (x := (.tableswitch 87 (-15) (-10) #[73, 62, 51, 47, 43, 39], 39, 0, 0, 0, 0)) (by decide +kernel) rfl
  rw [if_neg h1]
  by_cases h2 : a = (-13)
  · rw [if_pos h2]
    subst h2
    exact am_run_next (x := (.tableswitch 87 (-15) (-10) #[73, 62, 51, 47, 43, 39], 39, 0, 0, 0, 0)) (by decide +kernel) rfl
  rw [if_neg h2]
  by_cases h3 : a = (-12)
  · rw [if_pos h3]
    subst h3
    exact am_run_next (x := (.tableswitch 87 (-15) (-10) #[73, 62, 51, 47, 43, 39], 39, 0, 0, 0, 0)) (by decide +kernel) rfl
  rw [if_neg h3]
  by_cases h4 : a = (-11)
  · rw [if_pos h4]
    subst h4
    exact am_run_next (x := (.tableswitch 87 (-15) (-10) #[73, 62, 51, 47, 43, 39], 39, 0, 0, 0, 0)) (by decide +kernel) rfl
  rw [if_neg h4]
  by_cases h5 : a = (-10)
  · rw [if_pos h5]
    subst h5
    exact am_run_next (x := (.tableswitch 87 (-15) (-10) #[73, 62, 51, 47, 43, 39], 39, 0, 0, 0, 0)) (by decide +kernel) rfl
  rw [if_neg h5]
  have g0 := am_ne_i h0 (n := (-15)) (by decide)
  have g1 := am_ne_i h1 (n := (-14)) (by decide)
  have g2 := am_ne_i h2 (n := (-13)) (by decide)
  have g3 := am_ne_i h3 (n := (-12)) (by decide)
  have g4 := am_ne_i h4 (n := (-11)) (by decide)
  have g5 := am_ne_i h5 (n := (-10)) (by decide)
  exact am_run_next (x := (.tableswitch 87 (-15) (-10) #[73, 62, 51, 47, 43, 39], 39, 0, 0, 0, 0)) (by decide +kernel) (if_pos (by omega))
theorem r_Te_join_40 {G : Nat → Value} {d : Nat} {st : List Value} {M : am_M} {l0 l2 : Option Value} {v : Int32} : am_run G d K_Te_join (40, [l0, some (.int v), l2], st, M) = am_run G d K_Te_join (41, [l0, some (.int v), l2], .int v :: st, M) := am_run_next (x := (.iload_n 1, 1, 0, 0, 0, 0)) (by decide +kernel) rfl
theorem r_Te_join_41 {G : Nat → Value} {d : Nat} {st : List Value} {M : am_M} {l0 l1 : Option Value} {v : Int32} : am_run G d K_Te_join (41, [l0, l1, some (.int v)], st, M) = am_run G d K_Te_join (42, [l0, l1, some (.int v)], .int v :: st, M) := am_run_next (x := (.iload_n 2, 1, 0, 0, 0, 0)) (by decide +kernel) rfl
theorem r_Te_join_42 {G : Nat → Value} {d : Nat} {st : List Value} {M : am_M} {l0 l1 l2 : Option Value} {a b : Int32} : am_run G d K_Te_join (42, [l0, l1, l2], .int b :: .int a :: st, M) = am_run G d K_Te_join (43, [l0, l1, l2], .int (a + b) :: st, M) := am_run_next (x := (.iadd, 1, 0, 0, 0, 0)) (by decide +kernel) rfl
theorem r_Te_join_43 {G : Nat → Value} {d : Nat} {M : am_M} {l0 l1 l2 : Option Value} {a : Int32} : am_run G d K_Te_join (43, [l0, l1, l2], [.int a], M) = some (some (.int a), M) := am_run_ret (x := (.ireturn, 1, 0, 0, 0, 0)) (by decide +kernel) rfl
theorem r_Te_join_44 {G : Nat → Value} {d : Nat} {st : List Value} {M : am_M} {l0 l2 : Option Value} {v : Int32} : am_run G d K_Te_join (44, [l0, some (.int v), l2], st, M) = am_run G d K_Te_join (45, [l0, some (.int v), l2], .int v :: st, M) := am_run_next (x := (.iload_n 1, 1, 0, 0, 0, 0)) (by decide +kernel) rfl
theorem r_Te_join_45 {G : Nat → Value} {d : Nat} {st : List Value} {M : am_M} {l0 l1 : Option Value} {v : Int32} : am_run G d K_Te_join (45, [l0, l1, some (.int v)], st, M) = am_run G d K_Te_join (46, [l0, l1, some (.int v)], .int v :: st, M) := am_run_next (x := (.iload_n 2, 1, 0, 0, 0, 0)) (by decide +kernel) rfl
theorem r_Te_join_46 {G : Nat → Value} {d : Nat} {st : List Value} {M : am_M} {l0 l1 l2 : Option Value} {a b : Int32} : am_run G d K_Te_join (46, [l0, l1, l2], .int b :: .int a :: st, M) = am_run G d K_Te_join (47, [l0, l1, l2], .int (a - b) :: st, M) := am_run_next (x := (.isub, 1, 0, 0, 0, 0)) (by decide +kernel) rfl
theorem r_Te_join_47 {G : Nat → Value} {d : Nat} {M : am_M} {l0 l1 l2 : Option Value} {a : Int32} : am_run G d K_Te_join (47, [l0, l1, l2], [.int a], M) = some (some (.int a), M) := am_run_ret (x := (.ireturn, 1, 0, 0, 0, 0)) (by decide +kernel) rfl
theorem r_Te_join_48 {G : Nat → Value} {d : Nat} {st : List Value} {M : am_M} {l0 l2 : Option Value} {v : Int32} : am_run G d K_Te_join (48, [l0, some (.int v), l2], st, M) = am_run G d K_Te_join (49, [l0, some (.int v), l2], .int v :: st, M) := am_run_next (x := (.iload_n 1, 1, 0, 0, 0, 0)) (by decide +kernel) rfl
theorem r_Te_join_49 {G : Nat → Value} {d : Nat} {st : List Value} {M : am_M} {l0 l1 : Option Value} {v : Int32} : am_run G d K_Te_join (49, [l0, l1, some (.int v)], st, M) = am_run G d K_Te_join (50, [l0, l1, some (.int v)], .int v :: st, M) := am_run_next (x := (.iload_n 2, 1, 0, 0, 0, 0)) (by decide +kernel) rfl
theorem r_Te_join_50 {G : Nat → Value} {d : Nat} {st : List Value} {M : am_M} {l0 l1 l2 : Option Value} {a b : Int32} : am_run G d K_Te_join (50, [l0, l1, l2], .int b :: .int a :: st, M) = am_run G d K_Te_join (51, [l0, l1, l2], .int (a * b) :: st, M) := am_run_next (x := (.imul, 1, 0, 0, 0, 0)) (by decide +kernel) rfl
theorem r_Te_join_51 {G : Nat → Value} {d : Nat} {M : am_M} {l0 l1 l2 : Option Value} {a : Int32} : am_run G d K_Te_join (51, [l0, l1, l2], [.int a], M) = some (some (.int a), M) := am_run_ret (x := (.ireturn, 1, 0, 0, 0, 0)) (by decide +kernel) rfl
theorem r_Te_join_52 {G : Nat → Value} {d : Nat} {st : List Value} {M : am_M} {l0 l2 : Option Value} {v : Int32} : am_run G d K_Te_join (52, [l0, some (.int v), l2], st, M) = am_run G d K_Te_join (53, [l0, some (.int v), l2], .int v :: st, M) := am_run_next (x := (.iload_n 1, 1, 0, 0, 0, 0)) (by decide +kernel) rfl
theorem r_Te_join_53 {G : Nat → Value} {d : Nat} {st : List Value} {M : am_M} {l0 l1 : Option Value} {v : Int32} : am_run G d K_Te_join (53, [l0, l1, some (.int v)], st, M) = am_run G d K_Te_join (54, [l0, l1, some (.int v)], .int v :: st, M) := am_run_next (x := (.iload_n 2, 1, 0, 0, 0, 0)) (by decide +kernel) rfl
theorem r_Te_join_54 {G : Nat → Value} {d : Nat} {st : List Value} {M : am_M} {l0 l1 l2 : Option Value} {a b : Int32} : am_run G d K_Te_join (54, [l0, l1, l2], .int b :: .int a :: st, M) = if b ≤ a then am_run G d K_Te_join (61, [l0, l1, l2], st, M) else am_run G d K_Te_join (57, [l0, l1, l2], st, M) := by
  split
  · next h => exact am_run_next (x := (.if_icmp .ge 7, 3, 0, 0, 0, 0)) (by decide +kernel) (am_br_t (decide_eq_true h) (by decide))
  · next h => exact am_run_next (x := (.if_icmp .ge 7, 3, 0, 0, 0, 0)) (by decide +kernel) (am_br_f (decide_eq_false h) (by decide))
theorem r_Te_join_57 {G : Nat → Value} {d : Nat} {st : List Value} {M : am_M} {l0 l1 l2 : Option Value} : am_run G d K_Te_join (57, [l0, l1, l2], st, M) = am_run G d K_Te_join (58, [l0, l1, l2], .int 1 :: st, M) := am_run_next (x := (.iconst 1, 1, 0, 0, 0, 0)) (by decide +kernel) rfl
theorem r_Te_join_58 {G : Nat → Value} {d : Nat} {st : List Value} {M : am_M} {l0 l1 l2 : Option Value} : am_run G d K_Te_join (58, [l0, l1, l2], st, M) = am_run G d K_Te_join (62, [l0, l1, l2], st, M) := am_run_next (x := (.goto 4, 3, 0, 0, 0, 0)) (by decide +kernel) rfl
theorem r_Te_join_61 {G : Nat → Value} {d : Nat} {st : List Value} {M : am_M} {l0 l1 l2 : Option Value} : am_run G d K_Te_join (61, [l0, l1, l2], st, M) = am_run G d K_Te_join (62, [l0, l1, l2], .int 0 :: st, M) := am_run_next (x := (.iconst 0, 1, 0, 0, 0, 0)) (by decide +kernel) rfl
theorem r_Te_join_62 {G : Nat → Value} {d : Nat} {M : am_M} {l0 l1 l2 : Option Value} {a : Int32} : am_run G d K_Te_join (62, [l0, l1, l2], [.int a], M) = some (some (.int a), M) := am_run_ret (x := (.ireturn, 1, 0, 0, 0, 0)) (by decide +kernel) rfl
theorem r_Te_join_63 {G : Nat → Value} {d : Nat} {st : List Value} {M : am_M} {l0 l2 : Option Value} {v : Int32} : am_run G d K_Te_join (63, [l0, some (.int v), l2], st, M) = am_run G d K_Te_join (64, [l0, some (.int v), l2], .int v :: st, M) := am_run_next (x := (.iload_n 1, 1, 0, 0, 0, 0)) (by decide +kernel) rfl
theorem r_Te_join_64 {G : Nat → Value} {d : Nat} {st : List Value} {M : am_M} {l0 l1 : Option Value} {v : Int32} : am_run G d K_Te_join (64, [l0, l1, some (.int v)], st, M) = am_run G d K_Te_join (65, [l0, l1, some (.int v)], .int v :: st, M) := am_run_next (x := (.iload_n 2, 1, 0, 0, 0, 0)) (by decide +kernel) rfl
theorem r_Te_join_65 {G : Nat → Value} {d : Nat} {st : List Value} {M : am_M} {l0 l1 l2 : Option Value} {a b : Int32} : am_run G d K_Te_join (65, [l0, l1, l2], .int b :: .int a :: st, M) = if ¬ a = b then am_run G d K_Te_join (72, [l0, l1, l2], st, M) else am_run G d K_Te_join (68, [l0, l1, l2], st, M) := by
  split
  · next h => exact am_run_next (x := (.if_icmp .ne 7, 3, 0, 0, 0, 0)) (by decide +kernel) (am_br_t (decide_eq_true h) (by decide))
  · next h => exact am_run_next (x := (.if_icmp .ne 7, 3, 0, 0, 0, 0)) (by decide +kernel) (am_br_f (decide_eq_false h) (by decide))
theorem r_Te_join_68 {G : Nat → Value} {d : Nat} {st : List Value} {M : am_M} {l0 l1 l2 : Option Value} : am_run G d K_Te_join (68, [l0, l1, l2], st, M) = am_run G d K_Te_join (69, [l0, l1, l2], .int 1 :: st, M) := am_run_next (x := (.iconst 1, 1, 0, 0, 0, 0)) (by decide +kernel) rfl
theorem r_Te_join_69 {G : Nat → Value} {d : Nat} {st : List Value} {M : am_M} {l0 l1 l2 : Option Value} : am_run G d K_Te_join (69, [l0, l1, l2], st, M) = am_run G d K_Te_join (73, [l0, l1, l2], st, M) := am_run_next (x := (.goto 4, 3, 0, 0, 0, 0)) (by decide +kernel) rfl
theorem r_Te_join_72 {G : Nat → Value} {d : Nat} {st : List Value} {M : am_M} {l0 l1 l2 : Option Value} : am_run G d K_Te_join (72, [l0, l1, l2], st, M) = am_run G d K_Te_join (73, [l0, l1, l2], .int 0 :: st, M) := am_run_next (x := (.iconst 0, 1, 0, 0, 0, 0)) (by decide +kernel) rfl
theorem r_Te_join_73 {G : Nat → Value} {d : Nat} {M : am_M} {l0 l1 l2 : Option Value} {a : Int32} : am_run G d K_Te_join (73, [l0, l1, l2], [.int a], M) = some (some (.int a), M) := am_run_ret (x := (.ireturn, 1, 0, 0, 0, 0)) (by decide +kernel) rfl
theorem r_Te_join_74 {G : Nat → Value} {d : Nat} {st : List Value} {M : am_M} {l0 l2 : Option Value} {v : Int32} : am_run G d K_Te_join (74, [l0, some (.int v), l2], st, M) = am_run G d K_Te_join (75, [l0, some (.int v), l2], .int v :: st, M) := am_run_next (x := (.iload_n 1, 1, 0, 0, 0, 0)) (by decide +kernel) rfl
theorem r_Te_join_75 {G : Nat → Value} {d : Nat} {st : List Value} {M : am_M} {l0 l1 l2 : Option Value} {a : Int32} : am_run G d K_Te_join (75, [l0, l1, l2], .int a :: st, M) = if a = 0 then am_run G d K_Te_join (86, [l0, l1, l2], st, M) else am_run G d K_Te_join (78, [l0, l1, l2], st, M) := by
  split
  · next h => exact am_run_next (x := (.ifCond .eq 11, 3, 0, 0, 0, 0)) (by decide +kernel) (am_br_t (decide_eq_true h) (by decide))
  · next h => exact am_run_next (x := (.ifCond .eq 11, 3, 0, 0, 0, 0)) (by decide +kernel) (am_br_f (decide_eq_false h) (by decide))
theorem r_Te_join_78 {G : Nat → Value} {d : Nat} {st : List Value} {M : am_M} {l0 l1 : Option Value} {v : Int32} : am_run G d K_Te_join (78, [l0, l1, some (.int v)], st, M) = am_run G d K_Te_join (79, [l0, l1, some (.int v)], .int v :: st, M) := am_run_next (x := (.iload_n 2, 1, 0, 0, 0, 0)) (by decide +kernel) rfl
theorem r_Te_join_79 {G : Nat → Value} {d : Nat} {st : List Value} {M : am_M} {l0 l1 l2 : Option Value} {a : Int32} : am_run G d K_Te_join (79, [l0, l1, l2], .int a :: st, M) = if a = 0 then am_run G d K_Te_join (86, [l0, l1, l2], st, M) else am_run G d K_Te_join (82, [l0, l1, l2], st, M) := by
  split
  · next h => exact am_run_next (x := (.ifCond .eq 7, 3, 0, 0, 0, 0)) (by decide +kernel) (am_br_t (decide_eq_true h) (by decide))
  · next h => exact am_run_next (x := (.ifCond .eq 7, 3, 0, 0, 0, 0)) (by decide +kernel) (am_br_f (decide_eq_false h) (by decide))
theorem r_Te_join_82 {G : Nat → Value} {d : Nat} {st : List Value} {M : am_M} {l0 l1 l2 : Option Value} : am_run G d K_Te_join (82, [l0, l1, l2], st, M) = am_run G d K_Te_join (83, [l0, l1, l2], .int 1 :: st, M) := am_run_next (x := (.iconst 1, 1, 0, 0, 0, 0)) (by decide +kernel) rfl
theorem r_Te_join_83 {G : Nat → Value} {d : Nat} {st : List Value} {M : am_M} {l0 l1 l2 : Option Value} : am_run G d K_Te_join (83, [l0, l1, l2], st, M) = am_run G d K_Te_join (87, [l0, l1, l2], st, M) := am_run_next (x := (.goto 4, 3, 0, 0, 0, 0)) (by decide +kernel) rfl
theorem r_Te_join_86 {G : Nat → Value} {d : Nat} {st : List Value} {M : am_M} {l0 l1 l2 : Option Value} : am_run G d K_Te_join (86, [l0, l1, l2], st, M) = am_run G d K_Te_join (87, [l0, l1, l2], .int 0 :: st, M) := am_run_next (x := (.iconst 0, 1, 0, 0, 0, 0)) (by decide +kernel) rfl
theorem r_Te_join_87 {G : Nat → Value} {d : Nat} {M : am_M} {l0 l1 l2 : Option Value} {a : Int32} : am_run G d K_Te_join (87, [l0, l1, l2], [.int a], M) = some (some (.int a), M) := am_run_ret (x := (.ireturn, 1, 0, 0, 0, 0)) (by decide +kernel) rfl
theorem r_Te_join_88 {G : Nat → Value} {d : Nat} {st : List Value} {M : am_M} {l0 l2 : Option Value} {v : Int32} : am_run G d K_Te_join (88, [l0, some (.int v), l2], st, M) = am_run G d K_Te_join (89, [l0, some (.int v), l2], .int v :: st, M) := am_run_next (x := (.iload_n 1, 1, 0, 0, 0, 0)) (by decide +kernel) rfl
theorem r_Te_join_89 {G : Nat → Value} {d : Nat} {st : List Value} {M : am_M} {l0 l1 l2 : Option Value} {a : Int32} : am_run G d K_Te_join (89, [l0, l1, l2], .int a :: st, M) = if ¬ a = 0 then am_run G d K_Te_join (96, [l0, l1, l2], st, M) else am_run G d K_Te_join (92, [l0, l1, l2], st, M) := by
  split
  · next h => exact am_run_next (x := (.ifCond .ne 7, 3, 0, 0, 0, 0)) (by decide +kernel) (am_br_t (decide_eq_true h) (by decide))
  · next h => exact am_run_next (x := (.ifCond .ne 7, 3, 0, 0, 0, 0)) (by decide +kernel) (am_br_f (decide_eq_false h) (by decide))
theorem r_Te_join_92 {G : Nat → Value} {d : Nat} {st : List Value} {M : am_M} {l0 l1 : Option Value} {v : Int32} : am_run G d K_Te_join (92, [l0, l1, some (.int v)], st, M) = am_run G d K_Te_join (93, [l0, l1, some (.int v)], .int v :: st, M) := am_run_next (x := (.iload_n 2, 1, 0, 0, 0, 0)) (by decide +kernel) rfl
theorem r_Te_join_93 {G : Nat → Value} {d : Nat} {st : List Value} {M : am_M} {l0 l1 l2 : Option Value} {a : Int32} : am_run G d K_Te_join (93, [l0, l1, l2], .int a :: st, M) = if a = 0 then am_run G d K_Te_join (100, [l0, l1, l2], st, M) else am_run G d K_Te_join (96, [l0, l1, l2], st, M) := by
  split
  · next h => exact am_run_next (x := (.ifCond .eq 7, 3, 0, 0, 0, 0)) (by decide +kernel) (am_br_t (decide_eq_true h) (by decide))
  · next h => exact am_run_next (x := (.ifCond .eq 7, 3, 0, 0, 0, 0)) (by decide +kernel) (am_br_f (decide_eq_false h) (by decide))
theorem r_Te_join_96 {G : Nat → Value} {d : Nat} {st : List Value} {M : am_M} {l0 l1 l2 : Option Value} : am_run G d K_Te_join (96, [l0, l1, l2], st, M) = am_run G d K_Te_join (97, [l0, l1, l2], .int 1 :: st, M) := am_run_next (x := (.iconst 1, 1, 0, 0, 0, 0)) (by decide +kernel) rfl
theorem r_Te_join_97 {G : Nat → Value} {d : Nat} {st : List Value} {M : am_M} {l0 l1 l2 : Option Value} : am_run G d K_Te_join (97, [l0, l1, l2], st, M) = am_run G d K_Te_join (101, [l0, l1, l2], st, M) := am_run_next (x := (.goto 4, 3, 0, 0, 0, 0)) (by decide +kernel) rfl
theorem r_Te_join_100 {G : Nat → Value} {d : Nat} {st : List Value} {M : am_M} {l0 l1 l2 : Option Value} : am_run G d K_Te_join (100, [l0, l1, l2], st, M) = am_run G d K_Te_join (101, [l0, l1, l2], .int 0 :: st, M) := am_run_next (x := (.iconst 0, 1, 0, 0, 0, 0)) (by decide +kernel) rfl
theorem r_Te_join_101 {G : Nat → Value} {d : Nat} {M : am_M} {l0 l1 l2 : Option Value} {a : Int32} : am_run G d K_Te_join (101, [l0, l1, l2], [.int a], M) = some (some (.int a), M) := am_run_ret (x := (.ireturn, 1, 0, 0, 0, 0)) (by decide +kernel) rfl
theorem r_H_dueOf_0 {G : Nat → Value} {d : Nat} {st : List Value} {M : am_M} {l1 l2 l3 : Option Value} {v : Value} (hv : am_isr v = true) : am_run G d K_H_dueOf (0, [some v, l1, l2, l3], st, M) = am_run G d K_H_dueOf (1, [some v, l1, l2, l3], v :: st, M) := by
  rcases am_isr_cases hv with ⟨q, rfl⟩ | rfl
  · exact am_run_next (x := (.aload_n 0, 1, 0, 0, 0, 0)) (by decide +kernel) rfl
  · exact am_run_next (x := (.aload_n 0, 1, 0, 0, 0, 0)) (by decide +kernel) rfl
theorem r_H_dueOf_1 {G : Nat → Value} {d : Nat} {st : List Value} {M : am_M} {l0 l2 l3 : Option Value} {v : Value} (hv : am_isr v = true) : am_run G d K_H_dueOf (1, [l0, some v, l2, l3], st, M) = am_run G d K_H_dueOf (2, [l0, some v, l2, l3], v :: st, M) := by
  rcases am_isr_cases hv with ⟨q, rfl⟩ | rfl
  · exact am_run_next (x := (.aload_n 1, 1, 0, 0, 0, 0)) (by decide +kernel) rfl
  · exact am_run_next (x := (.aload_n 1, 1, 0, 0, 0, 0)) (by decide +kernel) rfl
theorem r_H_dueOf_2 {G : Nat → Value} {d : Nat} {st : List Value} {M : am_M} {l0 l1 l2 l3 : Option Value} {a : Nat} : am_run G d K_H_dueOf (2, [l0, l1, l2, l3], .ref a :: st, M) = am_kf G d K_H_dueOf 5 [l0, l1, l2, l3] st M (am_fld M a 3 1) := am_run_kf (x := (.getfield 378, 3, 3, 1, 3075, 1)) (by decide +kernel) rfl
theorem r_H_dueOf_5 {G : Nat → Value} {d : Nat} {st : List Value} {M : am_M} {l0 l2 l3 : Option Value} {v : Value} (hv : am_isr v = true) : am_run G d K_H_dueOf (5, [l0, some v, l2, l3], st, M) = am_run G d K_H_dueOf (6, [l0, some v, l2, l3], v :: st, M) := by
  rcases am_isr_cases hv with ⟨q, rfl⟩ | rfl
  · exact am_run_next (x := (.aload_n 1, 1, 0, 0, 0, 0)) (by decide +kernel) rfl
  · exact am_run_next (x := (.aload_n 1, 1, 0, 0, 0, 0)) (by decide +kernel) rfl
theorem r_H_dueOf_6 {G : Nat → Value} {d : Nat} {st : List Value} {M : am_M} {l0 l1 l2 l3 : Option Value} {a : Nat} : am_run G d K_H_dueOf (6, [l0, l1, l2, l3], .ref a :: st, M) = am_kf G d K_H_dueOf 9 [l0, l1, l2, l3] st M (am_fld M a 3 3) := am_run_kf (x := (.getfield 382, 3, 3, 3, 3079, 1)) (by decide +kernel) rfl
theorem r_H_dueOf_9 {G : Nat → Value} {d : Nat} {st : List Value} {M : am_M} {l0 l1 l2 l3 : Option Value} {q : Nat} {a0 : Value} {a1 : Int32} (h0 : am_isr a0 = true) (hq : am_cls M q = some 9) (h8 : am_sw st ≤ 8) : am_run G d K_H_dueOf (9, [l0, l1, l2, l3], .int a1 :: a0 :: .ref q :: st, M) = am_k G d K_H_dueOf 12 [l0, l1, l2, l3] st (am_ex G d K_H_eatenIn [.ref q, a0, .int a1] M) := by
  have he : (am_exp [.ref q, a0, .int a1]).length ≤ am_mL K_H_eatenIn := by
    rcases am_isr_cases h0 with ⟨z0, rfl⟩ | rfl <;> exact Nat.le_of_ble_eq_true rfl
  exact am_run_iv (i := 130) (n := 2) (pl := 3038) (Bs := [a0, .int a1]) (z := K_H_eatenIn) (by decide +kernel) hq h8 rfl he rfl
theorem r_H_dueOf_12 {G : Nat → Value} {d : Nat} {st : List Value} {M : am_M} {l1 l2 l3 : Option Value} {v : Value} (hv : am_isr v = true) : am_run G d K_H_dueOf (12, [some v, l1, l2, l3], st, M) = am_run G d K_H_dueOf (13, [some v, l1, l2, l3], v :: st, M) := by
  rcases am_isr_cases hv with ⟨q, rfl⟩ | rfl
  · exact am_run_next (x := (.aload_n 0, 1, 0, 0, 0, 0)) (by decide +kernel) rfl
  · exact am_run_next (x := (.aload_n 0, 1, 0, 0, 0, 0)) (by decide +kernel) rfl
theorem r_H_dueOf_13 {G : Nat → Value} {d : Nat} {st : List Value} {M : am_M} {l0 l2 l3 : Option Value} {v : Value} (hv : am_isr v = true) : am_run G d K_H_dueOf (13, [l0, some v, l2, l3], st, M) = am_run G d K_H_dueOf (14, [l0, some v, l2, l3], v :: st, M) := by
  rcases am_isr_cases hv with ⟨q, rfl⟩ | rfl
  · exact am_run_next (x := (.aload_n 1, 1, 0, 0, 0, 0)) (by decide +kernel) rfl
  · exact am_run_next (x := (.aload_n 1, 1, 0, 0, 0, 0)) (by decide +kernel) rfl
theorem r_H_dueOf_14 {G : Nat → Value} {d : Nat} {st : List Value} {M : am_M} {l1 l2 l3 : Option Value} {v : Value} (hv : am_isr v = true) : am_run G d K_H_dueOf (14, [some v, l1, l2, l3], st, M) = am_run G d K_H_dueOf (15, [some v, l1, l2, l3], v :: st, M) := by
  rcases am_isr_cases hv with ⟨q, rfl⟩ | rfl
  · exact am_run_next (x := (.aload_n 0, 1, 0, 0, 0, 0)) (by decide +kernel) rfl
  · exact am_run_next (x := (.aload_n 0, 1, 0, 0, 0, 0)) (by decide +kernel) rfl
theorem r_H_dueOf_15 {G : Nat → Value} {d : Nat} {st : List Value} {M : am_M} {l0 l1 l2 l3 : Option Value} {a : Nat} : am_run G d K_H_dueOf (15, [l0, l1, l2, l3], .ref a :: st, M) = am_kf G d K_H_dueOf 18 [l0, l1, l2, l3] st M (am_fld M a 9 9) := am_run_kf (x := (.getfield 39, 3, 9, 9, 2133, 0)) (by decide +kernel) rfl
theorem r_H_dueOf_18 {G : Nat → Value} {d : Nat} {st : List Value} {M : am_M} {l0 l1 l2 l3 : Option Value} : am_run G d K_H_dueOf (18, [l0, l1, l2, l3], st, M) = am_run G d K_H_dueOf (19, [l0, l1, l2, l3], .int 1 :: st, M) := am_run_next (x := (.iconst 1, 1, 0, 0, 0, 0)) (by decide +kernel) rfl
theorem r_H_dueOf_19 {G : Nat → Value} {d : Nat} {st : List Value} {M : am_M} {l0 l1 l2 l3 : Option Value} {a : Nat} {i : Int32} : am_run G d K_H_dueOf (19, [l0, l1, l2, l3], .int i :: .ref a :: st, M) = am_kf G d K_H_dueOf 20 [l0, l1, l2, l3] st M (am_ag 0 M a i) := am_run_kf (x := (.iaload, 1, 0, 0, 0, 0)) (by decide +kernel) rfl
theorem r_H_dueOf_20 {G : Nat → Value} {d : Nat} {st : List Value} {M : am_M} {l0 l1 l2 l3 : Option Value} {q : Nat} {a0 : Value} {a1 : Int32} (h0 : am_isr a0 = true) (hq : am_cls M q = some 9) (h8 : am_sw st ≤ 8) : am_run G d K_H_dueOf (20, [l0, l1, l2, l3], .int a1 :: a0 :: .ref q :: st, M) = am_k G d K_H_dueOf 23 [l0, l1, l2, l3] st (am_ex G d K_H_moreOf [.ref q, a0, .int a1] M) := by
  have he : (am_exp [.ref q, a0, .int a1]).length ≤ am_mL K_H_moreOf := by
    rcases am_isr_cases h0 with ⟨z0, rfl⟩ | rfl <;> exact Nat.le_of_ble_eq_true rfl
  exact am_run_iv (i := 151) (n := 2) (pl := 3110) (Bs := [a0, .int a1]) (z := K_H_moreOf) (by decide +kernel) hq h8 rfl he rfl
theorem r_H_dueOf_23 {G : Nat → Value} {d : Nat} {st : List Value} {M : am_M} {l0 l1 l2 l3 : Option Value} {a b : Int64} : am_run G d K_H_dueOf (23, [l0, l1, l2, l3], .long b :: .long a :: st, M) = am_run G d K_H_dueOf (24, [l0, l1, l2, l3], .long (a + b) :: st, M) := am_run_next (x := (.ladd, 1, 0, 0, 0, 0)) (by decide +kernel) rfl
theorem r_H_dueOf_24 {G : Nat → Value} {d : Nat} {st : List Value} {M : am_M} {l0 l1 l2 l3 : Option Value} {v : Int64} (hc : am_c1 l1 = true) : am_run G d K_H_dueOf (24, [l0, l1, l2, l3], .long v :: st, M) = am_run G d K_H_dueOf (25, [l0, l1, some (.long v), none], st, M) := by
  rcases am_c1_cases hc with rfl | ⟨q, rfl⟩ | ⟨q, rfl⟩ | rfl
  · exact am_run_next (x := (.lstore_n 2, 1, 0, 0, 0, 0)) (by decide +kernel) rfl
  · exact am_run_next (x := (.lstore_n 2, 1, 0, 0, 0, 0)) (by decide +kernel) rfl
  · exact am_run_next (x := (.lstore_n 2, 1, 0, 0, 0, 0)) (by decide +kernel) rfl
  · exact am_run_next (x := (.lstore_n 2, 1, 0, 0, 0, 0)) (by decide +kernel) rfl
theorem r_H_dueOf_24_k {G : Nat → Value} {d : Nat} {st : List Value} {M : am_M} {l0 l2 l3 : Option Value} {v : Int64} {z : Int64} : am_run G d K_H_dueOf (24, [l0, some (.long z), l2, l3], .long v :: st, M) = am_run G d K_H_dueOf (25, [l0, none, some (.long v), none], st, M) := am_run_next (x := (.lstore_n 2, 1, 0, 0, 0, 0)) (by decide +kernel) rfl
theorem r_H_dueOf_25 {G : Nat → Value} {d : Nat} {st : List Value} {M : am_M} {l0 l2 l3 : Option Value} {v : Value} (hv : am_isr v = true) : am_run G d K_H_dueOf (25, [l0, some v, l2, l3], st, M) = am_run G d K_H_dueOf (26, [l0, some v, l2, l3], v :: st, M) := by
  rcases am_isr_cases hv with ⟨q, rfl⟩ | rfl
  · exact am_run_next (x := (.aload_n 1, 1, 0, 0, 0, 0)) (by decide +kernel) rfl
  · exact am_run_next (x := (.aload_n 1, 1, 0, 0, 0, 0)) (by decide +kernel) rfl
theorem r_H_dueOf_26 {G : Nat → Value} {d : Nat} {st : List Value} {M : am_M} {l0 l1 l2 l3 : Option Value} {a : Nat} : am_run G d K_H_dueOf (26, [l0, l1, l2, l3], .ref a :: st, M) = am_kf G d K_H_dueOf 29 [l0, l1, l2, l3] st M (am_fld M a 3 1) := am_run_kf (x := (.getfield 378, 3, 3, 1, 3075, 1)) (by decide +kernel) rfl
theorem r_H_dueOf_29 {G : Nat → Value} {d : Nat} {st : List Value} {M : am_M} {l1 l2 l3 : Option Value} {v : Value} (hv : am_isr v = true) : am_run G d K_H_dueOf (29, [some v, l1, l2, l3], st, M) = am_run G d K_H_dueOf (30, [some v, l1, l2, l3], v :: st, M) := by
  rcases am_isr_cases hv with ⟨q, rfl⟩ | rfl
  · exact am_run_next (x := (.aload_n 0, 1, 0, 0, 0, 0)) (by decide +kernel) rfl
  · exact am_run_next (x := (.aload_n 0, 1, 0, 0, 0, 0)) (by decide +kernel) rfl
theorem r_H_dueOf_30 {G : Nat → Value} {d : Nat} {st : List Value} {M : am_M} {l0 l1 l2 l3 : Option Value} {a : Nat} : am_run G d K_H_dueOf (30, [l0, l1, l2, l3], .ref a :: st, M) = am_kf G d K_H_dueOf 33 [l0, l1, l2, l3] st M (am_fld M a 9 9) := am_run_kf (x := (.getfield 39, 3, 9, 9, 2133, 0)) (by decide +kernel) rfl
theorem r_H_dueOf_33 {G : Nat → Value} {d : Nat} {st : List Value} {M : am_M} {l0 l1 l2 l3 : Option Value} : am_run G d K_H_dueOf (33, [l0, l1, l2, l3], st, M) = am_run G d K_H_dueOf (34, [l0, l1, l2, l3], .int 0 :: st, M) := am_run_next (x := (.iconst 0, 1, 0, 0, 0, 0)) (by decide +kernel) rfl
theorem r_H_dueOf_34 {G : Nat → Value} {d : Nat} {st : List Value} {M : am_M} {l0 l1 l2 l3 : Option Value} {a : Nat} {i : Int32} : am_run G d K_H_dueOf (34, [l0, l1, l2, l3], .int i :: .ref a :: st, M) = am_kf G d K_H_dueOf 35 [l0, l1, l2, l3] st M (am_ag 0 M a i) := am_run_kf (x := (.iaload, 1, 0, 0, 0, 0)) (by decide +kernel) rfl
theorem r_H_dueOf_35 {G : Nat → Value} {d : Nat} {st : List Value} {M : am_M} {l0 l1 l3 : Option Value} {v : Int64} : am_run G d K_H_dueOf (35, [l0, l1, some (.long v), l3], st, M) = am_run G d K_H_dueOf (36, [l0, l1, some (.long v), l3], .long v :: st, M) := am_run_next (x := (.lload_n 2, 1, 0, 0, 0, 0)) (by decide +kernel) rfl
theorem r_H_dueOf_36 {G : Nat → Value} {d : Nat} {st : List Value} {M : am_M} {l0 l1 l2 l3 : Option Value} {a0 : Value} {a1 : Int32} {a2 : Int64} (h0 : am_isr a0 = true) (h8 : am_sw st ≤ 8) : am_run G d K_H_dueOf (36, [l0, l1, l2, l3], .long a2 :: .int a1 :: a0 :: st, M) = am_k G d K_H_dueOf 39 [l0, l1, l2, l3] st (am_ex G d K_H_timeOf [a0, .int a1, .long a2] M) := by
  have he : (am_exp [a0, .int a1, .long a2]).length ≤ am_mL K_H_timeOf := by
    rcases am_isr_cases h0 with ⟨z0, rfl⟩ | rfl <;> exact Nat.le_of_ble_eq_true rfl
  exact am_run_is (i := 134) (n := 3) (pl := 3047) (Bs := [a0, .int a1, .long a2]) (z := K_H_timeOf) (v := 1) (by decide) (by decide) (by decide +kernel) h8 rfl he rfl
theorem r_H_dueOf_39 {G : Nat → Value} {d : Nat} {st : List Value} {M : am_M} {l1 l2 l3 : Option Value} {v : Value} (hv : am_isr v = true) : am_run G d K_H_dueOf (39, [some v, l1, l2, l3], st, M) = am_run G d K_H_dueOf (40, [some v, l1, l2, l3], v :: st, M) := by
  rcases am_isr_cases hv with ⟨q, rfl⟩ | rfl
  · exact am_run_next (x := (.aload_n 0, 1, 0, 0, 0, 0)) (by decide +kernel) rfl
  · exact am_run_next (x := (.aload_n 0, 1, 0, 0, 0, 0)) (by decide +kernel) rfl
theorem r_H_dueOf_40 {G : Nat → Value} {d : Nat} {st : List Value} {M : am_M} {l0 l2 l3 : Option Value} {v : Value} (hv : am_isr v = true) : am_run G d K_H_dueOf (40, [l0, some v, l2, l3], st, M) = am_run G d K_H_dueOf (41, [l0, some v, l2, l3], v :: st, M) := by
  rcases am_isr_cases hv with ⟨q, rfl⟩ | rfl
  · exact am_run_next (x := (.aload_n 1, 1, 0, 0, 0, 0)) (by decide +kernel) rfl
  · exact am_run_next (x := (.aload_n 1, 1, 0, 0, 0, 0)) (by decide +kernel) rfl
theorem r_H_dueOf_41 {G : Nat → Value} {d : Nat} {st : List Value} {M : am_M} {l0 l1 l2 l3 : Option Value} {q : Nat} {a0 : Value} (h0 : am_isr a0 = true) (hq : am_cls M q = some 9) (h8 : am_sw st ≤ 8) : am_run G d K_H_dueOf (41, [l0, l1, l2, l3], a0 :: .ref q :: st, M) = am_k G d K_H_dueOf 44 [l0, l1, l2, l3] st (am_ex G d K_H_lateOf [.ref q, a0] M) := by
  have he : (am_exp [.ref q, a0]).length ≤ am_mL K_H_lateOf := by
    rcases am_isr_cases h0 with ⟨z0, rfl⟩ | rfl <;> exact Nat.le_of_ble_eq_true rfl
  exact am_run_iv (i := 155) (n := 1) (pl := 3116) (Bs := [a0]) (z := K_H_lateOf) (by decide +kernel) hq h8 rfl he rfl
theorem r_H_dueOf_44 {G : Nat → Value} {d : Nat} {st : List Value} {M : am_M} {l0 l1 l2 l3 : Option Value} {a : Int32} : am_run G d K_H_dueOf (44, [l0, l1, l2, l3], .int a :: st, M) = am_run G d K_H_dueOf (45, [l0, l1, l2, l3], .long a.toInt64 :: st, M) := am_run_next (x := (.i2l, 1, 0, 0, 0, 0)) (by decide +kernel) rfl
theorem r_H_dueOf_45 {G : Nat → Value} {d : Nat} {st : List Value} {M : am_M} {l0 l1 l2 l3 : Option Value} {a b : Int64} : am_run G d K_H_dueOf (45, [l0, l1, l2, l3], .long b :: .long a :: st, M) = am_run G d K_H_dueOf (46, [l0, l1, l2, l3], .long (a + b) :: st, M) := am_run_next (x := (.ladd, 1, 0, 0, 0, 0)) (by decide +kernel) rfl
theorem r_H_dueOf_46 {G : Nat → Value} {d : Nat} {M : am_M} {l0 l1 l2 l3 : Option Value} {a : Int64} : am_run G d K_H_dueOf (46, [l0, l1, l2, l3], [.long a], M) = some (some (.long a), M) := am_run_ret (x := (.lreturn, 1, 0, 0, 0, 0)) (by decide +kernel) rfl
theorem r_H_isLeftOut_0 {G : Nat → Value} {d : Nat} {st : List Value} {M : am_M} {l1 l2 : Option Value} {v : Value} (hv : am_isr v = true) : am_run G d K_H_isLeftOut (0, [some v, l1, l2], st, M) = am_run G d K_H_isLeftOut (1, [some v, l1, l2], v :: st, M) := by
  rcases am_isr_cases hv with ⟨q, rfl⟩ | rfl
  · exact am_run_next (x := (.aload_n 0, 1, 0, 0, 0, 0)) (by decide +kernel) rfl
  · exact am_run_next (x := (.aload_n 0, 1, 0, 0, 0, 0)) (by decide +kernel) rfl
theorem r_H_isLeftOut_1 {G : Nat → Value} {d : Nat} {st : List Value} {M : am_M} {l0 l1 l2 : Option Value} {q : Nat} (hq : am_cls M q = some 9) (h8 : am_sw st ≤ 8) : am_run G d K_H_isLeftOut (1, [l0, l1, l2], .ref q :: st, M) = am_k G d K_H_isLeftOut 4 [l0, l1, l2] st (am_ex G d K_H_ruleNow [.ref q] M) := am_run_iv (i := 365) (n := 0) (pl := 3120) (Bs := []) (z := K_H_ruleNow) (by decide +kernel) hq h8 rfl (Nat.le_of_ble_eq_true rfl) rfl
theorem r_H_isLeftOut_4 {G : Nat → Value} {d : Nat} {st : List Value} {M : am_M} {l0 l1 l2 : Option Value} {v : Value} (hv : am_isr v = true) (hc : am_c1 l1 = true) : am_run G d K_H_isLeftOut (4, [l0, l1, l2], v :: st, M) = am_run G d K_H_isLeftOut (5, [l0, l1, some v], st, M) := by
  rcases am_isr_cases hv with ⟨q1, rfl⟩ | rfl
  · rcases am_c1_cases hc with rfl | ⟨q, rfl⟩ | ⟨q, rfl⟩ | rfl
    · exact am_run_next (x := (.astore_n 2, 1, 0, 0, 0, 0)) (by decide +kernel) rfl
    · exact am_run_next (x := (.astore_n 2, 1, 0, 0, 0, 0)) (by decide +kernel) rfl
    · exact am_run_next (x := (.astore_n 2, 1, 0, 0, 0, 0)) (by decide +kernel) rfl
    · exact am_run_next (x := (.astore_n 2, 1, 0, 0, 0, 0)) (by decide +kernel) rfl
  · rcases am_c1_cases hc with rfl | ⟨q, rfl⟩ | ⟨q, rfl⟩ | rfl
    · exact am_run_next (x := (.astore_n 2, 1, 0, 0, 0, 0)) (by decide +kernel) rfl
    · exact am_run_next (x := (.astore_n 2, 1, 0, 0, 0, 0)) (by decide +kernel) rfl
    · exact am_run_next (x := (.astore_n 2, 1, 0, 0, 0, 0)) (by decide +kernel) rfl
    · exact am_run_next (x := (.astore_n 2, 1, 0, 0, 0, 0)) (by decide +kernel) rfl
theorem r_H_isLeftOut_4_k {G : Nat → Value} {d : Nat} {st : List Value} {M : am_M} {l0 l2 : Option Value} {v : Value} {z : Int64} (hv : am_isr v = true) : am_run G d K_H_isLeftOut (4, [l0, some (.long z), l2], v :: st, M) = am_run G d K_H_isLeftOut (5, [l0, none, some v], st, M) := by
  rcases am_isr_cases hv with ⟨q, rfl⟩ | rfl
  · exact am_run_next (x := (.astore_n 2, 1, 0, 0, 0, 0)) (by decide +kernel) rfl
  · exact am_run_next (x := (.astore_n 2, 1, 0, 0, 0, 0)) (by decide +kernel) rfl
theorem r_H_isLeftOut_5 {G : Nat → Value} {d : Nat} {st : List Value} {M : am_M} {l0 l1 : Option Value} {v : Value} (hv : am_isr v = true) : am_run G d K_H_isLeftOut (5, [l0, l1, some v], st, M) = am_run G d K_H_isLeftOut (6, [l0, l1, some v], v :: st, M) := by
  rcases am_isr_cases hv with ⟨q, rfl⟩ | rfl
  · exact am_run_next (x := (.aload_n 2, 1, 0, 0, 0, 0)) (by decide +kernel) rfl
  · exact am_run_next (x := (.aload_n 2, 1, 0, 0, 0, 0)) (by decide +kernel) rfl
theorem r_H_isLeftOut_6 {G : Nat → Value} {d : Nat} {st : List Value} {M : am_M} {l0 l1 l2 : Option Value} {v : Value} (hv : am_isr v = true) : am_run G d K_H_isLeftOut (6, [l0, l1, l2], v :: st, M) = if v = .null then am_run G d K_H_isLeftOut (21, [l0, l1, l2], st, M) else am_run G d K_H_isLeftOut (9, [l0, l1, l2], st, M) := by
  split
  · next h => exact am_run_next (x := (.ifnull 15, 3, 0, 0, 0, 0)) (by decide +kernel) ((if_pos hv).trans (am_br_t (decide_eq_true h) (by decide)))
  · next h => exact am_run_next (x := (.ifnull 15, 3, 0, 0, 0, 0)) (by decide +kernel) ((if_pos hv).trans (am_br_f (decide_eq_false h) (by decide)))
theorem r_H_isLeftOut_9 {G : Nat → Value} {d : Nat} {st : List Value} {M : am_M} {l0 l1 : Option Value} {v : Value} (hv : am_isr v = true) : am_run G d K_H_isLeftOut (9, [l0, l1, some v], st, M) = am_run G d K_H_isLeftOut (10, [l0, l1, some v], v :: st, M) := by
  rcases am_isr_cases hv with ⟨q, rfl⟩ | rfl
  · exact am_run_next (x := (.aload_n 2, 1, 0, 0, 0, 0)) (by decide +kernel) rfl
  · exact am_run_next (x := (.aload_n 2, 1, 0, 0, 0, 0)) (by decide +kernel) rfl
theorem r_H_isLeftOut_10 {G : Nat → Value} {d : Nat} {st : List Value} {M : am_M} {l0 l2 : Option Value} {v : Value} (hv : am_isr v = true) : am_run G d K_H_isLeftOut (10, [l0, some v, l2], st, M) = am_run G d K_H_isLeftOut (11, [l0, some v, l2], v :: st, M) := by
  rcases am_isr_cases hv with ⟨q, rfl⟩ | rfl
  · exact am_run_next (x := (.aload_n 1, 1, 0, 0, 0, 0)) (by decide +kernel) rfl
  · exact am_run_next (x := (.aload_n 1, 1, 0, 0, 0, 0)) (by decide +kernel) rfl
theorem r_H_isLeftOut_11 {G : Nat → Value} {d : Nat} {st : List Value} {M : am_M} {l0 l1 l2 : Option Value} {q : Nat} {a0 : Value} (h0 : am_isr a0 = true) (hq : am_cls M q = some 8) (h8 : am_sw st ≤ 8) : am_run G d K_H_isLeftOut (11, [l0, l1, l2], a0 :: .ref q :: st, M) = am_k G d K_H_isLeftOut 14 [l0, l1, l2] st (am_ex G d K_Te_leavesOut [.ref q, a0] M) := by
  have he : (am_exp [.ref q, a0]).length ≤ am_mL K_Te_leavesOut := by
    rcases am_isr_cases h0 with ⟨z0, rfl⟩ | rfl <;> exact Nat.le_of_ble_eq_true rfl
  exact am_run_iv (i := 375) (n := 1) (pl := 3149) (Bs := [a0]) (z := K_Te_leavesOut) (by decide +kernel) hq h8 rfl he rfl
theorem r_H_isLeftOut_14 {G : Nat → Value} {d : Nat} {st : List Value} {M : am_M} {l0 l1 l2 : Option Value} {a : Int32} : am_run G d K_H_isLeftOut (14, [l0, l1, l2], .int a :: st, M) = if a = 0 then am_run G d K_H_isLeftOut (21, [l0, l1, l2], st, M) else am_run G d K_H_isLeftOut (17, [l0, l1, l2], st, M) := by
  split
  · next h => exact am_run_next (x := (.ifCond .eq 7, 3, 0, 0, 0, 0)) (by decide +kernel) (am_br_t (decide_eq_true h) (by decide))
  · next h => exact am_run_next (x := (.ifCond .eq 7, 3, 0, 0, 0, 0)) (by decide +kernel) (am_br_f (decide_eq_false h) (by decide))
theorem r_H_isLeftOut_17 {G : Nat → Value} {d : Nat} {st : List Value} {M : am_M} {l0 l1 l2 : Option Value} : am_run G d K_H_isLeftOut (17, [l0, l1, l2], st, M) = am_run G d K_H_isLeftOut (18, [l0, l1, l2], .int 1 :: st, M) := am_run_next (x := (.iconst 1, 1, 0, 0, 0, 0)) (by decide +kernel) rfl
theorem r_H_isLeftOut_18 {G : Nat → Value} {d : Nat} {st : List Value} {M : am_M} {l0 l1 l2 : Option Value} : am_run G d K_H_isLeftOut (18, [l0, l1, l2], st, M) = am_run G d K_H_isLeftOut (22, [l0, l1, l2], st, M) := am_run_next (x := (.goto 4, 3, 0, 0, 0, 0)) (by decide +kernel) rfl
theorem r_H_isLeftOut_21 {G : Nat → Value} {d : Nat} {st : List Value} {M : am_M} {l0 l1 l2 : Option Value} : am_run G d K_H_isLeftOut (21, [l0, l1, l2], st, M) = am_run G d K_H_isLeftOut (22, [l0, l1, l2], .int 0 :: st, M) := am_run_next (x := (.iconst 0, 1, 0, 0, 0, 0)) (by decide +kernel) rfl
theorem r_H_isLeftOut_22 {G : Nat → Value} {d : Nat} {M : am_M} {l0 l1 l2 : Option Value} {a : Int32} (ha : a = 0 ∨ a = 1) : am_run G d K_H_isLeftOut (22, [l0, l1, l2], [.int a], M) = some (some (.int a), M) := am_run_ret (x := (.ireturn, 1, 0, 0, 0, 0)) (by decide +kernel) (if_pos (decide_eq_true ha))
theorem r_Te_leavesOut_0 {G : Nat → Value} {d : Nat} {st : List Value} {M : am_M} {l1 : Option Value} {v : Value} (hv : am_isr v = true) : am_run G d K_Te_leavesOut (0, [some v, l1], st, M) = am_run G d K_Te_leavesOut (1, [some v, l1], v :: st, M) := by
  rcases am_isr_cases hv with ⟨q, rfl⟩ | rfl
  · exact am_run_next (x := (.aload_n 0, 1, 0, 0, 0, 0)) (by decide +kernel) rfl
  · exact am_run_next (x := (.aload_n 0, 1, 0, 0, 0, 0)) (by decide +kernel) rfl
theorem r_Te_leavesOut_1 {G : Nat → Value} {d : Nat} {st : List Value} {M : am_M} {l1 : Option Value} {v : Value} (hv : am_isr v = true) : am_run G d K_Te_leavesOut (1, [some v, l1], st, M) = am_run G d K_Te_leavesOut (2, [some v, l1], v :: st, M) := by
  rcases am_isr_cases hv with ⟨q, rfl⟩ | rfl
  · exact am_run_next (x := (.aload_n 0, 1, 0, 0, 0, 0)) (by decide +kernel) rfl
  · exact am_run_next (x := (.aload_n 0, 1, 0, 0, 0, 0)) (by decide +kernel) rfl
theorem r_Te_leavesOut_2 {G : Nat → Value} {d : Nat} {st : List Value} {M : am_M} {l0 l1 : Option Value} {a : Nat} : am_run G d K_Te_leavesOut (2, [l0, l1], .ref a :: st, M) = am_kf G d K_Te_leavesOut 5 [l0, l1] st M (am_fld M a 8 1) := am_run_kf (x := (.getfield 13, 3, 8, 1, 2096, 0)) (by decide +kernel) rfl
theorem r_Te_leavesOut_5 {G : Nat → Value} {d : Nat} {st : List Value} {M : am_M} {l0 : Option Value} {v : Value} (hv : am_isr v = true) : am_run G d K_Te_leavesOut (5, [l0, some v], st, M) = am_run G d K_Te_leavesOut (6, [l0, some v], v :: st, M) := by
  rcases am_isr_cases hv with ⟨q, rfl⟩ | rfl
  · exact am_run_next (x := (.aload_n 1, 1, 0, 0, 0, 0)) (by decide +kernel) rfl
  · exact am_run_next (x := (.aload_n 1, 1, 0, 0, 0, 0)) (by decide +kernel) rfl
theorem r_Te_leavesOut_6 {G : Nat → Value} {d : Nat} {st : List Value} {M : am_M} {l0 l1 : Option Value} {q : Nat} {a0 : Value} {a1 : Value} (h0 : am_isr a0 = true) (h1 : am_isr a1 = true) (hq : am_cls M q = some 8) (h8 : am_sw st ≤ 8) : am_run G d K_Te_leavesOut (6, [l0, l1], a1 :: a0 :: .ref q :: st, M) = am_k G d K_Te_leavesOut 9 [l0, l1] st (am_ex G d K_Te_workOff [.ref q, a0, a1] M) := by
  have he : (am_exp [.ref q, a0, a1]).length ≤ am_mL K_Te_workOff := by
    rcases am_isr_cases h0 with ⟨z0, rfl⟩ | rfl <;> rcases am_isr_cases h1 with ⟨z1, rfl⟩ | rfl <;> exact Nat.le_of_ble_eq_true rfl
  exact am_run_iv (i := 25) (n := 2) (pl := 3128) (Bs := [a0, a1]) (z := K_Te_workOff) (by decide +kernel) hq h8 rfl he rfl
theorem r_Te_leavesOut_9 {G : Nat → Value} {d : Nat} {st : List Value} {M : am_M} {l0 l1 : Option Value} {a : Int32} : am_run G d K_Te_leavesOut (9, [l0, l1], .int a :: st, M) = if a = 0 then am_run G d K_Te_leavesOut (16, [l0, l1], st, M) else am_run G d K_Te_leavesOut (12, [l0, l1], st, M) := by
  split
  · next h => exact am_run_next (x := (.ifCond .eq 7, 3, 0, 0, 0, 0)) (by decide +kernel) (am_br_t (decide_eq_true h) (by decide))
  · next h => exact am_run_next (x := (.ifCond .eq 7, 3, 0, 0, 0, 0)) (by decide +kernel) (am_br_f (decide_eq_false h) (by decide))
theorem r_Te_leavesOut_12 {G : Nat → Value} {d : Nat} {st : List Value} {M : am_M} {l0 l1 : Option Value} : am_run G d K_Te_leavesOut (12, [l0, l1], st, M) = am_run G d K_Te_leavesOut (13, [l0, l1], .int 1 :: st, M) := am_run_next (x := (.iconst 1, 1, 0, 0, 0, 0)) (by decide +kernel) rfl
theorem r_Te_leavesOut_13 {G : Nat → Value} {d : Nat} {st : List Value} {M : am_M} {l0 l1 : Option Value} : am_run G d K_Te_leavesOut (13, [l0, l1], st, M) = am_run G d K_Te_leavesOut (17, [l0, l1], st, M) := am_run_next (x := (.goto 4, 3, 0, 0, 0, 0)) (by decide +kernel) rfl
theorem r_Te_leavesOut_16 {G : Nat → Value} {d : Nat} {st : List Value} {M : am_M} {l0 l1 : Option Value} : am_run G d K_Te_leavesOut (16, [l0, l1], st, M) = am_run G d K_Te_leavesOut (17, [l0, l1], .int 0 :: st, M) := am_run_next (x := (.iconst 0, 1, 0, 0, 0, 0)) (by decide +kernel) rfl
theorem r_Te_leavesOut_17 {G : Nat → Value} {d : Nat} {M : am_M} {l0 l1 : Option Value} {a : Int32} (ha : a = 0 ∨ a = 1) : am_run G d K_Te_leavesOut (17, [l0, l1], [.int a], M) = some (some (.int a), M) := am_run_ret (x := (.ireturn, 1, 0, 0, 0, 0)) (by decide +kernel) (if_pos (decide_eq_true ha))
theorem r_H_feed_0 {G : Nat → Value} {d : Nat} {st : List Value} {M : am_M} {l0 l2 l3 l4 : Option Value} {v : Int32} : am_run G d K_H_feed (0, [l0, some (.int v), l2, l3, l4], st, M) = am_run G d K_H_feed (1, [l0, some (.int v), l2, l3, l4], .int v :: st, M) := am_run_next (x := (.iload_n 1, 1, 0, 0, 0, 0)) (by decide +kernel) rfl
theorem r_H_feed_1 {G : Nat → Value} {d : Nat} {st : List Value} {M : am_M} {l0 l1 l2 l3 l4 : Option Value} : am_run G d K_H_feed (1, [l0, l1, l2, l3, l4], st, M) = am_run G d K_H_feed (2, [l0, l1, l2, l3, l4], .int 1 :: st, M) := am_run_next (x := (.iconst 1, 1, 0, 0, 0, 0)) (by decide +kernel) rfl
theorem r_H_feed_2 {G : Nat → Value} {d : Nat} {st : List Value} {M : am_M} {l0 l1 l2 l3 l4 : Option Value} : am_run G d K_H_feed (2, [l0, l1, l2, l3, l4], st, M) = am_run G d K_H_feed (4, [l0, l1, l2, l3, l4], .int 8 :: st, M) := am_run_next (x := (.bipush 8, 2, 0, 0, 0, 0)) (by decide +kernel) rfl
theorem r_H_feed_4 {G : Nat → Value} {d : Nat} {st : List Value} {M : am_M} {l0 l1 l2 l3 l4 : Option Value} {a0 : Int32} {a1 : Int32} {a2 : Int32} (h8 : am_sw st ≤ 8) : am_run G d K_H_feed (4, [l0, l1, l2, l3, l4], .int a2 :: .int a1 :: .int a0 :: st, M) = am_k G d K_H_feed 7 [l0, l1, l2, l3, l4] st (am_ex G d K_H_within [.int a0, .int a1, .int a2] M) := am_run_is (i := 92) (n := 3) (pl := 2184) (Bs := [.int a0, .int a1, .int a2]) (z := K_H_within) (v := 1) (by decide) (by decide) (by decide +kernel) h8 rfl (Nat.le_of_ble_eq_true rfl) rfl
theorem r_H_feed_7 {G : Nat → Value} {d : Nat} {st : List Value} {M : am_M} {l0 l1 l2 l3 l4 : Option Value} {a : Int32} : am_run G d K_H_feed (7, [l0, l1, l2, l3, l4], .int a :: st, M) = if ¬ a = 0 then am_run G d K_H_feed (13, [l0, l1, l2, l3, l4], st, M) else am_run G d K_H_feed (10, [l0, l1, l2, l3, l4], st, M) := by
  split
  · next h => exact am_run_next (x := (.ifCond .ne 6, 3, 0, 0, 0, 0)) (by decide +kernel) (am_br_t (decide_eq_true h) (by decide))
  · next h => exact am_run_next (x := (.ifCond .ne 6, 3, 0, 0, 0, 0)) (by decide +kernel) (am_br_f (decide_eq_false h) (by decide))
theorem r_H_feed_10 {G : Nat → Value} {d : Nat} {st : List Value} {M : am_M} {l0 l1 l2 l3 l4 : Option Value} : am_run G d K_H_feed (10, [l0, l1, l2, l3, l4], st, M) = am_run G d K_H_feed (12, [l0, l1, l2, l3, l4], .int (-2) :: st, M) := am_run_next (x := (.bipush (-2), 2, 0, 0, 0, 0)) (by decide +kernel) rfl
theorem r_H_feed_12 {G : Nat → Value} {d : Nat} {M : am_M} {l0 l1 l2 l3 l4 : Option Value} {a : Int32} : am_run G d K_H_feed (12, [l0, l1, l2, l3, l4], [.int a], M) = some (some (.int a), M) := am_run_ret (x := (.ireturn, 1, 0, 0, 0, 0)) (by decide +kernel) rfl
theorem r_H_feed_13 {G : Nat → Value} {d : Nat} {st : List Value} {M : am_M} {l1 l2 l3 l4 : Option Value} {v : Value} (hv : am_isr v = true) : am_run G d K_H_feed (13, [some v, l1, l2, l3, l4], st, M) = am_run G d K_H_feed (14, [some v, l1, l2, l3, l4], v :: st, M) := by
  rcases am_isr_cases hv with ⟨q, rfl⟩ | rfl
  · exact am_run_next (x := (.aload_n 0, 1, 0, 0, 0, 0)) (by decide +kernel) rfl
  · exact am_run_next (x := (.aload_n 0, 1, 0, 0, 0, 0)) (by decide +kernel) rfl
theorem r_H_feed_14 {G : Nat → Value} {d : Nat} {st : List Value} {M : am_M} {l0 l1 l2 l3 l4 : Option Value} {a : Nat} : am_run G d K_H_feed (14, [l0, l1, l2, l3, l4], .ref a :: st, M) = am_kf G d K_H_feed 17 [l0, l1, l2, l3, l4] st M (am_fld M a 9 11) := am_run_kf (x := (.getfield 46, 3, 9, 11, 2135, 0)) (by decide +kernel) rfl
theorem r_H_feed_17 {G : Nat → Value} {d : Nat} {st : List Value} {M : am_M} {l0 l2 l3 l4 : Option Value} {v : Int32} : am_run G d K_H_feed (17, [l0, some (.int v), l2, l3, l4], st, M) = am_run G d K_H_feed (18, [l0, some (.int v), l2, l3, l4], .int v :: st, M) := am_run_next (x := (.iload_n 1, 1, 0, 0, 0, 0)) (by decide +kernel) rfl
theorem r_H_feed_18 {G : Nat → Value} {d : Nat} {st : List Value} {M : am_M} {l0 l1 l2 l3 l4 : Option Value} {q : Nat} {a0 : Int32} (hq : am_cls M q = some 7) (h8 : am_sw st ≤ 8) : am_run G d K_H_feed (18, [l0, l1, l2, l3, l4], .int a0 :: .ref q :: st, M) = am_k G d K_H_feed 21 [l0, l1, l2, l3, l4] st (am_ex G d K_Ta_hasRoom [.ref q, .int a0] M) := am_run_iv (i := 174) (n := 1) (pl := 3158) (Bs := [.int a0]) (z := K_Ta_hasRoom) (by decide +kernel) hq h8 rfl (Nat.le_of_ble_eq_true rfl) rfl
theorem r_H_feed_21 {G : Nat → Value} {d : Nat} {st : List Value} {M : am_M} {l0 l1 l2 l3 l4 : Option Value} {a : Int32} : am_run G d K_H_feed (21, [l0, l1, l2, l3, l4], .int a :: st, M) = if ¬ a = 0 then am_run G d K_H_feed (27, [l0, l1, l2, l3, l4], st, M) else am_run G d K_H_feed (24, [l0, l1, l2, l3, l4], st, M) := by
  split
  · next h => exact am_run_next (x := (.ifCond .ne 6, 3, 0, 0, 0, 0)) (by decide +kernel) (am_br_t (decide_eq_true h) (by decide))
  · next h => exact am_run_next (x := (.ifCond .ne 6, 3, 0, 0, 0, 0)) (by decide +kernel) (am_br_f (decide_eq_false h) (by decide))
theorem r_H_feed_24 {G : Nat → Value} {d : Nat} {st : List Value} {M : am_M} {l0 l1 l2 l3 l4 : Option Value} : am_run G d K_H_feed (24, [l0, l1, l2, l3, l4], st, M) = am_run G d K_H_feed (26, [l0, l1, l2, l3, l4], .int (-4) :: st, M) := am_run_next (x := (.bipush (-4), 2, 0, 0, 0, 0)) (by decide +kernel) rfl
theorem r_H_feed_26 {G : Nat → Value} {d : Nat} {M : am_M} {l0 l1 l2 l3 l4 : Option Value} {a : Int32} : am_run G d K_H_feed (26, [l0, l1, l2, l3, l4], [.int a], M) = some (some (.int a), M) := am_run_ret (x := (.ireturn, 1, 0, 0, 0, 0)) (by decide +kernel) rfl
theorem r_H_feed_27 {G : Nat → Value} {d : Nat} {st : List Value} {M : am_M} {l0 l1 l2 l3 l4 : Option Value} : am_run G d K_H_feed (27, [l0, l1, l2, l3, l4], st, M) = am_run G d K_H_feed (28, [l0, l1, l2, l3, l4], .int 0 :: st, M) := am_run_next (x := (.iconst 0, 1, 0, 0, 0, 0)) (by decide +kernel) rfl
theorem r_H_feed_28 {G : Nat → Value} {d : Nat} {st : List Value} {M : am_M} {l0 l1 l2 l3 l4 : Option Value} {v : Int32} (hc : am_c1 l3 = true) : am_run G d K_H_feed (28, [l0, l1, l2, l3, l4], .int v :: st, M) = am_run G d K_H_feed (30, [l0, l1, l2, l3, some (.int v)], st, M) := by
  rcases am_c1_cases hc with rfl | ⟨q, rfl⟩ | ⟨q, rfl⟩ | rfl
  · exact am_run_next (x := (.istore 4, 2, 0, 0, 0, 0)) (by decide +kernel) rfl
  · exact am_run_next (x := (.istore 4, 2, 0, 0, 0, 0)) (by decide +kernel) rfl
  · exact am_run_next (x := (.istore 4, 2, 0, 0, 0, 0)) (by decide +kernel) rfl
  · exact am_run_next (x := (.istore 4, 2, 0, 0, 0, 0)) (by decide +kernel) rfl
theorem r_H_feed_28_k {G : Nat → Value} {d : Nat} {st : List Value} {M : am_M} {l0 l1 l2 l4 : Option Value} {v : Int32} {z : Int64} : am_run G d K_H_feed (28, [l0, l1, l2, some (.long z), l4], .int v :: st, M) = am_run G d K_H_feed (30, [l0, l1, l2, none, some (.int v)], st, M) := am_run_next (x := (.istore 4, 2, 0, 0, 0, 0)) (by decide +kernel) rfl
theorem r_H_feed_30 {G : Nat → Value} {d : Nat} {st : List Value} {M : am_M} {l0 l1 l2 l3 : Option Value} {v : Int32} : am_run G d K_H_feed (30, [l0, l1, l2, l3, some (.int v)], st, M) = am_run G d K_H_feed (32, [l0, l1, l2, l3, some (.int v)], .int v :: st, M) := am_run_next (x := (.iload 4, 2, 0, 0, 0, 0)) (by decide +kernel) rfl
theorem r_H_feed_32 {G : Nat → Value} {d : Nat} {st : List Value} {M : am_M} {l0 l2 l3 l4 : Option Value} {v : Int32} : am_run G d K_H_feed (32, [l0, some (.int v), l2, l3, l4], st, M) = am_run G d K_H_feed (33, [l0, some (.int v), l2, l3, l4], .int v :: st, M) := am_run_next (x := (.iload_n 1, 1, 0, 0, 0, 0)) (by decide +kernel) rfl
theorem r_H_feed_33 {G : Nat → Value} {d : Nat} {st : List Value} {M : am_M} {l0 l1 l2 l3 l4 : Option Value} {a b : Int32} : am_run G d K_H_feed (33, [l0, l1, l2, l3, l4], .int b :: .int a :: st, M) = if b ≤ a then am_run G d K_H_feed (61, [l0, l1, l2, l3, l4], st, M) else am_run G d K_H_feed (36, [l0, l1, l2, l3, l4], st, M) := by
  split
  · next h => exact am_run_next (x := (.if_icmp .ge 28, 3, 0, 0, 0, 0)) (by decide +kernel) (am_br_t (decide_eq_true h) (by decide))
  · next h => exact am_run_next (x := (.if_icmp .ge 28, 3, 0, 0, 0, 0)) (by decide +kernel) (am_br_f (decide_eq_false h) (by decide))
theorem r_H_feed_36 {G : Nat → Value} {d : Nat} {st : List Value} {M : am_M} {l1 l2 l3 l4 : Option Value} {v : Value} (hv : am_isr v = true) : am_run G d K_H_feed (36, [some v, l1, l2, l3, l4], st, M) = am_run G d K_H_feed (37, [some v, l1, l2, l3, l4], v :: st, M) := by
  rcases am_isr_cases hv with ⟨q, rfl⟩ | rfl
  · exact am_run_next (x := (.aload_n 0, 1, 0, 0, 0, 0)) (by decide +kernel) rfl
  · exact am_run_next (x := (.aload_n 0, 1, 0, 0, 0, 0)) (by decide +kernel) rfl
theorem r_H_feed_37 {G : Nat → Value} {d : Nat} {st : List Value} {M : am_M} {l0 l1 l2 l3 l4 : Option Value} {a : Nat} : am_run G d K_H_feed (37, [l0, l1, l2, l3, l4], .ref a :: st, M) = am_kf G d K_H_feed 40 [l0, l1, l2, l3, l4] st M (am_fld M a 9 11) := am_run_kf (x := (.getfield 46, 3, 9, 11, 2135, 0)) (by decide +kernel) rfl
theorem r_H_feed_40 {G : Nat → Value} {d : Nat} {st : List Value} {M : am_M} {l0 l1 l3 l4 : Option Value} {v : Int64} : am_run G d K_H_feed (40, [l0, l1, some (.long v), l3, l4], st, M) = am_run G d K_H_feed (41, [l0, l1, some (.long v), l3, l4], .long v :: st, M) := am_run_next (x := (.lload_n 2, 1, 0, 0, 0, 0)) (by decide +kernel) rfl
theorem r_H_feed_41 {G : Nat → Value} {d : Nat} {st : List Value} {M : am_M} {l0 l1 l2 l3 l4 : Option Value} : am_run G d K_H_feed (41, [l0, l1, l2, l3, l4], st, M) = am_run G d K_H_feed (43, [l0, l1, l2, l3, l4], .int 8 :: st, M) := am_run_next (x := (.bipush 8, 2, 0, 0, 0, 0)) (by decide +kernel) rfl
theorem r_H_feed_43 {G : Nat → Value} {d : Nat} {st : List Value} {M : am_M} {l0 l1 l2 l3 : Option Value} {v : Int32} : am_run G d K_H_feed (43, [l0, l1, l2, l3, some (.int v)], st, M) = am_run G d K_H_feed (45, [l0, l1, l2, l3, some (.int v)], .int v :: st, M) := am_run_next (x := (.iload 4, 2, 0, 0, 0, 0)) (by decide +kernel) rfl
theorem r_H_feed_45 {G : Nat → Value} {d : Nat} {st : List Value} {M : am_M} {l0 l1 l2 l3 l4 : Option Value} {a b : Int32} : am_run G d K_H_feed (45, [l0, l1, l2, l3, l4], .int b :: .int a :: st, M) = am_run G d K_H_feed (46, [l0, l1, l2, l3, l4], .int (a * b) :: st, M) := am_run_next (x := (.imul, 1, 0, 0, 0, 0)) (by decide +kernel) rfl
theorem r_H_feed_46 {G : Nat → Value} {d : Nat} {st : List Value} {M : am_M} {l0 l1 l2 l3 l4 : Option Value} {a : Int64} {b : Int32} : am_run G d K_H_feed (46, [l0, l1, l2, l3, l4], .int b :: .long a :: st, M) = am_run G d K_H_feed (47, [l0, l1, l2, l3, l4], .long (a >>> (b.toInt64 &&& 63)) :: st, M) := am_run_next (x := (.lshr, 1, 0, 0, 0, 0)) (by decide +kernel) rfl
theorem r_H_feed_47 {G : Nat → Value} {d : Nat} {st : List Value} {M : am_M} {l0 l1 l2 l3 l4 : Option Value} {a : Int64} : am_run G d K_H_feed (47, [l0, l1, l2, l3, l4], .long a :: st, M) = am_run G d K_H_feed (48, [l0, l1, l2, l3, l4], .int a.toInt32 :: st, M) := am_run_next (x := (.l2i, 1, 0, 0, 0, 0)) (by decide +kernel) rfl
theorem r_H_feed_48 {G : Nat → Value} {d : Nat} {st : List Value} {M : am_M} {l0 l1 l2 l3 l4 : Option Value} : am_run G d K_H_feed (48, [l0, l1, l2, l3, l4], st, M) = am_run G d K_H_feed (51, [l0, l1, l2, l3, l4], .int 255 :: st, M) := am_run_next (x := (.sipush 255, 3, 0, 0, 0, 0)) (by decide +kernel) rfl
theorem r_H_feed_51 {G : Nat → Value} {d : Nat} {st : List Value} {M : am_M} {l0 l1 l2 l3 l4 : Option Value} {a b : Int32} : am_run G d K_H_feed (51, [l0, l1, l2, l3, l4], .int b :: .int a :: st, M) = am_run G d K_H_feed (52, [l0, l1, l2, l3, l4], .int (a &&& b) :: st, M) := am_run_next (x := (.iand, 1, 0, 0, 0, 0)) (by decide +kernel) rfl
theorem r_H_feed_52 {G : Nat → Value} {d : Nat} {st : List Value} {M : am_M} {l0 l1 l2 l3 l4 : Option Value} {q : Nat} {a0 : Int32} (hq : am_cls M q = some 7) (h8 : am_sw st ≤ 8) : am_run G d K_H_feed (52, [l0, l1, l2, l3, l4], .int a0 :: .ref q :: st, M) = am_k G d K_H_feed 55 [l0, l1, l2, l3, l4] st (am_ex G d K_Ta_append [.ref q, .int a0] M) := am_run_iv (i := 79) (n := 1) (pl := 1172) (Bs := [.int a0]) (z := K_Ta_append) (by decide +kernel) hq h8 rfl (Nat.le_of_ble_eq_true rfl) rfl
theorem r_H_feed_55 {G : Nat → Value} {d : Nat} {st : List Value} {M : am_M} {l0 l1 l2 l3 : Option Value} {v : Int32} (hc : am_c1 l3 = true) : am_run G d K_H_feed (55, [l0, l1, l2, l3, some (.int v)], st, M) = am_run G d K_H_feed (58, [l0, l1, l2, l3, some (.int (v + 1))], st, M) := by
  rcases am_c1_cases hc with rfl | ⟨q, rfl⟩ | ⟨q, rfl⟩ | rfl
  · exact am_run_next (x := (.iinc 4 1, 3, 0, 0, 0, 0)) (by decide +kernel) rfl
  · exact am_run_next (x := (.iinc 4 1, 3, 0, 0, 0, 0)) (by decide +kernel) rfl
  · exact am_run_next (x := (.iinc 4 1, 3, 0, 0, 0, 0)) (by decide +kernel) rfl
  · exact am_run_next (x := (.iinc 4 1, 3, 0, 0, 0, 0)) (by decide +kernel) rfl
theorem r_H_feed_55_k {G : Nat → Value} {d : Nat} {st : List Value} {M : am_M} {l0 l1 l2 : Option Value} {v : Int32} {z : Int64} : am_run G d K_H_feed (55, [l0, l1, l2, some (.long z), some (.int v)], st, M) = am_run G d K_H_feed (58, [l0, l1, l2, none, some (.int (v + 1))], st, M) := am_run_next (x := (.iinc 4 1, 3, 0, 0, 0, 0)) (by decide +kernel) rfl
theorem r_H_feed_58 {G : Nat → Value} {d : Nat} {st : List Value} {M : am_M} {l0 l1 l2 l3 l4 : Option Value} : am_run G d K_H_feed (58, [l0, l1, l2, l3, l4], st, M) = am_run G d K_H_feed (30, [l0, l1, l2, l3, l4], st, M) := am_run_next (x := (.goto (-28), 3, 0, 0, 0, 0)) (by decide +kernel) rfl
theorem r_H_feed_61 {G : Nat → Value} {d : Nat} {st : List Value} {M : am_M} {l1 l2 l3 l4 : Option Value} {v : Value} (hv : am_isr v = true) : am_run G d K_H_feed (61, [some v, l1, l2, l3, l4], st, M) = am_run G d K_H_feed (62, [some v, l1, l2, l3, l4], v :: st, M) := by
  rcases am_isr_cases hv with ⟨q, rfl⟩ | rfl
  · exact am_run_next (x := (.aload_n 0, 1, 0, 0, 0, 0)) (by decide +kernel) rfl
  · exact am_run_next (x := (.aload_n 0, 1, 0, 0, 0, 0)) (by decide +kernel) rfl
theorem r_H_feed_62 {G : Nat → Value} {d : Nat} {st : List Value} {M : am_M} {l0 l1 l2 l3 l4 : Option Value} {a : Nat} : am_run G d K_H_feed (62, [l0, l1, l2, l3, l4], .ref a :: st, M) = am_kf G d K_H_feed 65 [l0, l1, l2, l3, l4] st M (am_fld M a 9 11) := am_run_kf (x := (.getfield 46, 3, 9, 11, 2135, 0)) (by decide +kernel) rfl
theorem r_H_feed_65 {G : Nat → Value} {d : Nat} {st : List Value} {M : am_M} {l0 l1 l2 l3 l4 : Option Value} {a : Nat} : am_run G d K_H_feed (65, [l0, l1, l2, l3, l4], .ref a :: st, M) = am_kf G d K_H_feed 68 [l0, l1, l2, l3, l4] st M (am_fld M a 7 1) := am_run_kf (x := (.getfield 177, 3, 7, 1, 1047, 1)) (by decide +kernel) rfl
theorem r_H_feed_68 {G : Nat → Value} {d : Nat} {M : am_M} {l0 l1 l2 l3 l4 : Option Value} {a : Int32} : am_run G d K_H_feed (68, [l0, l1, l2, l3, l4], [.int a], M) = some (some (.int a), M) := am_run_ret (x := (.ireturn, 1, 0, 0, 0, 0)) (by decide +kernel) rfl
