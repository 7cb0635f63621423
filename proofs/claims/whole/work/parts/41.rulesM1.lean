theorem r_M_init_0 {G : Nat → Value} {d : Nat} {st : List Value} {M : am_M} {v : Value} (hv : am_isr v = true) : am_run G d K_M_init (0, [some v], st, M) = am_run G d K_M_init (1, [some v], v :: st, M) := by
  rcases am_isr_cases hv with ⟨q, rfl⟩ | rfl
  · exact am_run_next (x := (.aload_n 0, 1, 0, 0, 0, 0)) (by decide +kernel) rfl
  · exact am_run_next (x := (.aload_n 0, 1, 0, 0, 0, 0)) (by decide +kernel) rfl
theorem r_M_init_1 {G : Nat → Value} {d : Nat} {st : List Value} {M : am_M} {l0 : Option Value} {a : Nat} (h8 : am_sw st ≤ 8) : am_run G d K_M_init (1, [l0], .ref a :: st, M) = am_run G d K_M_init (4, [l0], st, M) := am_run_next (x := (.invokespecial 7, 3, 0, 0, 5009, 5)) (by decide +kernel) (if_pos h8)
theorem r_M_init_4 {G : Nat → Value} {d : Nat} {st : List Value} {M : am_M} {v : Value} (hv : am_isr v = true) : am_run G d K_M_init (4, [some v], st, M) = am_run G d K_M_init (5, [some v], v :: st, M) := by
  rcases am_isr_cases hv with ⟨q, rfl⟩ | rfl
  · exact am_run_next (x := (.aload_n 0, 1, 0, 0, 0, 0)) (by decide +kernel) rfl
  · exact am_run_next (x := (.aload_n 0, 1, 0, 0, 0, 0)) (by decide +kernel) rfl
theorem r_M_init_5 {G : Nat → Value} {d : Nat} {st : List Value} {M : am_M} {l0 : Option Value} : am_run G d K_M_init (5, [l0], st, M) = am_run G d K_M_init (8, [l0], .int 960 :: st, M) := am_run_next (x := (.sipush 960, 3, 0, 0, 0, 0)) (by decide +kernel) rfl
theorem r_M_init_8 {G : Nat → Value} {d : Nat} {st : List Value} {M : am_M} {l0 : Option Value} {n : Int32} : am_run G d K_M_init (8, [l0], .int n :: st, M) = am_km G d K_M_init 10 [l0] (.ref M.1 :: st) (am_newa (some (0, .inl (fun _ => 0))) n M) := am_run_km (x := (.newarray .int, 2, 0, 0, 0, 0)) (by decide +kernel) rfl
theorem r_M_init_10 {G : Nat → Value} {d : Nat} {st : List Value} {M : am_M} {l0 : Option Value} {a : Nat} {v : Value} : am_run G d K_M_init (10, [l0], v :: .ref a :: st, M) = am_km G d K_M_init 13 [l0] st (am_pf M a 10 1 (am_fty 10 1) v) := am_run_km (x := (.putfield 13, 3, 10, 1, 5020, 0)) (by decide +kernel) rfl
theorem r_M_init_13 {G : Nat → Value} {d : Nat} {st : List Value} {M : am_M} {v : Value} (hv : am_isr v = true) : am_run G d K_M_init (13, [some v], st, M) = am_run G d K_M_init (14, [some v], v :: st, M) := by
  rcases am_isr_cases hv with ⟨q, rfl⟩ | rfl
  · exact am_run_next (x := (.aload_n 0, 1, 0, 0, 0, 0)) (by decide +kernel) rfl
  · exact am_run_next (x := (.aload_n 0, 1, 0, 0, 0, 0)) (by decide +kernel) rfl
theorem r_M_init_14 {G : Nat → Value} {d : Nat} {st : List Value} {M : am_M} {l0 : Option Value} : am_run G d K_M_init (14, [l0], st, M) = am_run G d K_M_init (16, [l0], .int 6 :: st, M) := am_run_next (x := (.bipush 6, 2, 0, 0, 0, 0)) (by decide +kernel) rfl
theorem r_M_init_16 {G : Nat → Value} {d : Nat} {st : List Value} {M : am_M} {l0 : Option Value} {n : Int32} : am_run G d K_M_init (16, [l0], .int n :: st, M) = am_km G d K_M_init 18 [l0] (.ref M.1 :: st) (am_newa (some (0, .inl (fun _ => 0))) n M) := am_run_km (x := (.newarray .int, 2, 0, 0, 0, 0)) (by decide +kernel) rfl
theorem r_M_init_18 {G : Nat → Value} {d : Nat} {st : List Value} {M : am_M} {l0 : Option Value} {a : Nat} {v : Value} : am_run G d K_M_init (18, [l0], v :: .ref a :: st, M) = am_km G d K_M_init 21 [l0] st (am_pf M a 10 2 (am_fty 10 2) v) := am_run_km (x := (.putfield 17, 3, 10, 2, 5021, 0)) (by decide +kernel) rfl
theorem r_M_init_21 {G : Nat → Value} {d : Nat} {st : List Value} {M : am_M} {v : Value} (hv : am_isr v = true) : am_run G d K_M_init (21, [some v], st, M) = am_run G d K_M_init (22, [some v], v :: st, M) := by
  rcases am_isr_cases hv with ⟨q, rfl⟩ | rfl
  · exact am_run_next (x := (.aload_n 0, 1, 0, 0, 0, 0)) (by decide +kernel) rfl
  · exact am_run_next (x := (.aload_n 0, 1, 0, 0, 0, 0)) (by decide +kernel) rfl
theorem r_M_init_22 {G : Nat → Value} {d : Nat} {st : List Value} {M : am_M} {l0 : Option Value} : am_run G d K_M_init (22, [l0], st, M) = am_run G d K_M_init (25, [l0], .int 160 :: st, M) := am_run_next (x := (.sipush 160, 3, 0, 0, 0, 0)) (by decide +kernel) rfl
theorem r_M_init_25 {G : Nat → Value} {d : Nat} {st : List Value} {M : am_M} {l0 : Option Value} {n : Int32} : am_run G d K_M_init (25, [l0], .int n :: st, M) = am_km G d K_M_init 27 [l0] (.ref M.1 :: st) (am_newa (some (0, .inl (fun _ => 0))) n M) := am_run_km (x := (.newarray .int, 2, 0, 0, 0, 0)) (by decide +kernel) rfl
theorem r_M_init_27 {G : Nat → Value} {d : Nat} {st : List Value} {M : am_M} {l0 : Option Value} {a : Nat} {v : Value} : am_run G d K_M_init (27, [l0], v :: .ref a :: st, M) = am_km G d K_M_init 30 [l0] st (am_pf M a 10 5 (am_fty 10 5) v) := am_run_km (x := (.putfield 20, 3, 10, 5, 5024, 0)) (by decide +kernel) rfl
theorem r_M_init_30 {G : Nat → Value} {d : Nat} {st : List Value} {M : am_M} {v : Value} (hv : am_isr v = true) : am_run G d K_M_init (30, [some v], st, M) = am_run G d K_M_init (31, [some v], v :: st, M) := by
  rcases am_isr_cases hv with ⟨q, rfl⟩ | rfl
  · exact am_run_next (x := (.aload_n 0, 1, 0, 0, 0, 0)) (by decide +kernel) rfl
  · exact am_run_next (x := (.aload_n 0, 1, 0, 0, 0, 0)) (by decide +kernel) rfl
theorem r_M_init_31 {G : Nat → Value} {d : Nat} {st : List Value} {M : am_M} {l0 : Option Value} : am_run G d K_M_init (31, [l0], st, M) = am_run G d K_M_init (33, [l0], .int 24 :: st, M) := am_run_next (x := (.bipush 24, 2, 0, 0, 0, 0)) (by decide +kernel) rfl
theorem r_M_init_33 {G : Nat → Value} {d : Nat} {st : List Value} {M : am_M} {l0 : Option Value} {n : Int32} : am_run G d K_M_init (33, [l0], .int n :: st, M) = am_km G d K_M_init 35 [l0] (.ref M.1 :: st) (am_newa (some (0, .inl (fun _ => 0))) n M) := am_run_km (x := (.newarray .int, 2, 0, 0, 0, 0)) (by decide +kernel) rfl
theorem r_M_init_35 {G : Nat → Value} {d : Nat} {st : List Value} {M : am_M} {l0 : Option Value} {a : Nat} {v : Value} : am_run G d K_M_init (35, [l0], v :: .ref a :: st, M) = am_km G d K_M_init 38 [l0] st (am_pf M a 10 11 (am_fty 10 11) v) := am_run_km (x := (.putfield 23, 3, 10, 11, 5030, 0)) (by decide +kernel) rfl
theorem r_M_init_38 {G : Nat → Value} {d : Nat} {st : List Value} {M : am_M} {v : Value} (hv : am_isr v = true) : am_run G d K_M_init (38, [some v], st, M) = am_run G d K_M_init (39, [some v], v :: st, M) := by
  rcases am_isr_cases hv with ⟨q, rfl⟩ | rfl
  · exact am_run_next (x := (.aload_n 0, 1, 0, 0, 0, 0)) (by decide +kernel) rfl
  · exact am_run_next (x := (.aload_n 0, 1, 0, 0, 0, 0)) (by decide +kernel) rfl
theorem r_M_init_39 {G : Nat → Value} {d : Nat} {st : List Value} {M : am_M} {l0 : Option Value} : am_run G d K_M_init (39, [l0], st, M) = am_run G d K_M_init (41, [l0], .int 8 :: st, M) := am_run_next (x := (.bipush 8, 2, 0, 0, 0, 0)) (by decide +kernel) rfl
theorem r_M_init_41 {G : Nat → Value} {d : Nat} {st : List Value} {M : am_M} {l0 : Option Value} {n : Int32} : am_run G d K_M_init (41, [l0], .int n :: st, M) = am_km G d K_M_init 43 [l0] (.ref M.1 :: st) (am_newa (some (0, .inl (fun _ => 0))) n M) := am_run_km (x := (.newarray .int, 2, 0, 0, 0, 0)) (by decide +kernel) rfl
theorem r_M_init_43 {G : Nat → Value} {d : Nat} {st : List Value} {M : am_M} {l0 : Option Value} {a : Nat} {v : Value} : am_run G d K_M_init (43, [l0], v :: .ref a :: st, M) = am_km G d K_M_init 46 [l0] st (am_pf M a 10 12 (am_fty 10 12) v) := am_run_km (x := (.putfield 26, 3, 10, 12, 5031, 0)) (by decide +kernel) rfl
theorem r_M_init_46 {G : Nat → Value} {d : Nat} {st : List Value} {M : am_M} {v : Value} (hv : am_isr v = true) : am_run G d K_M_init (46, [some v], st, M) = am_run G d K_M_init (47, [some v], v :: st, M) := by
  rcases am_isr_cases hv with ⟨q, rfl⟩ | rfl
  · exact am_run_next (x := (.aload_n 0, 1, 0, 0, 0, 0)) (by decide +kernel) rfl
  · exact am_run_next (x := (.aload_n 0, 1, 0, 0, 0, 0)) (by decide +kernel) rfl
theorem r_M_init_47 {G : Nat → Value} {d : Nat} {st : List Value} {M : am_M} {l0 : Option Value} : am_run G d K_M_init (47, [l0], st, M) = am_run G d K_M_init (49, [l0], .int 6 :: st, M) := am_run_next (x := (.bipush 6, 2, 0, 0, 0, 0)) (by decide +kernel) rfl
theorem r_M_init_49 {G : Nat → Value} {d : Nat} {st : List Value} {M : am_M} {l0 : Option Value} {n : Int32} : am_run G d K_M_init (49, [l0], .int n :: st, M) = am_km G d K_M_init 51 [l0] (.ref M.1 :: st) (am_newa (some (0, .inl (fun _ => 0))) n M) := am_run_km (x := (.newarray .int, 2, 0, 0, 0, 0)) (by decide +kernel) rfl
theorem r_M_init_51 {G : Nat → Value} {d : Nat} {st : List Value} {M : am_M} {l0 : Option Value} {a : Nat} {v : Value} : am_run G d K_M_init (51, [l0], v :: .ref a :: st, M) = am_km G d K_M_init 54 [l0] st (am_pf M a 10 14 (am_fty 10 14) v) := am_run_km (x := (.putfield 29, 3, 10, 14, 5033, 0)) (by decide +kernel) rfl
theorem r_M_init_54 {G : Nat → Value} {d : Nat} {st : List Value} {M : am_M} {v : Value} (hv : am_isr v = true) : am_run G d K_M_init (54, [some v], st, M) = am_run G d K_M_init (55, [some v], v :: st, M) := by
  rcases am_isr_cases hv with ⟨q, rfl⟩ | rfl
  · exact am_run_next (x := (.aload_n 0, 1, 0, 0, 0, 0)) (by decide +kernel) rfl
  · exact am_run_next (x := (.aload_n 0, 1, 0, 0, 0, 0)) (by decide +kernel) rfl
theorem r_M_init_55 {G : Nat → Value} {d : Nat} {st : List Value} {M : am_M} {l0 : Option Value} : am_run G d K_M_init (55, [l0], st, M) = am_run G d K_M_init (57, [l0], .int 6 :: st, M) := am_run_next (x := (.bipush 6, 2, 0, 0, 0, 0)) (by decide +kernel) rfl
theorem r_M_init_57 {G : Nat → Value} {d : Nat} {st : List Value} {M : am_M} {l0 : Option Value} {n : Int32} : am_run G d K_M_init (57, [l0], .int n :: st, M) = am_km G d K_M_init 59 [l0] (.ref M.1 :: st) (am_newa (some (0, .inl (fun _ => 0))) n M) := am_run_km (x := (.newarray .int, 2, 0, 0, 0, 0)) (by decide +kernel) rfl
theorem r_M_init_59 {G : Nat → Value} {d : Nat} {st : List Value} {M : am_M} {l0 : Option Value} {a : Nat} {v : Value} : am_run G d K_M_init (59, [l0], v :: .ref a :: st, M) = am_km G d K_M_init 62 [l0] st (am_pf M a 10 15 (am_fty 10 15) v) := am_run_km (x := (.putfield 32, 3, 10, 15, 5034, 0)) (by decide +kernel) rfl
theorem r_M_init_62 {G : Nat → Value} {d : Nat} {st : List Value} {M : am_M} {v : Value} (hv : am_isr v = true) : am_run G d K_M_init (62, [some v], st, M) = am_run G d K_M_init (63, [some v], v :: st, M) := by
  rcases am_isr_cases hv with ⟨q, rfl⟩ | rfl
  · exact am_run_next (x := (.aload_n 0, 1, 0, 0, 0, 0)) (by decide +kernel) rfl
  · exact am_run_next (x := (.aload_n 0, 1, 0, 0, 0, 0)) (by decide +kernel) rfl
theorem r_M_init_63 {G : Nat → Value} {d : Nat} {st : List Value} {M : am_M} {l0 : Option Value} : am_run G d K_M_init (63, [l0], st, M) = am_run G d K_M_init (65, [l0], .int 6 :: st, M) := am_run_next (x := (.bipush 6, 2, 0, 0, 0, 0)) (by decide +kernel) rfl
theorem r_M_init_65 {G : Nat → Value} {d : Nat} {st : List Value} {M : am_M} {l0 : Option Value} {n : Int32} : am_run G d K_M_init (65, [l0], .int n :: st, M) = am_km G d K_M_init 67 [l0] (.ref M.1 :: st) (am_newa (some (0, .inl (fun _ => 0))) n M) := am_run_km (x := (.newarray .int, 2, 0, 0, 0, 0)) (by decide +kernel) rfl
theorem r_M_init_67 {G : Nat → Value} {d : Nat} {st : List Value} {M : am_M} {l0 : Option Value} {a : Nat} {v : Value} : am_run G d K_M_init (67, [l0], v :: .ref a :: st, M) = am_km G d K_M_init 70 [l0] st (am_pf M a 10 16 (am_fty 10 16) v) := am_run_km (x := (.putfield 35, 3, 10, 16, 5035, 0)) (by decide +kernel) rfl
theorem r_M_init_70 {G : Nat → Value} {d : Nat} {st : List Value} {M : am_M} {v : Value} (hv : am_isr v = true) : am_run G d K_M_init (70, [some v], st, M) = am_run G d K_M_init (71, [some v], v :: st, M) := by
  rcases am_isr_cases hv with ⟨q, rfl⟩ | rfl
  · exact am_run_next (x := (.aload_n 0, 1, 0, 0, 0, 0)) (by decide +kernel) rfl
  · exact am_run_next (x := (.aload_n 0, 1, 0, 0, 0, 0)) (by decide +kernel) rfl
theorem r_M_init_71 {G : Nat → Value} {d : Nat} {st : List Value} {M : am_M} {l0 : Option Value} : am_run G d K_M_init (71, [l0], st, M) = am_run G d K_M_init (73, [l0], .int 6 :: st, M) := am_run_next (x := (.bipush 6, 2, 0, 0, 0, 0)) (by decide +kernel) rfl
theorem r_M_init_73 {G : Nat → Value} {d : Nat} {st : List Value} {M : am_M} {l0 : Option Value} {n : Int32} : am_run G d K_M_init (73, [l0], .int n :: st, M) = am_km G d K_M_init 75 [l0] (.ref M.1 :: st) (am_newa (some (0, .inl (fun _ => 0))) n M) := am_run_km (x := (.newarray .int, 2, 0, 0, 0, 0)) (by decide +kernel) rfl
theorem r_M_init_75 {G : Nat → Value} {d : Nat} {st : List Value} {M : am_M} {l0 : Option Value} {a : Nat} {v : Value} : am_run G d K_M_init (75, [l0], v :: .ref a :: st, M) = am_km G d K_M_init 78 [l0] st (am_pf M a 10 18 (am_fty 10 18) v) := am_run_km (x := (.putfield 38, 3, 10, 18, 5037, 0)) (by decide +kernel) rfl
theorem r_M_init_78 {G : Nat → Value} {d : Nat} {st : List Value} {M : am_M} {v : Value} (hv : am_isr v = true) : am_run G d K_M_init (78, [some v], st, M) = am_run G d K_M_init (79, [some v], v :: st, M) := by
  rcases am_isr_cases hv with ⟨q, rfl⟩ | rfl
  · exact am_run_next (x := (.aload_n 0, 1, 0, 0, 0, 0)) (by decide +kernel) rfl
  · exact am_run_next (x := (.aload_n 0, 1, 0, 0, 0, 0)) (by decide +kernel) rfl
theorem r_M_init_79 {G : Nat → Value} {d : Nat} {st : List Value} {M : am_M} {l0 : Option Value} : am_run G d K_M_init (79, [l0], st, M) = am_run G d K_M_init (81, [l0], .int 36 :: st, M) := am_run_next (x := (.bipush 36, 2, 0, 0, 0, 0)) (by decide +kernel) rfl
theorem r_M_init_81 {G : Nat → Value} {d : Nat} {st : List Value} {M : am_M} {l0 : Option Value} {n : Int32} : am_run G d K_M_init (81, [l0], .int n :: st, M) = am_km G d K_M_init 83 [l0] (.ref M.1 :: st) (am_newa (some (0, .inl (fun _ => 0))) n M) := am_run_km (x := (.newarray .int, 2, 0, 0, 0, 0)) (by decide +kernel) rfl
theorem r_M_init_83 {G : Nat → Value} {d : Nat} {st : List Value} {M : am_M} {l0 : Option Value} {a : Nat} {v : Value} : am_run G d K_M_init (83, [l0], v :: .ref a :: st, M) = am_km G d K_M_init 86 [l0] st (am_pf M a 10 19 (am_fty 10 19) v) := am_run_km (x := (.putfield 41, 3, 10, 19, 5038, 0)) (by decide +kernel) rfl
theorem r_M_init_86 {G : Nat → Value} {d : Nat} {st : List Value} {M : am_M} {v : Value} (hv : am_isr v = true) : am_run G d K_M_init (86, [some v], st, M) = am_run G d K_M_init (87, [some v], v :: st, M) := by
  rcases am_isr_cases hv with ⟨q, rfl⟩ | rfl
  · exact am_run_next (x := (.aload_n 0, 1, 0, 0, 0, 0)) (by decide +kernel) rfl
  · exact am_run_next (x := (.aload_n 0, 1, 0, 0, 0, 0)) (by decide +kernel) rfl
theorem r_M_init_87 {G : Nat → Value} {d : Nat} {st : List Value} {M : am_M} {l0 : Option Value} : am_run G d K_M_init (87, [l0], st, M) = am_run G d K_M_init (89, [l0], .int 36 :: st, M) := am_run_next (x := (.bipush 36, 2, 0, 0, 0, 0)) (by decide +kernel) rfl
theorem r_M_init_89 {G : Nat → Value} {d : Nat} {st : List Value} {M : am_M} {l0 : Option Value} {n : Int32} : am_run G d K_M_init (89, [l0], .int n :: st, M) = am_km G d K_M_init 91 [l0] (.ref M.1 :: st) (am_newa (some (0, .inl (fun _ => 0))) n M) := am_run_km (x := (.newarray .int, 2, 0, 0, 0, 0)) (by decide +kernel) rfl
theorem r_M_init_91 {G : Nat → Value} {d : Nat} {st : List Value} {M : am_M} {l0 : Option Value} {a : Nat} {v : Value} : am_run G d K_M_init (91, [l0], v :: .ref a :: st, M) = am_km G d K_M_init 94 [l0] st (am_pf M a 10 20 (am_fty 10 20) v) := am_run_km (x := (.putfield 44, 3, 10, 20, 5039, 0)) (by decide +kernel) rfl
theorem r_M_init_94 {G : Nat → Value} {d : Nat} {st : List Value} {M : am_M} {v : Value} (hv : am_isr v = true) : am_run G d K_M_init (94, [some v], st, M) = am_run G d K_M_init (95, [some v], v :: st, M) := by
  rcases am_isr_cases hv with ⟨q, rfl⟩ | rfl
  · exact am_run_next (x := (.aload_n 0, 1, 0, 0, 0, 0)) (by decide +kernel) rfl
  · exact am_run_next (x := (.aload_n 0, 1, 0, 0, 0, 0)) (by decide +kernel) rfl
theorem r_M_init_95 {G : Nat → Value} {d : Nat} {st : List Value} {M : am_M} {l0 : Option Value} : am_run G d K_M_init (95, [l0], st, M) = am_run G d K_M_init (97, [l0], .int 40 :: st, M) := am_run_next (x := (.bipush 40, 2, 0, 0, 0, 0)) (by decide +kernel) rfl
theorem r_M_init_97 {G : Nat → Value} {d : Nat} {st : List Value} {M : am_M} {l0 : Option Value} {n : Int32} : am_run G d K_M_init (97, [l0], .int n :: st, M) = am_km G d K_M_init 99 [l0] (.ref M.1 :: st) (am_newa (some (0, .inl (fun _ => 0))) n M) := am_run_km (x := (.newarray .int, 2, 0, 0, 0, 0)) (by decide +kernel) rfl
theorem r_M_init_99 {G : Nat → Value} {d : Nat} {st : List Value} {M : am_M} {l0 : Option Value} {a : Nat} {v : Value} : am_run G d K_M_init (99, [l0], v :: .ref a :: st, M) = am_km G d K_M_init 102 [l0] st (am_pf M a 10 21 (am_fty 10 21) v) := am_run_km (x := (.putfield 47, 3, 10, 21, 5040, 0)) (by decide +kernel) rfl
theorem r_M_init_102 {G : Nat → Value} {d : Nat} {st : List Value} {M : am_M} {v : Value} (hv : am_isr v = true) : am_run G d K_M_init (102, [some v], st, M) = am_run G d K_M_init (103, [some v], v :: st, M) := by
  rcases am_isr_cases hv with ⟨q, rfl⟩ | rfl
  · exact am_run_next (x := (.aload_n 0, 1, 0, 0, 0, 0)) (by decide +kernel) rfl
  · exact am_run_next (x := (.aload_n 0, 1, 0, 0, 0, 0)) (by decide +kernel) rfl
theorem r_M_init_103 {G : Nat → Value} {d : Nat} {st : List Value} {M : am_M} {l0 : Option Value} : am_run G d K_M_init (103, [l0], st, M) = am_run G d K_M_init (105, [l0], .int 40 :: st, M) := am_run_next (x := (.bipush 40, 2, 0, 0, 0, 0)) (by decide +kernel) rfl
theorem r_M_init_105 {G : Nat → Value} {d : Nat} {st : List Value} {M : am_M} {l0 : Option Value} {n : Int32} : am_run G d K_M_init (105, [l0], .int n :: st, M) = am_km G d K_M_init 107 [l0] (.ref M.1 :: st) (am_newa (some (0, .inl (fun _ => 0))) n M) := am_run_km (x := (.newarray .int, 2, 0, 0, 0, 0)) (by decide +kernel) rfl
theorem r_M_init_107 {G : Nat → Value} {d : Nat} {st : List Value} {M : am_M} {l0 : Option Value} {a : Nat} {v : Value} : am_run G d K_M_init (107, [l0], v :: .ref a :: st, M) = am_km G d K_M_init 110 [l0] st (am_pf M a 10 22 (am_fty 10 22) v) := am_run_km (x := (.putfield 50, 3, 10, 22, 5041, 0)) (by decide +kernel) rfl
theorem r_M_init_110 {G : Nat → Value} {d : Nat} {st : List Value} {M : am_M} {v : Value} (hv : am_isr v = true) : am_run G d K_M_init (110, [some v], st, M) = am_run G d K_M_init (111, [some v], v :: st, M) := by
  rcases am_isr_cases hv with ⟨q, rfl⟩ | rfl
  · exact am_run_next (x := (.aload_n 0, 1, 0, 0, 0, 0)) (by decide +kernel) rfl
  · exact am_run_next (x := (.aload_n 0, 1, 0, 0, 0, 0)) (by decide +kernel) rfl
theorem r_M_init_111 {G : Nat → Value} {d : Nat} {st : List Value} {M : am_M} {l0 : Option Value} : am_run G d K_M_init (111, [l0], st, M) = am_run G d K_M_init (113, [l0], .int 40 :: st, M) := am_run_next (x := (.bipush 40, 2, 0, 0, 0, 0)) (by decide +kernel) rfl
theorem r_M_init_113 {G : Nat → Value} {d : Nat} {st : List Value} {M : am_M} {l0 : Option Value} {n : Int32} : am_run G d K_M_init (113, [l0], .int n :: st, M) = am_km G d K_M_init 115 [l0] (.ref M.1 :: st) (am_newa (some (0, .inl (fun _ => 0))) n M) := am_run_km (x := (.newarray .int, 2, 0, 0, 0, 0)) (by decide +kernel) rfl
theorem r_M_init_115 {G : Nat → Value} {d : Nat} {st : List Value} {M : am_M} {l0 : Option Value} {a : Nat} {v : Value} : am_run G d K_M_init (115, [l0], v :: .ref a :: st, M) = am_km G d K_M_init 118 [l0] st (am_pf M a 10 23 (am_fty 10 23) v) := am_run_km (x := (.putfield 53, 3, 10, 23, 5042, 0)) (by decide +kernel) rfl
theorem r_M_init_118 {G : Nat → Value} {d : Nat} {st : List Value} {M : am_M} {v : Value} (hv : am_isr v = true) : am_run G d K_M_init (118, [some v], st, M) = am_run G d K_M_init (119, [some v], v :: st, M) := by
  rcases am_isr_cases hv with ⟨q, rfl⟩ | rfl
  · exact am_run_next (x := (.aload_n 0, 1, 0, 0, 0, 0)) (by decide +kernel) rfl
  · exact am_run_next (x := (.aload_n 0, 1, 0, 0, 0, 0)) (by decide +kernel) rfl
theorem r_M_init_119 {G : Nat → Value} {d : Nat} {st : List Value} {M : am_M} {l0 : Option Value} : am_run G d K_M_init (119, [l0], st, M) = am_run G d K_M_init (121, [l0], .int 40 :: st, M) := am_run_next (x := (.bipush 40, 2, 0, 0, 0, 0)) (by decide +kernel) rfl
theorem r_M_init_121 {G : Nat → Value} {d : Nat} {st : List Value} {M : am_M} {l0 : Option Value} {n : Int32} : am_run G d K_M_init (121, [l0], .int n :: st, M) = am_km G d K_M_init 123 [l0] (.ref M.1 :: st) (am_newa (some (0, .inl (fun _ => 0))) n M) := am_run_km (x := (.newarray .int, 2, 0, 0, 0, 0)) (by decide +kernel) rfl
theorem r_M_init_123 {G : Nat → Value} {d : Nat} {st : List Value} {M : am_M} {l0 : Option Value} {a : Nat} {v : Value} : am_run G d K_M_init (123, [l0], v :: .ref a :: st, M) = am_km G d K_M_init 126 [l0] st (am_pf M a 10 24 (am_fty 10 24) v) := am_run_km (x := (.putfield 56, 3, 10, 24, 5043, 0)) (by decide +kernel) rfl
theorem r_M_init_126 {G : Nat → Value} {d : Nat} {st : List Value} {M : am_M} {v : Value} (hv : am_isr v = true) : am_run G d K_M_init (126, [some v], st, M) = am_run G d K_M_init (127, [some v], v :: st, M) := by
  rcases am_isr_cases hv with ⟨q, rfl⟩ | rfl
  · exact am_run_next (x := (.aload_n 0, 1, 0, 0, 0, 0)) (by decide +kernel) rfl
  · exact am_run_next (x := (.aload_n 0, 1, 0, 0, 0, 0)) (by decide +kernel) rfl
theorem r_M_init_127 {G : Nat → Value} {d : Nat} {st : List Value} {M : am_M} {l0 : Option Value} : am_run G d K_M_init (127, [l0], st, M) = am_run G d K_M_init (129, [l0], .int 40 :: st, M) := am_run_next (x := (.bipush 40, 2, 0, 0, 0, 0)) (by decide +kernel) rfl
theorem r_M_init_129 {G : Nat → Value} {d : Nat} {st : List Value} {M : am_M} {l0 : Option Value} {n : Int32} : am_run G d K_M_init (129, [l0], .int n :: st, M) = am_km G d K_M_init 131 [l0] (.ref M.1 :: st) (am_newa (some (0, .inl (fun _ => 0))) n M) := am_run_km (x := (.newarray .int, 2, 0, 0, 0, 0)) (by decide +kernel) rfl
theorem r_M_init_131 {G : Nat → Value} {d : Nat} {st : List Value} {M : am_M} {l0 : Option Value} {a : Nat} {v : Value} : am_run G d K_M_init (131, [l0], v :: .ref a :: st, M) = am_km G d K_M_init 134 [l0] st (am_pf M a 10 25 (am_fty 10 25) v) := am_run_km (x := (.putfield 59, 3, 10, 25, 5044, 0)) (by decide +kernel) rfl
theorem r_M_init_134 {G : Nat → Value} {d : Nat} {st : List Value} {M : am_M} {v : Value} (hv : am_isr v = true) : am_run G d K_M_init (134, [some v], st, M) = am_run G d K_M_init (135, [some v], v :: st, M) := by
  rcases am_isr_cases hv with ⟨q, rfl⟩ | rfl
  · exact am_run_next (x := (.aload_n 0, 1, 0, 0, 0, 0)) (by decide +kernel) rfl
  · exact am_run_next (x := (.aload_n 0, 1, 0, 0, 0, 0)) (by decide +kernel) rfl
theorem r_M_init_135 {G : Nat → Value} {d : Nat} {st : List Value} {M : am_M} {l0 : Option Value} : am_run G d K_M_init (135, [l0], st, M) = am_run G d K_M_init (137, [l0], .int 40 :: st, M) := am_run_next (x := (.bipush 40, 2, 0, 0, 0, 0)) (by decide +kernel) rfl
theorem r_M_init_137 {G : Nat → Value} {d : Nat} {st : List Value} {M : am_M} {l0 : Option Value} {n : Int32} : am_run G d K_M_init (137, [l0], .int n :: st, M) = am_km G d K_M_init 139 [l0] (.ref M.1 :: st) (am_newa (some (0, .inl (fun _ => 0))) n M) := am_run_km (x := (.newarray .int, 2, 0, 0, 0, 0)) (by decide +kernel) rfl
theorem r_M_init_139 {G : Nat → Value} {d : Nat} {st : List Value} {M : am_M} {l0 : Option Value} {a : Nat} {v : Value} : am_run G d K_M_init (139, [l0], v :: .ref a :: st, M) = am_km G d K_M_init 142 [l0] st (am_pf M a 10 26 (am_fty 10 26) v) := am_run_km (x := (.putfield 62, 3, 10, 26, 5045, 0)) (by decide +kernel) rfl
theorem r_M_init_142 {G : Nat → Value} {d : Nat} {st : List Value} {M : am_M} {v : Value} (hv : am_isr v = true) : am_run G d K_M_init (142, [some v], st, M) = am_run G d K_M_init (143, [some v], v :: st, M) := by
  rcases am_isr_cases hv with ⟨q, rfl⟩ | rfl
  · exact am_run_next (x := (.aload_n 0, 1, 0, 0, 0, 0)) (by decide +kernel) rfl
  · exact am_run_next (x := (.aload_n 0, 1, 0, 0, 0, 0)) (by decide +kernel) rfl
theorem r_M_init_143 {G : Nat → Value} {d : Nat} {st : List Value} {M : am_M} {l0 : Option Value} : am_run G d K_M_init (143, [l0], st, M) = am_run G d K_M_init (145, [l0], .int 40 :: st, M) := am_run_next (x := (.bipush 40, 2, 0, 0, 0, 0)) (by decide +kernel) rfl
theorem r_M_init_145 {G : Nat → Value} {d : Nat} {st : List Value} {M : am_M} {l0 : Option Value} {n : Int32} : am_run G d K_M_init (145, [l0], .int n :: st, M) = am_km G d K_M_init 147 [l0] (.ref M.1 :: st) (am_newa (some (2, .inl (fun _ => 0))) n M) := am_run_km (x := (.newarray .boolean, 2, 0, 0, 0, 0)) (by decide +kernel) rfl
theorem r_M_init_147 {G : Nat → Value} {d : Nat} {st : List Value} {M : am_M} {l0 : Option Value} {a : Nat} {v : Value} : am_run G d K_M_init (147, [l0], v :: .ref a :: st, M) = am_km G d K_M_init 150 [l0] st (am_pf M a 10 38 (am_fty 10 38) v) := am_run_km (x := (.putfield 65, 3, 10, 38, 5057, 0)) (by decide +kernel) rfl
theorem r_M_init_150 {G : Nat → Value} {d : Nat} {st : List Value} {M : am_M} {v : Value} (hv : am_isr v = true) : am_run G d K_M_init (150, [some v], st, M) = am_run G d K_M_init (151, [some v], v :: st, M) := by
  rcases am_isr_cases hv with ⟨q, rfl⟩ | rfl
  · exact am_run_next (x := (.aload_n 0, 1, 0, 0, 0, 0)) (by decide +kernel) rfl
  · exact am_run_next (x := (.aload_n 0, 1, 0, 0, 0, 0)) (by decide +kernel) rfl
theorem r_M_init_151 {G : Nat → Value} {d : Nat} {st : List Value} {M : am_M} {l0 : Option Value} : am_run G d K_M_init (151, [l0], st, M) = am_run G d K_M_init (153, [l0], .int 40 :: st, M) := am_run_next (x := (.bipush 40, 2, 0, 0, 0, 0)) (by decide +kernel) rfl
theorem r_M_init_153 {G : Nat → Value} {d : Nat} {st : List Value} {M : am_M} {l0 : Option Value} {n : Int32} : am_run G d K_M_init (153, [l0], .int n :: st, M) = am_km G d K_M_init 155 [l0] (.ref M.1 :: st) (am_newa (some (1, .inr (.inl (fun _ => 0)))) n M) := am_run_km (x := (.newarray .long, 2, 0, 0, 0, 0)) (by decide +kernel) rfl
theorem r_M_init_155 {G : Nat → Value} {d : Nat} {st : List Value} {M : am_M} {l0 : Option Value} {a : Nat} {v : Value} : am_run G d K_M_init (155, [l0], v :: .ref a :: st, M) = am_km G d K_M_init 158 [l0] st (am_pf M a 10 39 (am_fty 10 39) v) := am_run_km (x := (.putfield 69, 3, 10, 39, 5058, 0)) (by decide +kernel) rfl
theorem r_M_init_158 {G : Nat → Value} {d : Nat} {st : List Value} {M : am_M} {v : Value} (hv : am_isr v = true) : am_run G d K_M_init (158, [some v], st, M) = am_run G d K_M_init (159, [some v], v :: st, M) := by
  rcases am_isr_cases hv with ⟨q, rfl⟩ | rfl
  · exact am_run_next (x := (.aload_n 0, 1, 0, 0, 0, 0)) (by decide +kernel) rfl
  · exact am_run_next (x := (.aload_n 0, 1, 0, 0, 0, 0)) (by decide +kernel) rfl
theorem r_M_init_159 {G : Nat → Value} {d : Nat} {st : List Value} {M : am_M} {l0 : Option Value} : am_run G d K_M_init (159, [l0], st, M) = am_run G d K_M_init (161, [l0], .int 40 :: st, M) := am_run_next (x := (.bipush 40, 2, 0, 0, 0, 0)) (by decide +kernel) rfl
theorem r_M_init_161 {G : Nat → Value} {d : Nat} {st : List Value} {M : am_M} {l0 : Option Value} {n : Int32} : am_run G d K_M_init (161, [l0], .int n :: st, M) = am_km G d K_M_init 163 [l0] (.ref M.1 :: st) (am_newa (some (1, .inr (.inl (fun _ => 0)))) n M) := am_run_km (x := (.newarray .long, 2, 0, 0, 0, 0)) (by decide +kernel) rfl
theorem r_M_init_163 {G : Nat → Value} {d : Nat} {st : List Value} {M : am_M} {l0 : Option Value} {a : Nat} {v : Value} : am_run G d K_M_init (163, [l0], v :: .ref a :: st, M) = am_km G d K_M_init 166 [l0] st (am_pf M a 10 40 (am_fty 10 40) v) := am_run_km (x := (.putfield 73, 3, 10, 40, 5059, 0)) (by decide +kernel) rfl
theorem r_M_init_166 {G : Nat → Value} {d : Nat} {st : List Value} {M : am_M} {v : Value} (hv : am_isr v = true) : am_run G d K_M_init (166, [some v], st, M) = am_run G d K_M_init (167, [some v], v :: st, M) := by
  rcases am_isr_cases hv with ⟨q, rfl⟩ | rfl
  · exact am_run_next (x := (.aload_n 0, 1, 0, 0, 0, 0)) (by decide +kernel) rfl
  · exact am_run_next (x := (.aload_n 0, 1, 0, 0, 0, 0)) (by decide +kernel) rfl
theorem r_M_init_167 {G : Nat → Value} {d : Nat} {st : List Value} {M : am_M} {l0 : Option Value} : am_run G d K_M_init (167, [l0], st, M) = am_run G d K_M_init (170, [l0], .int 400 :: st, M) := am_run_next (x := (.sipush 400, 3, 0, 0, 0, 0)) (by decide +kernel) rfl
theorem r_M_init_170 {G : Nat → Value} {d : Nat} {st : List Value} {M : am_M} {l0 : Option Value} {n : Int32} : am_run G d K_M_init (170, [l0], .int n :: st, M) = am_km G d K_M_init 172 [l0] (.ref M.1 :: st) (am_newa (some (0, .inl (fun _ => 0))) n M) := am_run_km (x := (.newarray .int, 2, 0, 0, 0, 0)) (by decide +kernel) rfl
theorem r_M_init_172 {G : Nat → Value} {d : Nat} {st : List Value} {M : am_M} {l0 : Option Value} {a : Nat} {v : Value} : am_run G d K_M_init (172, [l0], v :: .ref a :: st, M) = am_km G d K_M_init 175 [l0] st (am_pf M a 10 44 (am_fty 10 44) v) := am_run_km (x := (.putfield 76, 3, 10, 44, 5063, 0)) (by decide +kernel) rfl
theorem r_M_init_175 {G : Nat → Value} {d : Nat} {st : List Value} {M : am_M} {v : Value} (hv : am_isr v = true) : am_run G d K_M_init (175, [some v], st, M) = am_run G d K_M_init (176, [some v], v :: st, M) := by
  rcases am_isr_cases hv with ⟨q, rfl⟩ | rfl
  · exact am_run_next (x := (.aload_n 0, 1, 0, 0, 0, 0)) (by decide +kernel) rfl
  · exact am_run_next (x := (.aload_n 0, 1, 0, 0, 0, 0)) (by decide +kernel) rfl
theorem r_M_init_176 {G : Nat → Value} {d : Nat} {st : List Value} {M : am_M} {l0 : Option Value} : am_run G d K_M_init (176, [l0], st, M) = am_run G d K_M_init (178, [l0], .int 78 :: st, M) := am_run_next (x := (.bipush 78, 2, 0, 0, 0, 0)) (by decide +kernel) rfl
theorem r_M_init_178 {G : Nat → Value} {d : Nat} {st : List Value} {M : am_M} {l0 : Option Value} {n : Int32} : am_run G d K_M_init (178, [l0], .int n :: st, M) = am_km G d K_M_init 180 [l0] (.ref M.1 :: st) (am_newa (some (0, .inl (fun _ => 0))) n M) := am_run_km (x := (.newarray .int, 2, 0, 0, 0, 0)) (by decide +kernel) rfl
theorem r_M_init_180 {G : Nat → Value} {d : Nat} {st : List Value} {M : am_M} {l0 : Option Value} {a : Nat} {v : Value} : am_run G d K_M_init (180, [l0], v :: .ref a :: st, M) = am_km G d K_M_init 183 [l0] st (am_pf M a 10 45 (am_fty 10 45) v) := am_run_km (x := (.putfield 79, 3, 10, 45, 5064, 0)) (by decide +kernel) rfl
theorem r_M_init_183 {G : Nat → Value} {d : Nat} {st : List Value} {M : am_M} {v : Value} (hv : am_isr v = true) : am_run G d K_M_init (183, [some v], st, M) = am_run G d K_M_init (184, [some v], v :: st, M) := by
  rcases am_isr_cases hv with ⟨q, rfl⟩ | rfl
  · exact am_run_next (x := (.aload_n 0, 1, 0, 0, 0, 0)) (by decide +kernel) rfl
  · exact am_run_next (x := (.aload_n 0, 1, 0, 0, 0, 0)) (by decide +kernel) rfl
theorem r_M_init_184 {G : Nat → Value} {d : Nat} {st : List Value} {M : am_M} {l0 : Option Value} : am_run G d K_M_init (184, [l0], st, M) = am_run G d K_M_init (185, [l0], .int 4 :: st, M) := am_run_next (x := (.iconst 4, 1, 0, 0, 0, 0)) (by decide +kernel) rfl
theorem r_M_init_185 {G : Nat → Value} {d : Nat} {st : List Value} {M : am_M} {l0 : Option Value} {n : Int32} : am_run G d K_M_init (185, [l0], .int n :: st, M) = am_km G d K_M_init 187 [l0] (.ref M.1 :: st) (am_newa (some (2, .inl (fun _ => 0))) n M) := am_run_km (x := (.newarray .boolean, 2, 0, 0, 0, 0)) (by decide +kernel) rfl
theorem r_M_init_187 {G : Nat → Value} {d : Nat} {st : List Value} {M : am_M} {l0 : Option Value} {a : Nat} {v : Value} : am_run G d K_M_init (187, [l0], v :: .ref a :: st, M) = am_km G d K_M_init 190 [l0] st (am_pf M a 10 54 (am_fty 10 54) v) := am_run_km (x := (.putfield 82, 3, 10, 54, 5073, 0)) (by decide +kernel) rfl
theorem r_M_init_190 {G : Nat → Value} {d : Nat} {st : List Value} {M : am_M} {v : Value} (hv : am_isr v = true) : am_run G d K_M_init (190, [some v], st, M) = am_run G d K_M_init (191, [some v], v :: st, M) := by
  rcases am_isr_cases hv with ⟨q, rfl⟩ | rfl
  · exact am_run_next (x := (.aload_n 0, 1, 0, 0, 0, 0)) (by decide +kernel) rfl
  · exact am_run_next (x := (.aload_n 0, 1, 0, 0, 0, 0)) (by decide +kernel) rfl
theorem r_M_init_191 {G : Nat → Value} {d : Nat} {st : List Value} {M : am_M} {l0 : Option Value} : am_run G d K_M_init (191, [l0], st, M) = am_run G d K_M_init (192, [l0], .int 4 :: st, M) := am_run_next (x := (.iconst 4, 1, 0, 0, 0, 0)) (by decide +kernel) rfl
theorem r_M_init_192 {G : Nat → Value} {d : Nat} {st : List Value} {M : am_M} {l0 : Option Value} {n : Int32} : am_run G d K_M_init (192, [l0], .int n :: st, M) = am_km G d K_M_init 194 [l0] (.ref M.1 :: st) (am_newa (some (0, .inl (fun _ => 0))) n M) := am_run_km (x := (.newarray .int, 2, 0, 0, 0, 0)) (by decide +kernel) rfl
theorem r_M_init_194 {G : Nat → Value} {d : Nat} {st : List Value} {M : am_M} {l0 : Option Value} {a : Nat} {v : Value} : am_run G d K_M_init (194, [l0], v :: .ref a :: st, M) = am_km G d K_M_init 197 [l0] st (am_pf M a 10 55 (am_fty 10 55) v) := am_run_km (x := (.putfield 85, 3, 10, 55, 5074, 0)) (by decide +kernel) rfl
theorem r_M_init_197 {G : Nat → Value} {d : Nat} {st : List Value} {M : am_M} {v : Value} (hv : am_isr v = true) : am_run G d K_M_init (197, [some v], st, M) = am_run G d K_M_init (198, [some v], v :: st, M) := by
  rcases am_isr_cases hv with ⟨q, rfl⟩ | rfl
  · exact am_run_next (x := (.aload_n 0, 1, 0, 0, 0, 0)) (by decide +kernel) rfl
  · exact am_run_next (x := (.aload_n 0, 1, 0, 0, 0, 0)) (by decide +kernel) rfl
theorem r_M_init_198 {G : Nat → Value} {d : Nat} {st : List Value} {M : am_M} {l0 : Option Value} : am_run G d K_M_init (198, [l0], st, M) = am_run G d K_M_init (199, [l0], .int 4 :: st, M) := am_run_next (x := (.iconst 4, 1, 0, 0, 0, 0)) (by decide +kernel) rfl
theorem r_M_init_199 {G : Nat → Value} {d : Nat} {st : List Value} {M : am_M} {l0 : Option Value} {n : Int32} : am_run G d K_M_init (199, [l0], .int n :: st, M) = am_km G d K_M_init 201 [l0] (.ref M.1 :: st) (am_newa (some (0, .inl (fun _ => 0))) n M) := am_run_km (x := (.newarray .int, 2, 0, 0, 0, 0)) (by decide +kernel) rfl
theorem r_M_init_201 {G : Nat → Value} {d : Nat} {st : List Value} {M : am_M} {l0 : Option Value} {a : Nat} {v : Value} : am_run G d K_M_init (201, [l0], v :: .ref a :: st, M) = am_km G d K_M_init 204 [l0] st (am_pf M a 10 56 (am_fty 10 56) v) := am_run_km (x := (.putfield 88, 3, 10, 56, 5075, 0)) (by decide +kernel) rfl
theorem r_M_init_204 {G : Nat → Value} {d : Nat} {st : List Value} {M : am_M} {v : Value} (hv : am_isr v = true) : am_run G d K_M_init (204, [some v], st, M) = am_run G d K_M_init (205, [some v], v :: st, M) := by
  rcases am_isr_cases hv with ⟨q, rfl⟩ | rfl
  · exact am_run_next (x := (.aload_n 0, 1, 0, 0, 0, 0)) (by decide +kernel) rfl
  · exact am_run_next (x := (.aload_n 0, 1, 0, 0, 0, 0)) (by decide +kernel) rfl
theorem r_M_init_205 {G : Nat → Value} {d : Nat} {st : List Value} {M : am_M} {l0 : Option Value} : am_run G d K_M_init (205, [l0], st, M) = am_run G d K_M_init (208, [l0], .int 160 :: st, M) := am_run_next (x := (.sipush 160, 3, 0, 0, 0, 0)) (by decide +kernel) rfl
theorem r_M_init_208 {G : Nat → Value} {d : Nat} {st : List Value} {M : am_M} {l0 : Option Value} {n : Int32} : am_run G d K_M_init (208, [l0], .int n :: st, M) = am_km G d K_M_init 210 [l0] (.ref M.1 :: st) (am_newa (some (0, .inl (fun _ => 0))) n M) := am_run_km (x := (.newarray .int, 2, 0, 0, 0, 0)) (by decide +kernel) rfl
theorem r_M_init_210 {G : Nat → Value} {d : Nat} {st : List Value} {M : am_M} {l0 : Option Value} {a : Nat} {v : Value} : am_run G d K_M_init (210, [l0], v :: .ref a :: st, M) = am_km G d K_M_init 213 [l0] st (am_pf M a 10 57 (am_fty 10 57) v) := am_run_km (x := (.putfield 91, 3, 10, 57, 5076, 0)) (by decide +kernel) rfl
theorem r_M_init_213 {G : Nat → Value} {d : Nat} {st : List Value} {M : am_M} {v : Value} (hv : am_isr v = true) : am_run G d K_M_init (213, [some v], st, M) = am_run G d K_M_init (214, [some v], v :: st, M) := by
  rcases am_isr_cases hv with ⟨q, rfl⟩ | rfl
  · exact am_run_next (x := (.aload_n 0, 1, 0, 0, 0, 0)) (by decide +kernel) rfl
  · exact am_run_next (x := (.aload_n 0, 1, 0, 0, 0, 0)) (by decide +kernel) rfl
theorem r_M_init_214 {G : Nat → Value} {d : Nat} {st : List Value} {M : am_M} {l0 : Option Value} : am_run G d K_M_init (214, [l0], st, M) = am_run G d K_M_init (215, [l0], .int 0 :: st, M) := am_run_next (x := (.iconst 0, 1, 0, 0, 0, 0)) (by decide +kernel) rfl
theorem r_M_init_215 {G : Nat → Value} {d : Nat} {st : List Value} {M : am_M} {l0 : Option Value} : am_run G d K_M_init (215, [l0], st, M) = am_run G d K_M_init (218, [l0], .long 7809651206522169714 :: st, M) := am_run_next (x := (.ldc2_w 94, 3, 0, 0, 5010, 7809651206522169714)) (by decide +kernel) rfl
theorem r_M_init_218 {G : Nat → Value} {d : Nat} {st : List Value} {M : am_M} {l0 : Option Value} {q : Nat} {a0 : Int32} {a1 : Int64} (hq : am_cls M q = some 10) (h8 : am_sw st ≤ 8) : am_run G d K_M_init (218, [l0], .long a1 :: .int a0 :: .ref q :: st, M) = am_k G d K_M_init 221 [l0] st (am_ex G d K_M_spell [.ref q, .int a0, .long a1] M) := am_run_iv (i := 96) (n := 2) (pl := 5011) (Bs := [.int a0, .long a1]) (z := K_M_spell) (by decide +kernel) hq h8 rfl (Nat.le_of_ble_eq_true rfl) rfl
theorem r_M_init_221 {G : Nat → Value} {d : Nat} {st : List Value} {M : am_M} {v : Value} (hv : am_isr v = true) : am_run G d K_M_init (221, [some v], st, M) = am_run G d K_M_init (222, [some v], v :: st, M) := by
  rcases am_isr_cases hv with ⟨q, rfl⟩ | rfl
  · exact am_run_next (x := (.aload_n 0, 1, 0, 0, 0, 0)) (by decide +kernel) rfl
  · exact am_run_next (x := (.aload_n 0, 1, 0, 0, 0, 0)) (by decide +kernel) rfl
theorem r_M_init_222 {G : Nat → Value} {d : Nat} {st : List Value} {M : am_M} {l0 : Option Value} : am_run G d K_M_init (222, [l0], st, M) = am_run G d K_M_init (224, [l0], .int 8 :: st, M) := am_run_next (x := (.bipush 8, 2, 0, 0, 0, 0)) (by decide +kernel) rfl
theorem r_M_init_224 {G : Nat → Value} {d : Nat} {st : List Value} {M : am_M} {l0 : Option Value} : am_run G d K_M_init (224, [l0], st, M) = am_run G d K_M_init (227, [l0], .long 7305999860802658363 :: st, M) := am_run_next (x := (.ldc2_w 100, 3, 0, 0, 5016, 7305999860802658363)) (by decide +kernel) rfl
theorem r_M_init_227 {G : Nat → Value} {d : Nat} {st : List Value} {M : am_M} {l0 : Option Value} {q : Nat} {a0 : Int32} {a1 : Int64} (hq : am_cls M q = some 10) (h8 : am_sw st ≤ 8) : am_run G d K_M_init (227, [l0], .long a1 :: .int a0 :: .ref q :: st, M) = am_k G d K_M_init 230 [l0] st (am_ex G d K_M_spell [.ref q, .int a0, .long a1] M) := am_run_iv (i := 96) (n := 2) (pl := 5011) (Bs := [.int a0, .long a1]) (z := K_M_spell) (by decide +kernel) hq h8 rfl (Nat.le_of_ble_eq_true rfl) rfl
theorem r_M_init_230 {G : Nat → Value} {d : Nat} {st : List Value} {M : am_M} {v : Value} (hv : am_isr v = true) : am_run G d K_M_init (230, [some v], st, M) = am_run G d K_M_init (231, [some v], v :: st, M) := by
  rcases am_isr_cases hv with ⟨q, rfl⟩ | rfl
  · exact am_run_next (x := (.aload_n 0, 1, 0, 0, 0, 0)) (by decide +kernel) rfl
  · exact am_run_next (x := (.aload_n 0, 1, 0, 0, 0, 0)) (by decide +kernel) rfl
theorem r_M_init_231 {G : Nat → Value} {d : Nat} {st : List Value} {M : am_M} {l0 : Option Value} : am_run G d K_M_init (231, [l0], st, M) = am_run G d K_M_init (233, [l0], .int 16 :: st, M) := am_run_next (x := (.bipush 16, 2, 0, 0, 0, 0)) (by decide +kernel) rfl
theorem r_M_init_233 {G : Nat → Value} {d : Nat} {st : List Value} {M : am_M} {l0 : Option Value} : am_run G d K_M_init (233, [l0], st, M) = am_run G d K_M_init (236, [l0], .long 2336353775971016820 :: st, M) := am_run_next (x := (.ldc2_w 102, 3, 0, 0, 5017, 2336353775971016820)) (by decide +kernel) rfl
theorem r_M_init_236 {G : Nat → Value} {d : Nat} {st : List Value} {M : am_M} {l0 : Option Value} {q : Nat} {a0 : Int32} {a1 : Int64} (hq : am_cls M q = some 10) (h8 : am_sw st ≤ 8) : am_run G d K_M_init (236, [l0], .long a1 :: .int a0 :: .ref q :: st, M) = am_k G d K_M_init 239 [l0] st (am_ex G d K_M_spell [.ref q, .int a0, .long a1] M) := am_run_iv (i := 96) (n := 2) (pl := 5011) (Bs := [.int a0, .long a1]) (z := K_M_spell) (by decide +kernel) hq h8 rfl (Nat.le_of_ble_eq_true rfl) rfl
theorem r_M_init_239 {G : Nat → Value} {d : Nat} {st : List Value} {M : am_M} {v : Value} (hv : am_isr v = true) : am_run G d K_M_init (239, [some v], st, M) = am_run G d K_M_init (240, [some v], v :: st, M) := by
  rcases am_isr_cases hv with ⟨q, rfl⟩ | rfl
  · exact am_run_next (x := (.aload_n 0, 1, 0, 0, 0, 0)) (by decide +kernel) rfl
  · exact am_run_next (x := (.aload_n 0, 1, 0, 0, 0, 0)) (by decide +kernel) rfl
theorem r_M_init_240 {G : Nat → Value} {d : Nat} {st : List Value} {M : am_M} {l0 : Option Value} : am_run G d K_M_init (240, [l0], st, M) = am_run G d K_M_init (242, [l0], .int 24 :: st, M) := am_run_next (x := (.bipush 24, 2, 0, 0, 0, 0)) (by decide +kernel) rfl
theorem r_M_init_242 {G : Nat → Value} {d : Nat} {st : List Value} {M : am_M} {l0 : Option Value} : am_run G d K_M_init (242, [l0], st, M) = am_run G d K_M_init (245, [l0], .long 7596839335582773280 :: st, M) := am_run_next (x := (.ldc2_w 104, 3, 0, 0, 5018, 7596839335582773280)) (by decide +kernel) rfl
theorem r_M_init_245 {G : Nat → Value} {d : Nat} {st : List Value} {M : am_M} {l0 : Option Value} {q : Nat} {a0 : Int32} {a1 : Int64} (hq : am_cls M q = some 10) (h8 : am_sw st ≤ 8) : am_run G d K_M_init (245, [l0], .long a1 :: .int a0 :: .ref q :: st, M) = am_k G d K_M_init 248 [l0] st (am_ex G d K_M_spell [.ref q, .int a0, .long a1] M) := am_run_iv (i := 96) (n := 2) (pl := 5011) (Bs := [.int a0, .long a1]) (z := K_M_spell) (by decide +kernel) hq h8 rfl (Nat.le_of_ble_eq_true rfl) rfl
theorem r_M_init_248 {G : Nat → Value} {d : Nat} {st : List Value} {M : am_M} {v : Value} (hv : am_isr v = true) : am_run G d K_M_init (248, [some v], st, M) = am_run G d K_M_init (249, [some v], v :: st, M) := by
  rcases am_isr_cases hv with ⟨q, rfl⟩ | rfl
  · exact am_run_next (x := (.aload_n 0, 1, 0, 0, 0, 0)) (by decide +kernel) rfl
  · exact am_run_next (x := (.aload_n 0, 1, 0, 0, 0, 0)) (by decide +kernel) rfl
theorem r_M_init_249 {G : Nat → Value} {d : Nat} {st : List Value} {M : am_M} {l0 : Option Value} : am_run G d K_M_init (249, [l0], st, M) = am_run G d K_M_init (251, [l0], .int 32 :: st, M) := am_run_next (x := (.bipush 32, 2, 0, 0, 0, 0)) (by decide +kernel) rfl
theorem r_M_init_251 {G : Nat → Value} {d : Nat} {st : List Value} {M : am_M} {l0 : Option Value} : am_run G d K_M_init (251, [l0], st, M) = am_run G d K_M_init (254, [l0], .long 4260440569842507808 :: st, M) := am_run_next (x := (.ldc2_w 106, 3, 0, 0, 5019, 4260440569842507808)) (by decide +kernel) rfl
theorem r_M_init_254 {G : Nat → Value} {d : Nat} {st : List Value} {M : am_M} {l0 : Option Value} {q : Nat} {a0 : Int32} {a1 : Int64} (hq : am_cls M q = some 10) (h8 : am_sw st ≤ 8) : am_run G d K_M_init (254, [l0], .long a1 :: .int a0 :: .ref q :: st, M) = am_k G d K_M_init 257 [l0] st (am_ex G d K_M_spell [.ref q, .int a0, .long a1] M) := am_run_iv (i := 96) (n := 2) (pl := 5011) (Bs := [.int a0, .long a1]) (z := K_M_spell) (by decide +kernel) hq h8 rfl (Nat.le_of_ble_eq_true rfl) rfl
theorem r_M_init_257 {G : Nat → Value} {d : Nat} {st : List Value} {M : am_M} {v : Value} (hv : am_isr v = true) : am_run G d K_M_init (257, [some v], st, M) = am_run G d K_M_init (258, [some v], v :: st, M) := by
  rcases am_isr_cases hv with ⟨q, rfl⟩ | rfl
  · exact am_run_next (x := (.aload_n 0, 1, 0, 0, 0, 0)) (by decide +kernel) rfl
  · exact am_run_next (x := (.aload_n 0, 1, 0, 0, 0, 0)) (by decide +kernel) rfl
theorem r_M_init_258 {G : Nat → Value} {d : Nat} {st : List Value} {M : am_M} {l0 : Option Value} {a : Nat} : am_run G d K_M_init (258, [l0], .ref a :: st, M) = am_kf G d K_M_init 261 [l0] st M (am_fld M a 10 2) := am_run_kf (x := (.getfield 17, 3, 10, 2, 5021, 0)) (by decide +kernel) rfl
theorem r_M_init_261 {G : Nat → Value} {d : Nat} {st : List Value} {M : am_M} {l0 : Option Value} : am_run G d K_M_init (261, [l0], st, M) = am_run G d K_M_init (262, [l0], .int 0 :: st, M) := am_run_next (x := (.iconst 0, 1, 0, 0, 0, 0)) (by decide +kernel) rfl
theorem r_M_init_262 {G : Nat → Value} {d : Nat} {st : List Value} {M : am_M} {l0 : Option Value} : am_run G d K_M_init (262, [l0], st, M) = am_run G d K_M_init (264, [l0], .int 40 :: st, M) := am_run_next (x := (.bipush 40, 2, 0, 0, 0, 0)) (by decide +kernel) rfl
theorem r_M_init_264 {G : Nat → Value} {d : Nat} {st : List Value} {M : am_M} {l0 : Option Value} {a : Nat} {i x : Int32} : am_run G d K_M_init (264, [l0], .int x :: .int i :: .ref a :: st, M) = am_km G d K_M_init 265 [l0] st (am_pi M a i x) := am_run_km (x := (.iastore, 1, 0, 0, 0, 0)) (by decide +kernel) rfl
theorem r_M_init_265 {G : Nat → Value} {d : Nat} {st : List Value} {M : am_M} {v : Value} (hv : am_isr v = true) : am_run G d K_M_init (265, [some v], st, M) = am_run G d K_M_init (266, [some v], v :: st, M) := by
  rcases am_isr_cases hv with ⟨q, rfl⟩ | rfl
  · exact am_run_next (x := (.aload_n 0, 1, 0, 0, 0, 0)) (by decide +kernel) rfl
  · exact am_run_next (x := (.aload_n 0, 1, 0, 0, 0, 0)) (by decide +kernel) rfl
theorem r_M_init_266 {G : Nat → Value} {d : Nat} {st : List Value} {M : am_M} {l0 : Option Value} : am_run G d K_M_init (266, [l0], st, M) = am_run G d K_M_init (267, [l0], .int 1 :: st, M) := am_run_next (x := (.iconst 1, 1, 0, 0, 0, 0)) (by decide +kernel) rfl
theorem r_M_init_267 {G : Nat → Value} {d : Nat} {st : List Value} {M : am_M} {l0 : Option Value} {a : Nat} {v : Value} : am_run G d K_M_init (267, [l0], v :: .ref a :: st, M) = am_km G d K_M_init 270 [l0] st (am_pf M a 10 3 .int v) := am_run_km (x := (.putfield 108, 3, 10, 3, 5022, 0)) (by decide +kernel) rfl
theorem r_M_init_270 {G : Nat → Value} {d : Nat} {st : List Value} {M : am_M} {v : Value} (hv : am_isr v = true) : am_run G d K_M_init (270, [some v], st, M) = am_run G d K_M_init (271, [some v], v :: st, M) := by
  rcases am_isr_cases hv with ⟨q, rfl⟩ | rfl
  · exact am_run_next (x := (.aload_n 0, 1, 0, 0, 0, 0)) (by decide +kernel) rfl
  · exact am_run_next (x := (.aload_n 0, 1, 0, 0, 0, 0)) (by decide +kernel) rfl
theorem r_M_init_271 {G : Nat → Value} {d : Nat} {st : List Value} {M : am_M} {l0 : Option Value} : am_run G d K_M_init (271, [l0], st, M) = am_run G d K_M_init (273, [l0], .int 49 :: st, M) := am_run_next (x := (.bipush 49, 2, 0, 0, 0, 0)) (by decide +kernel) rfl
theorem r_M_init_273 {G : Nat → Value} {d : Nat} {st : List Value} {M : am_M} {l0 : Option Value} {a : Nat} {v : Value} : am_run G d K_M_init (273, [l0], v :: .ref a :: st, M) = am_km G d K_M_init 276 [l0] st (am_pf M a 10 7 .int v) := am_run_km (x := (.putfield 111, 3, 10, 7, 5026, 0)) (by decide +kernel) rfl
theorem r_M_init_276 {G : Nat → Value} {d : Nat} {st : List Value} {M : am_M} {v : Value} (hv : am_isr v = true) : am_run G d K_M_init (276, [some v], st, M) = am_run G d K_M_init (277, [some v], v :: st, M) := by
  rcases am_isr_cases hv with ⟨q, rfl⟩ | rfl
  · exact am_run_next (x := (.aload_n 0, 1, 0, 0, 0, 0)) (by decide +kernel) rfl
  · exact am_run_next (x := (.aload_n 0, 1, 0, 0, 0, 0)) (by decide +kernel) rfl
theorem r_M_init_277 {G : Nat → Value} {d : Nat} {st : List Value} {M : am_M} {l0 : Option Value} : am_run G d K_M_init (277, [l0], st, M) = am_run G d K_M_init (279, [l0], .int 100 :: st, M) := am_run_next (x := (.bipush 100, 2, 0, 0, 0, 0)) (by decide +kernel) rfl
theorem r_M_init_279 {G : Nat → Value} {d : Nat} {st : List Value} {M : am_M} {l0 : Option Value} {a : Nat} {v : Value} : am_run G d K_M_init (279, [l0], v :: .ref a :: st, M) = am_km G d K_M_init 282 [l0] st (am_pf M a 10 8 .int v) := am_run_km (x := (.putfield 114, 3, 10, 8, 5027, 0)) (by decide +kernel) rfl
theorem r_M_init_282 {G : Nat → Value} {d : Nat} {st : List Value} {M : am_M} {v : Value} (hv : am_isr v = true) : am_run G d K_M_init (282, [some v], st, M) = am_run G d K_M_init (283, [some v], v :: st, M) := by
  rcases am_isr_cases hv with ⟨q, rfl⟩ | rfl
  · exact am_run_next (x := (.aload_n 0, 1, 0, 0, 0, 0)) (by decide +kernel) rfl
  · exact am_run_next (x := (.aload_n 0, 1, 0, 0, 0, 0)) (by decide +kernel) rfl
theorem r_M_init_283 {G : Nat → Value} {d : Nat} {st : List Value} {M : am_M} {l0 : Option Value} : am_run G d K_M_init (283, [l0], st, M) = am_run G d K_M_init (286, [l0], .int 450 :: st, M) := am_run_next (x := (.sipush 450, 3, 0, 0, 0, 0)) (by decide +kernel) rfl
theorem r_M_init_286 {G : Nat → Value} {d : Nat} {st : List Value} {M : am_M} {l0 : Option Value} {a : Nat} {v : Value} : am_run G d K_M_init (286, [l0], v :: .ref a :: st, M) = am_km G d K_M_init 289 [l0] st (am_pf M a 10 9 .int v) := am_run_km (x := (.putfield 117, 3, 10, 9, 5028, 0)) (by decide +kernel) rfl
theorem r_M_init_289 {G : Nat → Value} {d : Nat} {st : List Value} {M : am_M} {v : Value} (hv : am_isr v = true) : am_run G d K_M_init (289, [some v], st, M) = am_run G d K_M_init (290, [some v], v :: st, M) := by
  rcases am_isr_cases hv with ⟨q, rfl⟩ | rfl
  · exact am_run_next (x := (.aload_n 0, 1, 0, 0, 0, 0)) (by decide +kernel) rfl
  · exact am_run_next (x := (.aload_n 0, 1, 0, 0, 0, 0)) (by decide +kernel) rfl
theorem r_M_init_290 {G : Nat → Value} {d : Nat} {st : List Value} {M : am_M} {l0 : Option Value} : am_run G d K_M_init (290, [l0], st, M) = am_run G d K_M_init (292, [l0], .int 30 :: st, M) := am_run_next (x := (.bipush 30, 2, 0, 0, 0, 0)) (by decide +kernel) rfl
theorem r_M_init_292 {G : Nat → Value} {d : Nat} {st : List Value} {M : am_M} {l0 : Option Value} {a : Nat} {v : Value} : am_run G d K_M_init (292, [l0], v :: .ref a :: st, M) = am_km G d K_M_init 295 [l0] st (am_pf M a 10 10 .int v) := am_run_km (x := (.putfield 120, 3, 10, 10, 5029, 0)) (by decide +kernel) rfl
theorem r_M_init_295 {G : Nat → Value} {d : Nat} {M : am_M} {l0 : Option Value} : am_run G d K_M_init (295, [l0], [], M) = some (none, M) := am_run_ret (x := (.return_, 1, 0, 0, 0, 0)) (by decide +kernel) rfl
theorem r_M_spell_0 {G : Nat → Value} {d : Nat} {st : List Value} {M : am_M} {l0 l1 l2 l3 l4 : Option Value} : am_run G d K_M_spell (0, [l0, l1, l2, l3, l4], st, M) = am_run G d K_M_spell (1, [l0, l1, l2, l3, l4], .int 0 :: st, M) := am_run_next (x := (.iconst 0, 1, 0, 0, 0, 0)) (by decide +kernel) rfl
theorem r_M_spell_1 {G : Nat → Value} {d : Nat} {st : List Value} {M : am_M} {l0 l1 l2 l3 l4 : Option Value} {v : Int32} (hc : am_c1 l3 = true) : am_run G d K_M_spell (1, [l0, l1, l2, l3, l4], .int v :: st, M) = am_run G d K_M_spell (3, [l0, l1, l2, l3, some (.int v)], st, M) := by
  rcases am_c1_cases hc with rfl | ⟨q, rfl⟩ | ⟨q, rfl⟩ | rfl
  · exact am_run_next (x := (.istore 4, 2, 0, 0, 0, 0)) (by decide +kernel) rfl
  · exact am_run_next (x := (.istore 4, 2, 0, 0, 0, 0)) (by decide +kernel) rfl
  · exact am_run_next (x := (.istore 4, 2, 0, 0, 0, 0)) (by decide +kernel) rfl
  · exact am_run_next (x := (.istore 4, 2, 0, 0, 0, 0)) (by decide +kernel) rfl
theorem r_M_spell_1_k {G : Nat → Value} {d : Nat} {st : List Value} {M : am_M} {l0 l1 l2 l4 : Option Value} {v : Int32} {z : Int64} : am_run G d K_M_spell (1, [l0, l1, l2, some (.long z), l4], .int v :: st, M) = am_run G d K_M_spell (3, [l0, l1, l2, none, some (.int v)], st, M) := am_run_next (x := (.istore 4, 2, 0, 0, 0, 0)) (by decide +kernel) rfl
theorem r_M_spell_3 {G : Nat → Value} {d : Nat} {st : List Value} {M : am_M} {l0 l1 l2 l3 : Option Value} {v : Int32} : am_run G d K_M_spell (3, [l0, l1, l2, l3, some (.int v)], st, M) = am_run G d K_M_spell (5, [l0, l1, l2, l3, some (.int v)], .int v :: st, M) := am_run_next (x := (.iload 4, 2, 0, 0, 0, 0)) (by decide +kernel) rfl
theorem r_M_spell_5 {G : Nat → Value} {d : Nat} {st : List Value} {M : am_M} {l0 l1 l2 l3 l4 : Option Value} : am_run G d K_M_spell (5, [l0, l1, l2, l3, l4], st, M) = am_run G d K_M_spell (7, [l0, l1, l2, l3, l4], .int 8 :: st, M) := am_run_next (x := (.bipush 8, 2, 0, 0, 0, 0)) (by decide +kernel) rfl
theorem r_M_spell_7 {G : Nat → Value} {d : Nat} {st : List Value} {M : am_M} {l0 l1 l2 l3 l4 : Option Value} {a b : Int32} : am_run G d K_M_spell (7, [l0, l1, l2, l3, l4], .int b :: .int a :: st, M) = if b ≤ a then am_run G d K_M_spell (40, [l0, l1, l2, l3, l4], st, M) else am_run G d K_M_spell (10, [l0, l1, l2, l3, l4], st, M) := by
  split
  · next h => exact am_run_next (x := (.if_icmp .ge 33, 3, 0, 0, 0, 0)) (by decide +kernel) (am_br_t (decide_eq_true h) (by decide))
  · next h => exact am_run_next (x := (.if_icmp .ge 33, 3, 0, 0, 0, 0)) (by decide +kernel) (am_br_f (decide_eq_false h) (by decide))
theorem r_M_spell_10 {G : Nat → Value} {d : Nat} {st : List Value} {M : am_M} {l1 l2 l3 l4 : Option Value} {v : Value} (hv : am_isr v = true) : am_run G d K_M_spell (10, [some v, l1, l2, l3, l4], st, M) = am_run G d K_M_spell (11, [some v, l1, l2, l3, l4], v :: st, M) := by
  rcases am_isr_cases hv with ⟨q, rfl⟩ | rfl
  · exact am_run_next (x := (.aload_n 0, 1, 0, 0, 0, 0)) (by decide +kernel) rfl
  · exact am_run_next (x := (.aload_n 0, 1, 0, 0, 0, 0)) (by decide +kernel) rfl
theorem r_M_spell_11 {G : Nat → Value} {d : Nat} {st : List Value} {M : am_M} {l0 l1 l2 l3 l4 : Option Value} {a : Nat} : am_run G d K_M_spell (11, [l0, l1, l2, l3, l4], .ref a :: st, M) = am_kf G d K_M_spell 14 [l0, l1, l2, l3, l4] st M (am_fld M a 10 1) := am_run_kf (x := (.getfield 13, 3, 10, 1, 5020, 0)) (by decide +kernel) rfl
theorem r_M_spell_14 {G : Nat → Value} {d : Nat} {st : List Value} {M : am_M} {l0 l2 l3 l4 : Option Value} {v : Int32} : am_run G d K_M_spell (14, [l0, some (.int v), l2, l3, l4], st, M) = am_run G d K_M_spell (15, [l0, some (.int v), l2, l3, l4], .int v :: st, M) := am_run_next (x := (.iload_n 1, 1, 0, 0, 0, 0)) (by decide +kernel) rfl
theorem r_M_spell_15 {G : Nat → Value} {d : Nat} {st : List Value} {M : am_M} {l0 l1 l2 l3 : Option Value} {v : Int32} : am_run G d K_M_spell (15, [l0, l1, l2, l3, some (.int v)], st, M) = am_run G d K_M_spell (17, [l0, l1, l2, l3, some (.int v)], .int v :: st, M) := am_run_next (x := (.iload 4, 2, 0, 0, 0, 0)) (by decide +kernel) rfl
theorem r_M_spell_17 {G : Nat → Value} {d : Nat} {st : List Value} {M : am_M} {l0 l1 l2 l3 l4 : Option Value} {a b : Int32} : am_run G d K_M_spell (17, [l0, l1, l2, l3, l4], .int b :: .int a :: st, M) = am_run G d K_M_spell (18, [l0, l1, l2, l3, l4], .int (a + b) :: st, M) := am_run_next (x := (.iadd, 1, 0, 0, 0, 0)) (by decide +kernel) rfl
theorem r_M_spell_18 {G : Nat → Value} {d : Nat} {st : List Value} {M : am_M} {l0 l1 l3 l4 : Option Value} {v : Int64} : am_run G d K_M_spell (18, [l0, l1, some (.long v), l3, l4], st, M) = am_run G d K_M_spell (19, [l0, l1, some (.long v), l3, l4], .long v :: st, M) := am_run_next (x := (.lload_n 2, 1, 0, 0, 0, 0)) (by decide +kernel) rfl
theorem r_M_spell_19 {G : Nat → Value} {d : Nat} {st : List Value} {M : am_M} {l0 l1 l2 l3 l4 : Option Value} : am_run G d K_M_spell (19, [l0, l1, l2, l3, l4], st, M) = am_run G d K_M_spell (21, [l0, l1, l2, l3, l4], .int 56 :: st, M) := am_run_next (x := (.bipush 56, 2, 0, 0, 0, 0)) (by decide +kernel) rfl
theorem r_M_spell_21 {G : Nat → Value} {d : Nat} {st : List Value} {M : am_M} {l0 l1 l2 l3 l4 : Option Value} : am_run G d K_M_spell (21, [l0, l1, l2, l3, l4], st, M) = am_run G d K_M_spell (23, [l0, l1, l2, l3, l4], .int 8 :: st, M) := am_run_next (x := (.bipush 8, 2, 0, 0, 0, 0)) (by decide +kernel) rfl
theorem r_M_spell_23 {G : Nat → Value} {d : Nat} {st : List Value} {M : am_M} {l0 l1 l2 l3 : Option Value} {v : Int32} : am_run G d K_M_spell (23, [l0, l1, l2, l3, some (.int v)], st, M) = am_run G d K_M_spell (25, [l0, l1, l2, l3, some (.int v)], .int v :: st, M) := am_run_next (x := (.iload 4, 2, 0, 0, 0, 0)) (by decide +kernel) rfl
theorem r_M_spell_25 {G : Nat → Value} {d : Nat} {st : List Value} {M : am_M} {l0 l1 l2 l3 l4 : Option Value} {a b : Int32} : am_run G d K_M_spell (25, [l0, l1, l2, l3, l4], .int b :: .int a :: st, M) = am_run G d K_M_spell (26, [l0, l1, l2, l3, l4], .int (a * b) :: st, M) := am_run_next (x := (.imul, 1, 0, 0, 0, 0)) (by decide +kernel) rfl
theorem r_M_spell_26 {G : Nat → Value} {d : Nat} {st : List Value} {M : am_M} {l0 l1 l2 l3 l4 : Option Value} {a b : Int32} : am_run G d K_M_spell (26, [l0, l1, l2, l3, l4], .int b :: .int a :: st, M) = am_run G d K_M_spell (27, [l0, l1, l2, l3, l4], .int (a - b) :: st, M) := am_run_next (x := (.isub, 1, 0, 0, 0, 0)) (by decide +kernel) rfl
theorem r_M_spell_27 {G : Nat → Value} {d : Nat} {st : List Value} {M : am_M} {l0 l1 l2 l3 l4 : Option Value} {a : Int64} {b : Int32} : am_run G d K_M_spell (27, [l0, l1, l2, l3, l4], .int b :: .long a :: st, M) = am_run G d K_M_spell (28, [l0, l1, l2, l3, l4], .long (a >>> (b.toInt64 &&& 63)) :: st, M) := am_run_next (x := (.lshr, 1, 0, 0, 0, 0)) (by decide +kernel) rfl
theorem r_M_spell_28 {G : Nat → Value} {d : Nat} {st : List Value} {M : am_M} {l0 l1 l2 l3 l4 : Option Value} : am_run G d K_M_spell (28, [l0, l1, l2, l3, l4], st, M) = am_run G d K_M_spell (31, [l0, l1, l2, l3, l4], .long 255 :: st, M) := am_run_next (x := (.ldc2_w 123, 3, 0, 0, 5015, 255)) (by decide +kernel) rfl
theorem r_M_spell_31 {G : Nat → Value} {d : Nat} {st : List Value} {M : am_M} {l0 l1 l2 l3 l4 : Option Value} {a b : Int64} : am_run G d K_M_spell (31, [l0, l1, l2, l3, l4], .long b :: .long a :: st, M) = am_run G d K_M_spell (32, [l0, l1, l2, l3, l4], .long (a &&& b) :: st, M) := am_run_next (x := (.land, 1, 0, 0, 0, 0)) (by decide +kernel) rfl
theorem r_M_spell_32 {G : Nat → Value} {d : Nat} {st : List Value} {M : am_M} {l0 l1 l2 l3 l4 : Option Value} {a : Int64} : am_run G d K_M_spell (32, [l0, l1, l2, l3, l4], .long a :: st, M) = am_run G d K_M_spell (33, [l0, l1, l2, l3, l4], .int a.toInt32 :: st, M) := am_run_next (x := (.l2i, 1, 0, 0, 0, 0)) (by decide +kernel) rfl
theorem r_M_spell_33 {G : Nat → Value} {d : Nat} {st : List Value} {M : am_M} {l0 l1 l2 l3 l4 : Option Value} {a : Nat} {i x : Int32} : am_run G d K_M_spell (33, [l0, l1, l2, l3, l4], .int x :: .int i :: .ref a :: st, M) = am_km G d K_M_spell 34 [l0, l1, l2, l3, l4] st (am_pi M a i x) := am_run_km (x := (.iastore, 1, 0, 0, 0, 0)) (by decide +kernel) rfl
theorem r_M_spell_34 {G : Nat → Value} {d : Nat} {st : List Value} {M : am_M} {l0 l1 l2 l3 : Option Value} {v : Int32} (hc : am_c1 l3 = true) : am_run G d K_M_spell (34, [l0, l1, l2, l3, some (.int v)], st, M) = am_run G d K_M_spell (37, [l0, l1, l2, l3, some (.int (v + 1))], st, M) := by
  rcases am_c1_cases hc with rfl | ⟨q, rfl⟩ | ⟨q, rfl⟩ | rfl
  · exact am_run_next (x := (.iinc 4 1, 3, 0, 0, 0, 0)) (by decide +kernel) rfl
  · exact am_run_next (x := (.iinc 4 1, 3, 0, 0, 0, 0)) (by decide +kernel) rfl
  · exact am_run_next (x := (.iinc 4 1, 3, 0, 0, 0, 0)) (by decide +kernel) rfl
  · exact am_run_next (x := (.iinc 4 1, 3, 0, 0, 0, 0)) (by decide +kernel) rfl
theorem r_M_spell_34_k {G : Nat → Value} {d : Nat} {st : List Value} {M : am_M} {l0 l1 l2 : Option Value} {v : Int32} {z : Int64} : am_run G d K_M_spell (34, [l0, l1, l2, some (.long z), some (.int v)], st, M) = am_run G d K_M_spell (37, [l0, l1, l2, none, some (.int (v + 1))], st, M) := am_run_next (x := (.iinc 4 1, 3, 0, 0, 0, 0)) (by decide +kernel) rfl
theorem r_M_spell_37 {G : Nat → Value} {d : Nat} {st : List Value} {M : am_M} {l0 l1 l2 l3 l4 : Option Value} : am_run G d K_M_spell (37, [l0, l1, l2, l3, l4], st, M) = am_run G d K_M_spell (3, [l0, l1, l2, l3, l4], st, M) := am_run_next (x := (.goto (-34), 3, 0, 0, 0, 0)) (by decide +kernel) rfl
theorem r_M_spell_40 {G : Nat → Value} {d : Nat} {M : am_M} {l0 l1 l2 l3 l4 : Option Value} : am_run G d K_M_spell (40, [l0, l1, l2, l3, l4], [], M) = some (none, M) := am_run_ret (x := (.return_, 1, 0, 0, 0, 0)) (by decide +kernel) rfl
theorem r_M_stuff_0 {G : Nat → Value} {d : Nat} {st : List Value} {M : am_M} {l0 l2 : Option Value} {v : Int32} : am_run G d K_M_stuff (0, [l0, some (.int v), l2], st, M) = am_run G d K_M_stuff (1, [l0, some (.int v), l2], .int v :: st, M) := am_run_next (x := (.iload_n 1, 1, 0, 0, 0, 0)) (by decide +kernel) rfl
theorem r_M_stuff_1 {G : Nat → Value} {d : Nat} {st : List Value} {M : am_M} {l0 l1 l2 : Option Value} {a : Int32} : am_run G d K_M_stuff (1, [l0, l1, l2], .int a :: st, M) = am_run G d K_M_stuff (2, [l0, l1, l2], .long a.toInt64 :: st, M) := am_run_next (x := (.i2l, 1, 0, 0, 0, 0)) (by decide +kernel) rfl
theorem r_M_stuff_2 {G : Nat → Value} {d : Nat} {st : List Value} {M : am_M} {l0 l1 l2 : Option Value} : am_run G d K_M_stuff (2, [l0, l1, l2], st, M) = am_run G d K_M_stuff (3, [l0, l1, l2], .long 0 :: st, M) := am_run_next (x := (.lconst 0, 1, 0, 0, 0, 0)) (by decide +kernel) rfl
theorem r_M_stuff_3 {G : Nat → Value} {d : Nat} {st : List Value} {M : am_M} {l0 l1 l2 : Option Value} : am_run G d K_M_stuff (3, [l0, l1, l2], st, M) = am_run G d K_M_stuff (6, [l0, l1, l2], .long 999999 :: st, M) := am_run_next (x := (.ldc2_w 139, 3, 0, 0, 5199, 999999)) (by decide +kernel) rfl
theorem r_M_stuff_6 {G : Nat → Value} {d : Nat} {st : List Value} {M : am_M} {l0 l1 l2 : Option Value} {a0 : Int64} {a1 : Int64} {a2 : Int64} (h8 : am_sw st ≤ 8) : am_run G d K_M_stuff (6, [l0, l1, l2], .long a2 :: .long a1 :: .long a0 :: st, M) = am_k G d K_M_stuff 9 [l0, l1, l2] st (am_ex G d K_M_in [.long a0, .long a1, .long a2] M) := am_run_is (i := 128) (n := 3) (pl := 5200) (Bs := [.long a0, .long a1, .long a2]) (z := K_M_in) (v := 1) (by decide) (by decide) (by decide +kernel) h8 rfl (Nat.le_of_ble_eq_true rfl) rfl
theorem r_M_stuff_9 {G : Nat → Value} {d : Nat} {st : List Value} {M : am_M} {l0 l1 l2 : Option Value} {a : Int32} : am_run G d K_M_stuff (9, [l0, l1, l2], .int a :: st, M) = if a = 0 then am_run G d K_M_stuff (24, [l0, l1, l2], st, M) else am_run G d K_M_stuff (12, [l0, l1, l2], st, M) := by
  split
  · next h => exact am_run_next (x := (.ifCond .eq 15, 3, 0, 0, 0, 0)) (by decide +kernel) (am_br_t (decide_eq_true h) (by decide))
  · next h => exact am_run_next (x := (.ifCond .eq 15, 3, 0, 0, 0, 0)) (by decide +kernel) (am_br_f (decide_eq_false h) (by decide))
theorem r_M_stuff_12 {G : Nat → Value} {d : Nat} {st : List Value} {M : am_M} {l0 l1 : Option Value} {v : Int32} : am_run G d K_M_stuff (12, [l0, l1, some (.int v)], st, M) = am_run G d K_M_stuff (13, [l0, l1, some (.int v)], .int v :: st, M) := am_run_next (x := (.iload_n 2, 1, 0, 0, 0, 0)) (by decide +kernel) rfl
theorem r_M_stuff_13 {G : Nat → Value} {d : Nat} {st : List Value} {M : am_M} {l0 l1 l2 : Option Value} {a : Int32} : am_run G d K_M_stuff (13, [l0, l1, l2], .int a :: st, M) = am_run G d K_M_stuff (14, [l0, l1, l2], .long a.toInt64 :: st, M) := am_run_next (x := (.i2l, 1, 0, 0, 0, 0)) (by decide +kernel) rfl
theorem r_M_stuff_14 {G : Nat → Value} {d : Nat} {st : List Value} {M : am_M} {l0 l1 l2 : Option Value} : am_run G d K_M_stuff (14, [l0, l1, l2], st, M) = am_run G d K_M_stuff (15, [l0, l1, l2], .long 0 :: st, M) := am_run_next (x := (.lconst 0, 1, 0, 0, 0, 0)) (by decide +kernel) rfl
theorem r_M_stuff_15 {G : Nat → Value} {d : Nat} {st : List Value} {M : am_M} {l0 l1 l2 : Option Value} : am_run G d K_M_stuff (15, [l0, l1, l2], st, M) = am_run G d K_M_stuff (18, [l0, l1, l2], .long 99 :: st, M) := am_run_next (x := (.ldc2_w 141, 3, 0, 0, 5203, 99)) (by decide +kernel) rfl
theorem r_M_stuff_18 {G : Nat → Value} {d : Nat} {st : List Value} {M : am_M} {l0 l1 l2 : Option Value} {a0 : Int64} {a1 : Int64} {a2 : Int64} (h8 : am_sw st ≤ 8) : am_run G d K_M_stuff (18, [l0, l1, l2], .long a2 :: .long a1 :: .long a0 :: st, M) = am_k G d K_M_stuff 21 [l0, l1, l2] st (am_ex G d K_M_in [.long a0, .long a1, .long a2] M) := am_run_is (i := 128) (n := 3) (pl := 5200) (Bs := [.long a0, .long a1, .long a2]) (z := K_M_in) (v := 1) (by decide) (by decide) (by decide +kernel) h8 rfl (Nat.le_of_ble_eq_true rfl) rfl
theorem r_M_stuff_21 {G : Nat → Value} {d : Nat} {st : List Value} {M : am_M} {l0 l1 l2 : Option Value} {a : Int32} : am_run G d K_M_stuff (21, [l0, l1, l2], .int a :: st, M) = if ¬ a = 0 then am_run G d K_M_stuff (27, [l0, l1, l2], st, M) else am_run G d K_M_stuff (24, [l0, l1, l2], st, M) := by
  split
  · next h => exact am_run_next (x := (.ifCond .ne 6, 3, 0, 0, 0, 0)) (by decide +kernel) (am_br_t (decide_eq_true h) (by decide))
  · next h => exact am_run_next (x := (.ifCond .ne 6, 3, 0, 0, 0, 0)) (by decide +kernel) (am_br_f (decide_eq_false h) (by decide))
theorem r_M_stuff_24 {G : Nat → Value} {d : Nat} {st : List Value} {M : am_M} {l0 l1 l2 : Option Value} : am_run G d K_M_stuff (24, [l0, l1, l2], st, M) = am_run G d K_M_stuff (26, [l0, l1, l2], .int (-2) :: st, M) := am_run_next (x := (.bipush (-2), 2, 0, 0, 0, 0)) (by decide +kernel) rfl
theorem r_M_stuff_26 {G : Nat → Value} {d : Nat} {M : am_M} {l0 l1 l2 : Option Value} {a : Int32} : am_run G d K_M_stuff (26, [l0, l1, l2], [.int a], M) = some (some (.int a), M) := am_run_ret (x := (.ireturn, 1, 0, 0, 0, 0)) (by decide +kernel) rfl
theorem r_M_stuff_27 {G : Nat → Value} {d : Nat} {st : List Value} {M : am_M} {l1 l2 : Option Value} {v : Value} (hv : am_isr v = true) : am_run G d K_M_stuff (27, [some v, l1, l2], st, M) = am_run G d K_M_stuff (28, [some v, l1, l2], v :: st, M) := by
  rcases am_isr_cases hv with ⟨q, rfl⟩ | rfl
  · exact am_run_next (x := (.aload_n 0, 1, 0, 0, 0, 0)) (by decide +kernel) rfl
  · exact am_run_next (x := (.aload_n 0, 1, 0, 0, 0, 0)) (by decide +kernel) rfl
theorem r_M_stuff_28 {G : Nat → Value} {d : Nat} {st : List Value} {M : am_M} {l0 l1 l2 : Option Value} {a : Nat} : am_run G d K_M_stuff (28, [l0, l1, l2], .ref a :: st, M) = am_kf G d K_M_stuff 31 [l0, l1, l2] st M (am_fld M a 10 13) := am_run_kf (x := (.getfield 132, 3, 10, 13, 5032, 0)) (by decide +kernel) rfl
theorem r_M_stuff_31 {G : Nat → Value} {d : Nat} {st : List Value} {M : am_M} {l0 l1 l2 : Option Value} : am_run G d K_M_stuff (31, [l0, l1, l2], st, M) = am_run G d K_M_stuff (33, [l0, l1, l2], .int 8 :: st, M) := am_run_next (x := (.bipush 8, 2, 0, 0, 0, 0)) (by decide +kernel) rfl
theorem r_M_stuff_33 {G : Nat → Value} {d : Nat} {st : List Value} {M : am_M} {l0 l1 l2 : Option Value} {a b : Int32} : am_run G d K_M_stuff (33, [l0, l1, l2], .int b :: .int a :: st, M) = if ¬ a = b then am_run G d K_M_stuff (39, [l0, l1, l2], st, M) else am_run G d K_M_stuff (36, [l0, l1, l2], st, M) := by
  split
  · next h => exact am_run_next (x := (.if_icmp .ne 6, 3, 0, 0, 0, 0)) (by decide +kernel) (am_br_t (decide_eq_true h) (by decide))
  · next h => exact am_run_next (x := (.if_icmp .ne 6, 3, 0, 0, 0, 0)) (by decide +kernel) (am_br_f (decide_eq_false h) (by decide))
theorem r_M_stuff_36 {G : Nat → Value} {d : Nat} {st : List Value} {M : am_M} {l0 l1 l2 : Option Value} : am_run G d K_M_stuff (36, [l0, l1, l2], st, M) = am_run G d K_M_stuff (38, [l0, l1, l2], .int (-4) :: st, M) := am_run_next (x := (.bipush (-4), 2, 0, 0, 0, 0)) (by decide +kernel) rfl
theorem r_M_stuff_38 {G : Nat → Value} {d : Nat} {M : am_M} {l0 l1 l2 : Option Value} {a : Int32} : am_run G d K_M_stuff (38, [l0, l1, l2], [.int a], M) = some (some (.int a), M) := am_run_ret (x := (.ireturn, 1, 0, 0, 0, 0)) (by decide +kernel) rfl
theorem r_M_stuff_39 {G : Nat → Value} {d : Nat} {st : List Value} {M : am_M} {l1 l2 : Option Value} {v : Value} (hv : am_isr v = true) : am_run G d K_M_stuff (39, [some v, l1, l2], st, M) = am_run G d K_M_stuff (40, [some v, l1, l2], v :: st, M) := by
  rcases am_isr_cases hv with ⟨q, rfl⟩ | rfl
  · exact am_run_next (x := (.aload_n 0, 1, 0, 0, 0, 0)) (by decide +kernel) rfl
  · exact am_run_next (x := (.aload_n 0, 1, 0, 0, 0, 0)) (by decide +kernel) rfl
theorem r_M_stuff_40 {G : Nat → Value} {d : Nat} {st : List Value} {M : am_M} {l0 l1 l2 : Option Value} {a : Nat} : am_run G d K_M_stuff (40, [l0, l1, l2], .ref a :: st, M) = am_kf G d K_M_stuff 43 [l0, l1, l2] st M (am_fld M a 10 11) := am_run_kf (x := (.getfield 23, 3, 10, 11, 5030, 0)) (by decide +kernel) rfl
theorem r_M_stuff_43 {G : Nat → Value} {d : Nat} {st : List Value} {M : am_M} {l0 l1 l2 : Option Value} : am_run G d K_M_stuff (43, [l0, l1, l2], st, M) = am_run G d K_M_stuff (44, [l0, l1, l2], .int 3 :: st, M) := am_run_next (x := (.iconst 3, 1, 0, 0, 0, 0)) (by decide +kernel) rfl
theorem r_M_stuff_44 {G : Nat → Value} {d : Nat} {st : List Value} {M : am_M} {l1 l2 : Option Value} {v : Value} (hv : am_isr v = true) : am_run G d K_M_stuff (44, [some v, l1, l2], st, M) = am_run G d K_M_stuff (45, [some v, l1, l2], v :: st, M) := by
  rcases am_isr_cases hv with ⟨q, rfl⟩ | rfl
  · exact am_run_next (x := (.aload_n 0, 1, 0, 0, 0, 0)) (by decide +kernel) rfl
  · exact am_run_next (x := (.aload_n 0, 1, 0, 0, 0, 0)) (by decide +kernel) rfl
theorem r_M_stuff_45 {G : Nat → Value} {d : Nat} {st : List Value} {M : am_M} {l0 l1 l2 : Option Value} {a : Nat} : am_run G d K_M_stuff (45, [l0, l1, l2], .ref a :: st, M) = am_kf G d K_M_stuff 48 [l0, l1, l2] st M (am_fld M a 10 13) := am_run_kf (x := (.getfield 132, 3, 10, 13, 5032, 0)) (by decide +kernel) rfl
theorem r_M_stuff_48 {G : Nat → Value} {d : Nat} {st : List Value} {M : am_M} {l0 l1 l2 : Option Value} {a b : Int32} : am_run G d K_M_stuff (48, [l0, l1, l2], .int b :: .int a :: st, M) = am_run G d K_M_stuff (49, [l0, l1, l2], .int (a * b) :: st, M) := am_run_next (x := (.imul, 1, 0, 0, 0, 0)) (by decide +kernel) rfl
theorem r_M_stuff_49 {G : Nat → Value} {d : Nat} {st : List Value} {M : am_M} {l0 l2 : Option Value} {v : Int32} : am_run G d K_M_stuff (49, [l0, some (.int v), l2], st, M) = am_run G d K_M_stuff (50, [l0, some (.int v), l2], .int v :: st, M) := am_run_next (x := (.iload_n 1, 1, 0, 0, 0, 0)) (by decide +kernel) rfl
theorem r_M_stuff_50 {G : Nat → Value} {d : Nat} {st : List Value} {M : am_M} {l0 l1 l2 : Option Value} : am_run G d K_M_stuff (50, [l0, l1, l2], st, M) = am_run G d K_M_stuff (53, [l0, l1, l2], .int 10000 :: st, M) := am_run_next (x := (.sipush 10000, 3, 0, 0, 0, 0)) (by decide +kernel) rfl
theorem r_M_stuff_53 {G : Nat → Value} {d : Nat} {st : List Value} {M : am_M} {l0 l1 l2 : Option Value} {a b : Int32} : am_run G d K_M_stuff (53, [l0, l1, l2], .int b :: .int a :: st, M) = if b = 0 then none else am_run G d K_M_stuff (54, [l0, l1, l2], .int (a / b) :: st, M) := by
  split
  · next h => exact am_run_stuck (x := (.idiv, 1, 0, 0, 0, 0)) (by decide +kernel) (if_pos h)
  · next h => exact am_run_next (x := (.idiv, 1, 0, 0, 0, 0)) (by decide +kernel) (if_neg h)
theorem r_M_stuff_54 {G : Nat → Value} {d : Nat} {st : List Value} {M : am_M} {l0 l1 l2 : Option Value} {a : Nat} {i x : Int32} : am_run G d K_M_stuff (54, [l0, l1, l2], .int x :: .int i :: .ref a :: st, M) = am_km G d K_M_stuff 55 [l0, l1, l2] st (am_pi M a i x) := am_run_km (x := (.iastore, 1, 0, 0, 0, 0)) (by decide +kernel) rfl
theorem r_M_stuff_55 {G : Nat → Value} {d : Nat} {st : List Value} {M : am_M} {l1 l2 : Option Value} {v : Value} (hv : am_isr v = true) : am_run G d K_M_stuff (55, [some v, l1, l2], st, M) = am_run G d K_M_stuff (56, [some v, l1, l2], v :: st, M) := by
  rcases am_isr_cases hv with ⟨q, rfl⟩ | rfl
  · exact am_run_next (x := (.aload_n 0, 1, 0, 0, 0, 0)) (by decide +kernel) rfl
  · exact am_run_next (x := (.aload_n 0, 1, 0, 0, 0, 0)) (by decide +kernel) rfl
theorem r_M_stuff_56 {G : Nat → Value} {d : Nat} {st : List Value} {M : am_M} {l0 l1 l2 : Option Value} {a : Nat} : am_run G d K_M_stuff (56, [l0, l1, l2], .ref a :: st, M) = am_kf G d K_M_stuff 59 [l0, l1, l2] st M (am_fld M a 10 11) := am_run_kf (x := (.getfield 23, 3, 10, 11, 5030, 0)) (by decide +kernel) rfl
theorem r_M_stuff_59 {G : Nat → Value} {d : Nat} {st : List Value} {M : am_M} {l0 l1 l2 : Option Value} : am_run G d K_M_stuff (59, [l0, l1, l2], st, M) = am_run G d K_M_stuff (60, [l0, l1, l2], .int 3 :: st, M) := am_run_next (x := (.iconst 3, 1, 0, 0, 0, 0)) (by decide +kernel) rfl
theorem r_M_stuff_60 {G : Nat → Value} {d : Nat} {st : List Value} {M : am_M} {l1 l2 : Option Value} {v : Value} (hv : am_isr v = true) : am_run G d K_M_stuff (60, [some v, l1, l2], st, M) = am_run G d K_M_stuff (61, [some v, l1, l2], v :: st, M) := by
  rcases am_isr_cases hv with ⟨q, rfl⟩ | rfl
  · exact am_run_next (x := (.aload_n 0, 1, 0, 0, 0, 0)) (by decide +kernel) rfl
  · exact am_run_next (x := (.aload_n 0, 1, 0, 0, 0, 0)) (by decide +kernel) rfl
theorem r_M_stuff_61 {G : Nat → Value} {d : Nat} {st : List Value} {M : am_M} {l0 l1 l2 : Option Value} {a : Nat} : am_run G d K_M_stuff (61, [l0, l1, l2], .ref a :: st, M) = am_kf G d K_M_stuff 64 [l0, l1, l2] st M (am_fld M a 10 13) := am_run_kf (x := (.getfield 132, 3, 10, 13, 5032, 0)) (by decide +kernel) rfl
theorem r_M_stuff_64 {G : Nat → Value} {d : Nat} {st : List Value} {M : am_M} {l0 l1 l2 : Option Value} {a b : Int32} : am_run G d K_M_stuff (64, [l0, l1, l2], .int b :: .int a :: st, M) = am_run G d K_M_stuff (65, [l0, l1, l2], .int (a * b) :: st, M) := am_run_next (x := (.imul, 1, 0, 0, 0, 0)) (by decide +kernel) rfl
theorem r_M_stuff_65 {G : Nat → Value} {d : Nat} {st : List Value} {M : am_M} {l0 l1 l2 : Option Value} : am_run G d K_M_stuff (65, [l0, l1, l2], st, M) = am_run G d K_M_stuff (66, [l0, l1, l2], .int 1 :: st, M) := am_run_next (x := (.iconst 1, 1, 0, 0, 0, 0)) (by decide +kernel) rfl
theorem r_M_stuff_66 {G : Nat → Value} {d : Nat} {st : List Value} {M : am_M} {l0 l1 l2 : Option Value} {a b : Int32} : am_run G d K_M_stuff (66, [l0, l1, l2], .int b :: .int a :: st, M) = am_run G d K_M_stuff (67, [l0, l1, l2], .int (a + b) :: st, M) := am_run_next (x := (.iadd, 1, 0, 0, 0, 0)) (by decide +kernel) rfl
theorem r_M_stuff_67 {G : Nat → Value} {d : Nat} {st : List Value} {M : am_M} {l0 l2 : Option Value} {v : Int32} : am_run G d K_M_stuff (67, [l0, some (.int v), l2], st, M) = am_run G d K_M_stuff (68, [l0, some (.int v), l2], .int v :: st, M) := am_run_next (x := (.iload_n 1, 1, 0, 0, 0, 0)) (by decide +kernel) rfl
theorem r_M_stuff_68 {G : Nat → Value} {d : Nat} {st : List Value} {M : am_M} {l0 l1 l2 : Option Value} : am_run G d K_M_stuff (68, [l0, l1, l2], st, M) = am_run G d K_M_stuff (70, [l0, l1, l2], .int 100 :: st, M) := am_run_next (x := (.bipush 100, 2, 0, 0, 0, 0)) (by decide +kernel) rfl
theorem r_M_stuff_70 {G : Nat → Value} {d : Nat} {st : List Value} {M : am_M} {l0 l1 l2 : Option Value} {a b : Int32} : am_run G d K_M_stuff (70, [l0, l1, l2], .int b :: .int a :: st, M) = if b = 0 then none else am_run G d K_M_stuff (71, [l0, l1, l2], .int (a / b) :: st, M) := by
  split
  · next h => exact am_run_stuck (x := (.idiv, 1, 0, 0, 0, 0)) (by decide +kernel) (if_pos h)
  · next h => exact am_run_next (x := (.idiv, 1, 0, 0, 0, 0)) (by decide +kernel) (if_neg h)
theorem r_M_stuff_71 {G : Nat → Value} {d : Nat} {st : List Value} {M : am_M} {l0 l1 l2 : Option Value} : am_run G d K_M_stuff (71, [l0, l1, l2], st, M) = am_run G d K_M_stuff (73, [l0, l1, l2], .int 100 :: st, M) := am_run_next (x := (.bipush 100, 2, 0, 0, 0, 0)) (by decide +kernel) rfl
theorem r_M_stuff_73 {G : Nat → Value} {d : Nat} {st : List Value} {M : am_M} {l0 l1 l2 : Option Value} {a b : Int32} : am_run G d K_M_stuff (73, [l0, l1, l2], .int b :: .int a :: st, M) = if b = 0 then none else am_run G d K_M_stuff (74, [l0, l1, l2], .int (a - a / b * b) :: st, M) := by
  split
  · next h => exact am_run_stuck (x := (.irem, 1, 0, 0, 0, 0)) (by decide +kernel) (if_pos h)
  · next h => exact am_run_next (x := (.irem, 1, 0, 0, 0, 0)) (by decide +kernel) (if_neg h)
theorem r_M_stuff_74 {G : Nat → Value} {d : Nat} {st : List Value} {M : am_M} {l0 l1 l2 : Option Value} {a : Nat} {i x : Int32} : am_run G d K_M_stuff (74, [l0, l1, l2], .int x :: .int i :: .ref a :: st, M) = am_km G d K_M_stuff 75 [l0, l1, l2] st (am_pi M a i x) := am_run_km (x := (.iastore, 1, 0, 0, 0, 0)) (by decide +kernel) rfl
theorem r_M_stuff_75 {G : Nat → Value} {d : Nat} {st : List Value} {M : am_M} {l1 l2 : Option Value} {v : Value} (hv : am_isr v = true) : am_run G d K_M_stuff (75, [some v, l1, l2], st, M) = am_run G d K_M_stuff (76, [some v, l1, l2], v :: st, M) := by
  rcases am_isr_cases hv with ⟨q, rfl⟩ | rfl
  · exact am_run_next (x := (.aload_n 0, 1, 0, 0, 0, 0)) (by decide +kernel) rfl
  · exact am_run_next (x := (.aload_n 0, 1, 0, 0, 0, 0)) (by decide +kernel) rfl
theorem r_M_stuff_76 {G : Nat → Value} {d : Nat} {st : List Value} {M : am_M} {l0 l1 l2 : Option Value} {a : Nat} : am_run G d K_M_stuff (76, [l0, l1, l2], .ref a :: st, M) = am_kf G d K_M_stuff 79 [l0, l1, l2] st M (am_fld M a 10 11) := am_run_kf (x := (.getfield 23, 3, 10, 11, 5030, 0)) (by decide +kernel) rfl
theorem r_M_stuff_79 {G : Nat → Value} {d : Nat} {st : List Value} {M : am_M} {l0 l1 l2 : Option Value} : am_run G d K_M_stuff (79, [l0, l1, l2], st, M) = am_run G d K_M_stuff (80, [l0, l1, l2], .int 3 :: st, M) := am_run_next (x := (.iconst 3, 1, 0, 0, 0, 0)) (by decide +kernel) rfl
theorem r_M_stuff_80 {G : Nat → Value} {d : Nat} {st : List Value} {M : am_M} {l1 l2 : Option Value} {v : Value} (hv : am_isr v = true) : am_run G d K_M_stuff (80, [some v, l1, l2], st, M) = am_run G d K_M_stuff (81, [some v, l1, l2], v :: st, M) := by
  rcases am_isr_cases hv with ⟨q, rfl⟩ | rfl
  · exact am_run_next (x := (.aload_n 0, 1, 0, 0, 0, 0)) (by decide +kernel) rfl
  · exact am_run_next (x := (.aload_n 0, 1, 0, 0, 0, 0)) (by decide +kernel) rfl
theorem r_M_stuff_81 {G : Nat → Value} {d : Nat} {st : List Value} {M : am_M} {l0 l1 l2 : Option Value} {a : Nat} : am_run G d K_M_stuff (81, [l0, l1, l2], .ref a :: st, M) = am_kf G d K_M_stuff 84 [l0, l1, l2] st M (am_fld M a 10 13) := am_run_kf (x := (.getfield 132, 3, 10, 13, 5032, 0)) (by decide +kernel) rfl
theorem r_M_stuff_84 {G : Nat → Value} {d : Nat} {st : List Value} {M : am_M} {l0 l1 l2 : Option Value} {a b : Int32} : am_run G d K_M_stuff (84, [l0, l1, l2], .int b :: .int a :: st, M) = am_run G d K_M_stuff (85, [l0, l1, l2], .int (a * b) :: st, M) := am_run_next (x := (.imul, 1, 0, 0, 0, 0)) (by decide +kernel) rfl
theorem r_M_stuff_85 {G : Nat → Value} {d : Nat} {st : List Value} {M : am_M} {l0 l1 l2 : Option Value} : am_run G d K_M_stuff (85, [l0, l1, l2], st, M) = am_run G d K_M_stuff (86, [l0, l1, l2], .int 2 :: st, M) := am_run_next (x := (.iconst 2, 1, 0, 0, 0, 0)) (by decide +kernel) rfl
theorem r_M_stuff_86 {G : Nat → Value} {d : Nat} {st : List Value} {M : am_M} {l0 l1 l2 : Option Value} {a b : Int32} : am_run G d K_M_stuff (86, [l0, l1, l2], .int b :: .int a :: st, M) = am_run G d K_M_stuff (87, [l0, l1, l2], .int (a + b) :: st, M) := am_run_next (x := (.iadd, 1, 0, 0, 0, 0)) (by decide +kernel) rfl
theorem r_M_stuff_87 {G : Nat → Value} {d : Nat} {st : List Value} {M : am_M} {l0 l2 : Option Value} {v : Int32} : am_run G d K_M_stuff (87, [l0, some (.int v), l2], st, M) = am_run G d K_M_stuff (88, [l0, some (.int v), l2], .int v :: st, M) := am_run_next (x := (.iload_n 1, 1, 0, 0, 0, 0)) (by decide +kernel) rfl
theorem r_M_stuff_88 {G : Nat → Value} {d : Nat} {st : List Value} {M : am_M} {l0 l1 l2 : Option Value} : am_run G d K_M_stuff (88, [l0, l1, l2], st, M) = am_run G d K_M_stuff (90, [l0, l1, l2], .int 100 :: st, M) := am_run_next (x := (.bipush 100, 2, 0, 0, 0, 0)) (by decide +kernel) rfl
theorem r_M_stuff_90 {G : Nat → Value} {d : Nat} {st : List Value} {M : am_M} {l0 l1 l2 : Option Value} {a b : Int32} : am_run G d K_M_stuff (90, [l0, l1, l2], .int b :: .int a :: st, M) = if b = 0 then none else am_run G d K_M_stuff (91, [l0, l1, l2], .int (a - a / b * b) :: st, M) := by
  split
  · next h => exact am_run_stuck (x := (.irem, 1, 0, 0, 0, 0)) (by decide +kernel) (if_pos h)
  · next h => exact am_run_next (x := (.irem, 1, 0, 0, 0, 0)) (by decide +kernel) (if_neg h)
theorem r_M_stuff_91 {G : Nat → Value} {d : Nat} {st : List Value} {M : am_M} {l0 l1 l2 : Option Value} {a : Nat} {i x : Int32} : am_run G d K_M_stuff (91, [l0, l1, l2], .int x :: .int i :: .ref a :: st, M) = am_km G d K_M_stuff 92 [l0, l1, l2] st (am_pi M a i x) := am_run_km (x := (.iastore, 1, 0, 0, 0, 0)) (by decide +kernel) rfl
theorem r_M_stuff_92 {G : Nat → Value} {d : Nat} {st : List Value} {M : am_M} {l1 l2 : Option Value} {v : Value} (hv : am_isr v = true) : am_run G d K_M_stuff (92, [some v, l1, l2], st, M) = am_run G d K_M_stuff (93, [some v, l1, l2], v :: st, M) := by
  rcases am_isr_cases hv with ⟨q, rfl⟩ | rfl
  · exact am_run_next (x := (.aload_n 0, 1, 0, 0, 0, 0)) (by decide +kernel) rfl
  · exact am_run_next (x := (.aload_n 0, 1, 0, 0, 0, 0)) (by decide +kernel) rfl
theorem r_M_stuff_93 {G : Nat → Value} {d : Nat} {st : List Value} {M : am_M} {l0 l1 l2 : Option Value} {a : Nat} : am_run G d K_M_stuff (93, [l0, l1, l2], .ref a :: st, M) = am_kf G d K_M_stuff 96 [l0, l1, l2] st M (am_fld M a 10 12) := am_run_kf (x := (.getfield 26, 3, 10, 12, 5031, 0)) (by decide +kernel) rfl
theorem r_M_stuff_96 {G : Nat → Value} {d : Nat} {st : List Value} {M : am_M} {l1 l2 : Option Value} {v : Value} (hv : am_isr v = true) : am_run G d K_M_stuff (96, [some v, l1, l2], st, M) = am_run G d K_M_stuff (97, [some v, l1, l2], v :: st, M) := by
  rcases am_isr_cases hv with ⟨q, rfl⟩ | rfl
  · exact am_run_next (x := (.aload_n 0, 1, 0, 0, 0, 0)) (by decide +kernel) rfl
  · exact am_run_next (x := (.aload_n 0, 1, 0, 0, 0, 0)) (by decide +kernel) rfl
theorem r_M_stuff_97 {G : Nat → Value} {d : Nat} {st : List Value} {M : am_M} {l0 l1 l2 : Option Value} {a : Nat} : am_run G d K_M_stuff (97, [l0, l1, l2], .ref a :: st, M) = am_kf G d K_M_stuff 100 [l0, l1, l2] st M (am_fld M a 10 13) := am_run_kf (x := (.getfield 132, 3, 10, 13, 5032, 0)) (by decide +kernel) rfl
theorem r_M_stuff_100 {G : Nat → Value} {d : Nat} {st : List Value} {M : am_M} {l0 l1 : Option Value} {v : Int32} : am_run G d K_M_stuff (100, [l0, l1, some (.int v)], st, M) = am_run G d K_M_stuff (101, [l0, l1, some (.int v)], .int v :: st, M) := am_run_next (x := (.iload_n 2, 1, 0, 0, 0, 0)) (by decide +kernel) rfl
theorem r_M_stuff_101 {G : Nat → Value} {d : Nat} {st : List Value} {M : am_M} {l0 l1 l2 : Option Value} {a : Nat} {i x : Int32} : am_run G d K_M_stuff (101, [l0, l1, l2], .int x :: .int i :: .ref a :: st, M) = am_km G d K_M_stuff 102 [l0, l1, l2] st (am_pi M a i x) := am_run_km (x := (.iastore, 1, 0, 0, 0, 0)) (by decide +kernel) rfl
theorem r_M_stuff_102 {G : Nat → Value} {d : Nat} {st : List Value} {M : am_M} {l1 l2 : Option Value} {v : Value} (hv : am_isr v = true) : am_run G d K_M_stuff (102, [some v, l1, l2], st, M) = am_run G d K_M_stuff (103, [some v, l1, l2], v :: st, M) := by
  rcases am_isr_cases hv with ⟨q, rfl⟩ | rfl
  · exact am_run_next (x := (.aload_n 0, 1, 0, 0, 0, 0)) (by decide +kernel) rfl
  · exact am_run_next (x := (.aload_n 0, 1, 0, 0, 0, 0)) (by decide +kernel) rfl
theorem r_M_stuff_103 {G : Nat → Value} {d : Nat} {st : List Value} {M : am_M} {l0 l1 l2 : Option Value} {v : Value} (hv : v.category = 1) : am_run G d K_M_stuff (103, [l0, l1, l2], v :: st, M) = am_run G d K_M_stuff (104, [l0, l1, l2], v :: v :: st, M) := am_run_next (x := (.dup, 1, 0, 0, 0, 0)) (by decide +kernel) (if_pos hv)
theorem r_M_stuff_104 {G : Nat → Value} {d : Nat} {st : List Value} {M : am_M} {l0 l1 l2 : Option Value} {a : Nat} : am_run G d K_M_stuff (104, [l0, l1, l2], .ref a :: st, M) = am_kf G d K_M_stuff 107 [l0, l1, l2] st M (am_fld M a 10 13) := am_run_kf (x := (.getfield 132, 3, 10, 13, 5032, 0)) (by decide +kernel) rfl
theorem r_M_stuff_107 {G : Nat → Value} {d : Nat} {st : List Value} {M : am_M} {l0 l1 l2 : Option Value} : am_run G d K_M_stuff (107, [l0, l1, l2], st, M) = am_run G d K_M_stuff (108, [l0, l1, l2], .int 1 :: st, M) := am_run_next (x := (.iconst 1, 1, 0, 0, 0, 0)) (by decide +kernel) rfl
theorem r_M_stuff_108 {G : Nat → Value} {d : Nat} {st : List Value} {M : am_M} {l0 l1 l2 : Option Value} {a b : Int32} : am_run G d K_M_stuff (108, [l0, l1, l2], .int b :: .int a :: st, M) = am_run G d K_M_stuff (109, [l0, l1, l2], .int (a + b) :: st, M) := am_run_next (x := (.iadd, 1, 0, 0, 0, 0)) (by decide +kernel) rfl
theorem r_M_stuff_109 {G : Nat → Value} {d : Nat} {st : List Value} {M : am_M} {l0 l1 l2 : Option Value} {a : Nat} {v : Value} : am_run G d K_M_stuff (109, [l0, l1, l2], v :: .ref a :: st, M) = am_km G d K_M_stuff 112 [l0, l1, l2] st (am_pf M a 10 13 .int v) := am_run_km (x := (.putfield 132, 3, 10, 13, 5032, 0)) (by decide +kernel) rfl
theorem r_M_stuff_112 {G : Nat → Value} {d : Nat} {st : List Value} {M : am_M} {l1 l2 : Option Value} {v : Value} (hv : am_isr v = true) : am_run G d K_M_stuff (112, [some v, l1, l2], st, M) = am_run G d K_M_stuff (113, [some v, l1, l2], v :: st, M) := by
  rcases am_isr_cases hv with ⟨q, rfl⟩ | rfl
  · exact am_run_next (x := (.aload_n 0, 1, 0, 0, 0, 0)) (by decide +kernel) rfl
  · exact am_run_next (x := (.aload_n 0, 1, 0, 0, 0, 0)) (by decide +kernel) rfl
theorem r_M_stuff_113 {G : Nat → Value} {d : Nat} {st : List Value} {M : am_M} {l0 l1 l2 : Option Value} {a : Nat} : am_run G d K_M_stuff (113, [l0, l1, l2], .ref a :: st, M) = am_kf G d K_M_stuff 116 [l0, l1, l2] st M (am_fld M a 10 13) := am_run_kf (x := (.getfield 132, 3, 10, 13, 5032, 0)) (by decide +kernel) rfl
theorem r_M_stuff_116 {G : Nat → Value} {d : Nat} {st : List Value} {M : am_M} {l0 l1 l2 : Option Value} : am_run G d K_M_stuff (116, [l0, l1, l2], st, M) = am_run G d K_M_stuff (117, [l0, l1, l2], .int 1 :: st, M) := am_run_next (x := (.iconst 1, 1, 0, 0, 0, 0)) (by decide +kernel) rfl
theorem r_M_stuff_117 {G : Nat → Value} {d : Nat} {st : List Value} {M : am_M} {l0 l1 l2 : Option Value} {a b : Int32} : am_run G d K_M_stuff (117, [l0, l1, l2], .int b :: .int a :: st, M) = am_run G d K_M_stuff (118, [l0, l1, l2], .int (a - b) :: st, M) := am_run_next (x := (.isub, 1, 0, 0, 0, 0)) (by decide +kernel) rfl
theorem r_M_stuff_118 {G : Nat → Value} {d : Nat} {M : am_M} {l0 l1 l2 : Option Value} {a : Int32} : am_run G d K_M_stuff (118, [l0, l1, l2], [.int a], M) = some (some (.int a), M) := am_run_ret (x := (.ireturn, 1, 0, 0, 0, 0)) (by decide +kernel) rfl
theorem r_M_in_0 {G : Nat → Value} {d : Nat} {st : List Value} {M : am_M} {l1 l2 l3 l4 l5 : Option Value} {v : Int64} : am_run G d K_M_in (0, [some (.long v), l1, l2, l3, l4, l5], st, M) = am_run G d K_M_in (1, [some (.long v), l1, l2, l3, l4, l5], .long v :: st, M) := am_run_next (x := (.lload_n 0, 1, 0, 0, 0, 0)) (by decide +kernel) rfl
theorem r_M_in_1 {G : Nat → Value} {d : Nat} {st : List Value} {M : am_M} {l0 l1 l3 l4 l5 : Option Value} {v : Int64} : am_run G d K_M_in (1, [l0, l1, some (.long v), l3, l4, l5], st, M) = am_run G d K_M_in (2, [l0, l1, some (.long v), l3, l4, l5], .long v :: st, M) := am_run_next (x := (.lload_n 2, 1, 0, 0, 0, 0)) (by decide +kernel) rfl
theorem r_M_in_2 {G : Nat → Value} {d : Nat} {st : List Value} {M : am_M} {l0 l1 l2 l3 l4 l5 : Option Value} {a b : Int64} : am_run G d K_M_in (2, [l0, l1, l2, l3, l4, l5], .long b :: .long a :: st, M) = am_run G d K_M_in (3, [l0, l1, l2, l3, l4, l5], .int (lg_cmp a b) :: st, M) := am_run_next (x := (.lcmp, 1, 0, 0, 0, 0)) (by decide +kernel) rfl
theorem r_M_in_3 {G : Nat → Value} {d : Nat} {st : List Value} {M : am_M} {l0 l1 l2 l3 l4 l5 : Option Value} {a : Int32} : am_run G d K_M_in (3, [l0, l1, l2, l3, l4, l5], .int a :: st, M) = if a < 0 then am_run G d K_M_in (17, [l0, l1, l2, l3, l4, l5], st, M) else am_run G d K_M_in (6, [l0, l1, l2, l3, l4, l5], st, M) := by
  split
  · next h => exact am_run_next (x := (.ifCond .lt 14, 3, 0, 0, 0, 0)) (by decide +kernel) (am_br_t (decide_eq_true h) (by decide))
  · next h => exact am_run_next (x := (.ifCond .lt 14, 3, 0, 0, 0, 0)) (by decide +kernel) (am_br_f (decide_eq_false h) (by decide))
theorem r_M_in_6 {G : Nat → Value} {d : Nat} {st : List Value} {M : am_M} {l1 l2 l3 l4 l5 : Option Value} {v : Int64} : am_run G d K_M_in (6, [some (.long v), l1, l2, l3, l4, l5], st, M) = am_run G d K_M_in (7, [some (.long v), l1, l2, l3, l4, l5], .long v :: st, M) := am_run_next (x := (.lload_n 0, 1, 0, 0, 0, 0)) (by decide +kernel) rfl
theorem r_M_in_7 {G : Nat → Value} {d : Nat} {st : List Value} {M : am_M} {l0 l1 l2 l3 l5 : Option Value} {v : Int64} : am_run G d K_M_in (7, [l0, l1, l2, l3, some (.long v), l5], st, M) = am_run G d K_M_in (9, [l0, l1, l2, l3, some (.long v), l5], .long v :: st, M) := am_run_next (x := (.lload 4, 2, 0, 0, 0, 0)) (by decide +kernel) rfl
theorem r_M_in_9 {G : Nat → Value} {d : Nat} {st : List Value} {M : am_M} {l0 l1 l2 l3 l4 l5 : Option Value} {a b : Int64} : am_run G d K_M_in (9, [l0, l1, l2, l3, l4, l5], .long b :: .long a :: st, M) = am_run G d K_M_in (10, [l0, l1, l2, l3, l4, l5], .int (lg_cmp a b) :: st, M) := am_run_next (x := (.lcmp, 1, 0, 0, 0, 0)) (by decide +kernel) rfl
theorem r_M_in_10 {G : Nat → Value} {d : Nat} {st : List Value} {M : am_M} {l0 l1 l2 l3 l4 l5 : Option Value} {a : Int32} : am_run G d K_M_in (10, [l0, l1, l2, l3, l4, l5], .int a :: st, M) = if 0 < a then am_run G d K_M_in (17, [l0, l1, l2, l3, l4, l5], st, M) else am_run G d K_M_in (13, [l0, l1, l2, l3, l4, l5], st, M) := by
  split
  · next h => exact am_run_next (x := (.ifCond .gt 7, 3, 0, 0, 0, 0)) (by decide +kernel) (am_br_t (decide_eq_true h) (by decide))
  · next h => exact am_run_next (x := (.ifCond .gt 7, 3, 0, 0, 0, 0)) (by decide +kernel) (am_br_f (decide_eq_false h) (by decide))
theorem r_M_in_13 {G : Nat → Value} {d : Nat} {st : List Value} {M : am_M} {l0 l1 l2 l3 l4 l5 : Option Value} : am_run G d K_M_in (13, [l0, l1, l2, l3, l4, l5], st, M) = am_run G d K_M_in (14, [l0, l1, l2, l3, l4, l5], .int 1 :: st, M) := am_run_next (x := (.iconst 1, 1, 0, 0, 0, 0)) (by decide +kernel) rfl
theorem r_M_in_14 {G : Nat → Value} {d : Nat} {st : List Value} {M : am_M} {l0 l1 l2 l3 l4 l5 : Option Value} : am_run G d K_M_in (14, [l0, l1, l2, l3, l4, l5], st, M) = am_run G d K_M_in (18, [l0, l1, l2, l3, l4, l5], st, M) := am_run_next (x := (.goto 4, 3, 0, 0, 0, 0)) (by decide +kernel) rfl
theorem r_M_in_17 {G : Nat → Value} {d : Nat} {st : List Value} {M : am_M} {l0 l1 l2 l3 l4 l5 : Option Value} : am_run G d K_M_in (17, [l0, l1, l2, l3, l4, l5], st, M) = am_run G d K_M_in (18, [l0, l1, l2, l3, l4, l5], .int 0 :: st, M) := am_run_next (x := (.iconst 0, 1, 0, 0, 0, 0)) (by decide +kernel) rfl
theorem r_M_in_18 {G : Nat → Value} {d : Nat} {M : am_M} {l0 l1 l2 l3 l4 l5 : Option Value} {a : Int32} (ha : a = 0 ∨ a = 1) : am_run G d K_M_in (18, [l0, l1, l2, l3, l4, l5], [.int a], M) = some (some (.int a), M) := am_run_ret (x := (.ireturn, 1, 0, 0, 0, 0)) (by decide +kernel) (if_pos (decide_eq_true ha))
theorem r_M_hall_0 {G : Nat → Value} {d : Nat} {st : List Value} {M : am_M} {l0 l2 l3 : Option Value} {v : Int32} : am_run G d K_M_hall (0, [l0, some (.int v), l2, l3], st, M) = am_run G d K_M_hall (1, [l0, some (.int v), l2, l3], .int v :: st, M) := am_run_next (x := (.iload_n 1, 1, 0, 0, 0, 0)) (by decide +kernel) rfl
theorem r_M_hall_1 {G : Nat → Value} {d : Nat} {st : List Value} {M : am_M} {l0 l1 l2 l3 : Option Value} {a : Int32} : am_run G d K_M_hall (1, [l0, l1, l2, l3], .int a :: st, M) = am_run G d K_M_hall (2, [l0, l1, l2, l3], .long a.toInt64 :: st, M) := am_run_next (x := (.i2l, 1, 0, 0, 0, 0)) (by decide +kernel) rfl
theorem r_M_hall_2 {G : Nat → Value} {d : Nat} {st : List Value} {M : am_M} {l0 l1 l2 l3 : Option Value} : am_run G d K_M_hall (2, [l0, l1, l2, l3], st, M) = am_run G d K_M_hall (3, [l0, l1, l2, l3], .long 1 :: st, M) := am_run_next (x := (.lconst 1, 1, 0, 0, 0, 0)) (by decide +kernel) rfl
theorem r_M_hall_3 {G : Nat → Value} {d : Nat} {st : List Value} {M : am_M} {l0 l1 l2 l3 : Option Value} : am_run G d K_M_hall (3, [l0, l1, l2, l3], st, M) = am_run G d K_M_hall (6, [l0, l1, l2, l3], .long 99999 :: st, M) := am_run_next (x := (.ldc2_w 143, 3, 0, 0, 5208, 99999)) (by decide +kernel) rfl
theorem r_M_hall_6 {G : Nat → Value} {d : Nat} {st : List Value} {M : am_M} {l0 l1 l2 l3 : Option Value} {a0 : Int64} {a1 : Int64} {a2 : Int64} (h8 : am_sw st ≤ 8) : am_run G d K_M_hall (6, [l0, l1, l2, l3], .long a2 :: .long a1 :: .long a0 :: st, M) = am_k G d K_M_hall 9 [l0, l1, l2, l3] st (am_ex G d K_M_in [.long a0, .long a1, .long a2] M) := am_run_is (i := 128) (n := 3) (pl := 5200) (Bs := [.long a0, .long a1, .long a2]) (z := K_M_in) (v := 1) (by decide) (by decide) (by decide +kernel) h8 rfl (Nat.le_of_ble_eq_true rfl) rfl
theorem r_M_hall_9 {G : Nat → Value} {d : Nat} {st : List Value} {M : am_M} {l0 l1 l2 l3 : Option Value} {a : Int32} : am_run G d K_M_hall (9, [l0, l1, l2, l3], .int a :: st, M) = if a = 0 then am_run G d K_M_hall (40, [l0, l1, l2, l3], st, M) else am_run G d K_M_hall (12, [l0, l1, l2, l3], st, M) := by
  split
  · next h => exact am_run_next (x := (.ifCond .eq 31, 3, 0, 0, 0, 0)) (by decide +kernel) (am_br_t (decide_eq_true h) (by decide))
  · next h => exact am_run_next (x := (.ifCond .eq 31, 3, 0, 0, 0, 0)) (by decide +kernel) (am_br_f (decide_eq_false h) (by decide))
theorem r_M_hall_12 {G : Nat → Value} {d : Nat} {st : List Value} {M : am_M} {l0 l1 l3 : Option Value} {v : Int32} : am_run G d K_M_hall (12, [l0, l1, some (.int v), l3], st, M) = am_run G d K_M_hall (13, [l0, l1, some (.int v), l3], .int v :: st, M) := am_run_next (x := (.iload_n 2, 1, 0, 0, 0, 0)) (by decide +kernel) rfl
theorem r_M_hall_13 {G : Nat → Value} {d : Nat} {st : List Value} {M : am_M} {l0 l1 l2 l3 : Option Value} {a : Int32} : am_run G d K_M_hall (13, [l0, l1, l2, l3], .int a :: st, M) = am_run G d K_M_hall (14, [l0, l1, l2, l3], .long a.toInt64 :: st, M) := am_run_next (x := (.i2l, 1, 0, 0, 0, 0)) (by decide +kernel) rfl
theorem r_M_hall_14 {G : Nat → Value} {d : Nat} {st : List Value} {M : am_M} {l0 l1 l2 l3 : Option Value} : am_run G d K_M_hall (14, [l0, l1, l2, l3], st, M) = am_run G d K_M_hall (17, [l0, l1, l2, l3], .long 2 :: st, M) := am_run_next (x := (.ldc2_w 145, 3, 0, 0, 5209, 2)) (by decide +kernel) rfl
theorem r_M_hall_17 {G : Nat → Value} {d : Nat} {st : List Value} {M : am_M} {l0 l1 l2 l3 : Option Value} : am_run G d K_M_hall (17, [l0, l1, l2, l3], st, M) = am_run G d K_M_hall (20, [l0, l1, l2, l3], .long 20 :: st, M) := am_run_next (x := (.ldc2_w 147, 3, 0, 0, 5210, 20)) (by decide +kernel) rfl
theorem r_M_hall_20 {G : Nat → Value} {d : Nat} {st : List Value} {M : am_M} {l0 l1 l2 l3 : Option Value} {a0 : Int64} {a1 : Int64} {a2 : Int64} (h8 : am_sw st ≤ 8) : am_run G d K_M_hall (20, [l0, l1, l2, l3], .long a2 :: .long a1 :: .long a0 :: st, M) = am_k G d K_M_hall 23 [l0, l1, l2, l3] st (am_ex G d K_M_in [.long a0, .long a1, .long a2] M) := am_run_is (i := 128) (n := 3) (pl := 5200) (Bs := [.long a0, .long a1, .long a2]) (z := K_M_in) (v := 1) (by decide) (by decide) (by decide +kernel) h8 rfl (Nat.le_of_ble_eq_true rfl) rfl
theorem r_M_hall_23 {G : Nat → Value} {d : Nat} {st : List Value} {M : am_M} {l0 l1 l2 l3 : Option Value} {a : Int32} : am_run G d K_M_hall (23, [l0, l1, l2, l3], .int a :: st, M) = if a = 0 then am_run G d K_M_hall (40, [l0, l1, l2, l3], st, M) else am_run G d K_M_hall (26, [l0, l1, l2, l3], st, M) := by
  split
  · next h => exact am_run_next (x := (.ifCond .eq 17, 3, 0, 0, 0, 0)) (by decide +kernel) (am_br_t (decide_eq_true h) (by decide))
  · next h => exact am_run_next (x := (.ifCond .eq 17, 3, 0, 0, 0, 0)) (by decide +kernel) (am_br_f (decide_eq_false h) (by decide))
theorem r_M_hall_26 {G : Nat → Value} {d : Nat} {st : List Value} {M : am_M} {l0 l1 l2 : Option Value} {v : Int32} : am_run G d K_M_hall (26, [l0, l1, l2, some (.int v)], st, M) = am_run G d K_M_hall (27, [l0, l1, l2, some (.int v)], .int v :: st, M) := am_run_next (x := (.iload_n 3, 1, 0, 0, 0, 0)) (by decide +kernel) rfl
theorem r_M_hall_27 {G : Nat → Value} {d : Nat} {st : List Value} {M : am_M} {l0 l1 l2 l3 : Option Value} {a : Int32} : am_run G d K_M_hall (27, [l0, l1, l2, l3], .int a :: st, M) = am_run G d K_M_hall (28, [l0, l1, l2, l3], .long a.toInt64 :: st, M) := am_run_next (x := (.i2l, 1, 0, 0, 0, 0)) (by decide +kernel) rfl
theorem r_M_hall_28 {G : Nat → Value} {d : Nat} {st : List Value} {M : am_M} {l0 l1 l2 l3 : Option Value} : am_run G d K_M_hall (28, [l0, l1, l2, l3], st, M) = am_run G d K_M_hall (31, [l0, l1, l2, l3], .long 2 :: st, M) := am_run_next (x := (.ldc2_w 145, 3, 0, 0, 5209, 2)) (by decide +kernel) rfl
theorem r_M_hall_31 {G : Nat → Value} {d : Nat} {st : List Value} {M : am_M} {l0 l1 l2 l3 : Option Value} : am_run G d K_M_hall (31, [l0, l1, l2, l3], st, M) = am_run G d K_M_hall (34, [l0, l1, l2, l3], .long 20 :: st, M) := am_run_next (x := (.ldc2_w 147, 3, 0, 0, 5210, 20)) (by decide +kernel) rfl
theorem r_M_hall_34 {G : Nat → Value} {d : Nat} {st : List Value} {M : am_M} {l0 l1 l2 l3 : Option Value} {a0 : Int64} {a1 : Int64} {a2 : Int64} (h8 : am_sw st ≤ 8) : am_run G d K_M_hall (34, [l0, l1, l2, l3], .long a2 :: .long a1 :: .long a0 :: st, M) = am_k G d K_M_hall 37 [l0, l1, l2, l3] st (am_ex G d K_M_in [.long a0, .long a1, .long a2] M) := am_run_is (i := 128) (n := 3) (pl := 5200) (Bs := [.long a0, .long a1, .long a2]) (z := K_M_in) (v := 1) (by decide) (by decide) (by decide +kernel) h8 rfl (Nat.le_of_ble_eq_true rfl) rfl
theorem r_M_hall_37 {G : Nat → Value} {d : Nat} {st : List Value} {M : am_M} {l0 l1 l2 l3 : Option Value} {a : Int32} : am_run G d K_M_hall (37, [l0, l1, l2, l3], .int a :: st, M) = if ¬ a = 0 then am_run G d K_M_hall (43, [l0, l1, l2, l3], st, M) else am_run G d K_M_hall (40, [l0, l1, l2, l3], st, M) := by
  split
  · next h => exact am_run_next (x := (.ifCond .ne 6, 3, 0, 0, 0, 0)) (by decide +kernel) (am_br_t (decide_eq_true h) (by decide))
  · next h => exact am_run_next (x := (.ifCond .ne 6, 3, 0, 0, 0, 0)) (by decide +kernel) (am_br_f (decide_eq_false h) (by decide))
theorem r_M_hall_40 {G : Nat → Value} {d : Nat} {st : List Value} {M : am_M} {l0 l1 l2 l3 : Option Value} : am_run G d K_M_hall (40, [l0, l1, l2, l3], st, M) = am_run G d K_M_hall (42, [l0, l1, l2, l3], .int (-2) :: st, M) := am_run_next (x := (.bipush (-2), 2, 0, 0, 0, 0)) (by decide +kernel) rfl
theorem r_M_hall_42 {G : Nat → Value} {d : Nat} {M : am_M} {l0 l1 l2 l3 : Option Value} {a : Int32} : am_run G d K_M_hall (42, [l0, l1, l2, l3], [.int a], M) = some (some (.int a), M) := am_run_ret (x := (.ireturn, 1, 0, 0, 0, 0)) (by decide +kernel) rfl
theorem r_M_hall_43 {G : Nat → Value} {d : Nat} {st : List Value} {M : am_M} {l1 l2 l3 : Option Value} {v : Value} (hv : am_isr v = true) : am_run G d K_M_hall (43, [some v, l1, l2, l3], st, M) = am_run G d K_M_hall (44, [some v, l1, l2, l3], v :: st, M) := by
  rcases am_isr_cases hv with ⟨q, rfl⟩ | rfl
  · exact am_run_next (x := (.aload_n 0, 1, 0, 0, 0, 0)) (by decide +kernel) rfl
  · exact am_run_next (x := (.aload_n 0, 1, 0, 0, 0, 0)) (by decide +kernel) rfl
theorem r_M_hall_44 {G : Nat → Value} {d : Nat} {st : List Value} {M : am_M} {l0 l1 l2 l3 : Option Value} {a : Nat} : am_run G d K_M_hall (44, [l0, l1, l2, l3], .ref a :: st, M) = am_kf G d K_M_hall 47 [l0, l1, l2, l3] st M (am_fld M a 10 17) := am_run_kf (x := (.getfield 125, 3, 10, 17, 5036, 0)) (by decide +kernel) rfl
theorem r_M_hall_47 {G : Nat → Value} {d : Nat} {st : List Value} {M : am_M} {l0 l1 l2 l3 : Option Value} : am_run G d K_M_hall (47, [l0, l1, l2, l3], st, M) = am_run G d K_M_hall (49, [l0, l1, l2, l3], .int 6 :: st, M) := am_run_next (x := (.bipush 6, 2, 0, 0, 0, 0)) (by decide +kernel) rfl
theorem r_M_hall_49 {G : Nat → Value} {d : Nat} {st : List Value} {M : am_M} {l0 l1 l2 l3 : Option Value} {a b : Int32} : am_run G d K_M_hall (49, [l0, l1, l2, l3], .int b :: .int a :: st, M) = if ¬ a = b then am_run G d K_M_hall (55, [l0, l1, l2, l3], st, M) else am_run G d K_M_hall (52, [l0, l1, l2, l3], st, M) := by
  split
  · next h => exact am_run_next (x := (.if_icmp .ne 6, 3, 0, 0, 0, 0)) (by decide +kernel) (am_br_t (decide_eq_true h) (by decide))
  · next h => exact am_run_next (x := (.if_icmp .ne 6, 3, 0, 0, 0, 0)) (by decide +kernel) (am_br_f (decide_eq_false h) (by decide))
theorem r_M_hall_52 {G : Nat → Value} {d : Nat} {st : List Value} {M : am_M} {l0 l1 l2 l3 : Option Value} : am_run G d K_M_hall (52, [l0, l1, l2, l3], st, M) = am_run G d K_M_hall (54, [l0, l1, l2, l3], .int (-4) :: st, M) := am_run_next (x := (.bipush (-4), 2, 0, 0, 0, 0)) (by decide +kernel) rfl
theorem r_M_hall_54 {G : Nat → Value} {d : Nat} {M : am_M} {l0 l1 l2 l3 : Option Value} {a : Int32} : am_run G d K_M_hall (54, [l0, l1, l2, l3], [.int a], M) = some (some (.int a), M) := am_run_ret (x := (.ireturn, 1, 0, 0, 0, 0)) (by decide +kernel) rfl
theorem r_M_hall_55 {G : Nat → Value} {d : Nat} {st : List Value} {M : am_M} {l1 l2 l3 : Option Value} {v : Value} (hv : am_isr v = true) : am_run G d K_M_hall (55, [some v, l1, l2, l3], st, M) = am_run G d K_M_hall (56, [some v, l1, l2, l3], v :: st, M) := by
  rcases am_isr_cases hv with ⟨q, rfl⟩ | rfl
  · exact am_run_next (x := (.aload_n 0, 1, 0, 0, 0, 0)) (by decide +kernel) rfl
  · exact am_run_next (x := (.aload_n 0, 1, 0, 0, 0, 0)) (by decide +kernel) rfl
theorem r_M_hall_56 {G : Nat → Value} {d : Nat} {st : List Value} {M : am_M} {l0 l1 l2 l3 : Option Value} {a : Nat} : am_run G d K_M_hall (56, [l0, l1, l2, l3], .ref a :: st, M) = am_kf G d K_M_hall 59 [l0, l1, l2, l3] st M (am_fld M a 10 14) := am_run_kf (x := (.getfield 29, 3, 10, 14, 5033, 0)) (by decide +kernel) rfl
theorem r_M_hall_59 {G : Nat → Value} {d : Nat} {st : List Value} {M : am_M} {l1 l2 l3 : Option Value} {v : Value} (hv : am_isr v = true) : am_run G d K_M_hall (59, [some v, l1, l2, l3], st, M) = am_run G d K_M_hall (60, [some v, l1, l2, l3], v :: st, M) := by
  rcases am_isr_cases hv with ⟨q, rfl⟩ | rfl
  · exact am_run_next (x := (.aload_n 0, 1, 0, 0, 0, 0)) (by decide +kernel) rfl
  · exact am_run_next (x := (.aload_n 0, 1, 0, 0, 0, 0)) (by decide +kernel) rfl
theorem r_M_hall_60 {G : Nat → Value} {d : Nat} {st : List Value} {M : am_M} {l0 l1 l2 l3 : Option Value} {a : Nat} : am_run G d K_M_hall (60, [l0, l1, l2, l3], .ref a :: st, M) = am_kf G d K_M_hall 63 [l0, l1, l2, l3] st M (am_fld M a 10 17) := am_run_kf (x := (.getfield 125, 3, 10, 17, 5036, 0)) (by decide +kernel) rfl
theorem r_M_hall_63 {G : Nat → Value} {d : Nat} {st : List Value} {M : am_M} {l0 l2 l3 : Option Value} {v : Int32} : am_run G d K_M_hall (63, [l0, some (.int v), l2, l3], st, M) = am_run G d K_M_hall (64, [l0, some (.int v), l2, l3], .int v :: st, M) := am_run_next (x := (.iload_n 1, 1, 0, 0, 0, 0)) (by decide +kernel) rfl
theorem r_M_hall_64 {G : Nat → Value} {d : Nat} {st : List Value} {M : am_M} {l0 l1 l2 l3 : Option Value} {a : Nat} {i x : Int32} : am_run G d K_M_hall (64, [l0, l1, l2, l3], .int x :: .int i :: .ref a :: st, M) = am_km G d K_M_hall 65 [l0, l1, l2, l3] st (am_pi M a i x) := am_run_km (x := (.iastore, 1, 0, 0, 0, 0)) (by decide +kernel) rfl
theorem r_M_hall_65 {G : Nat → Value} {d : Nat} {st : List Value} {M : am_M} {l1 l2 l3 : Option Value} {v : Value} (hv : am_isr v = true) : am_run G d K_M_hall (65, [some v, l1, l2, l3], st, M) = am_run G d K_M_hall (66, [some v, l1, l2, l3], v :: st, M) := by
  rcases am_isr_cases hv with ⟨q, rfl⟩ | rfl
  · exact am_run_next (x := (.aload_n 0, 1, 0, 0, 0, 0)) (by decide +kernel) rfl
  · exact am_run_next (x := (.aload_n 0, 1, 0, 0, 0, 0)) (by decide +kernel) rfl
theorem r_M_hall_66 {G : Nat → Value} {d : Nat} {st : List Value} {M : am_M} {l0 l1 l2 l3 : Option Value} {a : Nat} : am_run G d K_M_hall (66, [l0, l1, l2, l3], .ref a :: st, M) = am_kf G d K_M_hall 69 [l0, l1, l2, l3] st M (am_fld M a 10 15) := am_run_kf (x := (.getfield 32, 3, 10, 15, 5034, 0)) (by decide +kernel) rfl
theorem r_M_hall_69 {G : Nat → Value} {d : Nat} {st : List Value} {M : am_M} {l1 l2 l3 : Option Value} {v : Value} (hv : am_isr v = true) : am_run G d K_M_hall (69, [some v, l1, l2, l3], st, M) = am_run G d K_M_hall (70, [some v, l1, l2, l3], v :: st, M) := by
  rcases am_isr_cases hv with ⟨q, rfl⟩ | rfl
  · exact am_run_next (x := (.aload_n 0, 1, 0, 0, 0, 0)) (by decide +kernel) rfl
  · exact am_run_next (x := (.aload_n 0, 1, 0, 0, 0, 0)) (by decide +kernel) rfl
theorem r_M_hall_70 {G : Nat → Value} {d : Nat} {st : List Value} {M : am_M} {l0 l1 l2 l3 : Option Value} {a : Nat} : am_run G d K_M_hall (70, [l0, l1, l2, l3], .ref a :: st, M) = am_kf G d K_M_hall 73 [l0, l1, l2, l3] st M (am_fld M a 10 17) := am_run_kf (x := (.getfield 125, 3, 10, 17, 5036, 0)) (by decide +kernel) rfl
theorem r_M_hall_73 {G : Nat → Value} {d : Nat} {st : List Value} {M : am_M} {l0 l1 l3 : Option Value} {v : Int32} : am_run G d K_M_hall (73, [l0, l1, some (.int v), l3], st, M) = am_run G d K_M_hall (74, [l0, l1, some (.int v), l3], .int v :: st, M) := am_run_next (x := (.iload_n 2, 1, 0, 0, 0, 0)) (by decide +kernel) rfl
theorem r_M_hall_74 {G : Nat → Value} {d : Nat} {st : List Value} {M : am_M} {l0 l1 l2 l3 : Option Value} {a : Nat} {i x : Int32} : am_run G d K_M_hall (74, [l0, l1, l2, l3], .int x :: .int i :: .ref a :: st, M) = am_km G d K_M_hall 75 [l0, l1, l2, l3] st (am_pi M a i x) := am_run_km (x := (.iastore, 1, 0, 0, 0, 0)) (by decide +kernel) rfl
theorem r_M_hall_75 {G : Nat → Value} {d : Nat} {st : List Value} {M : am_M} {l1 l2 l3 : Option Value} {v : Value} (hv : am_isr v = true) : am_run G d K_M_hall (75, [some v, l1, l2, l3], st, M) = am_run G d K_M_hall (76, [some v, l1, l2, l3], v :: st, M) := by
  rcases am_isr_cases hv with ⟨q, rfl⟩ | rfl
  · exact am_run_next (x := (.aload_n 0, 1, 0, 0, 0, 0)) (by decide +kernel) rfl
  · exact am_run_next (x := (.aload_n 0, 1, 0, 0, 0, 0)) (by decide +kernel) rfl
theorem r_M_hall_76 {G : Nat → Value} {d : Nat} {st : List Value} {M : am_M} {l0 l1 l2 l3 : Option Value} {a : Nat} : am_run G d K_M_hall (76, [l0, l1, l2, l3], .ref a :: st, M) = am_kf G d K_M_hall 79 [l0, l1, l2, l3] st M (am_fld M a 10 16) := am_run_kf (x := (.getfield 35, 3, 10, 16, 5035, 0)) (by decide +kernel) rfl
theorem r_M_hall_79 {G : Nat → Value} {d : Nat} {st : List Value} {M : am_M} {l1 l2 l3 : Option Value} {v : Value} (hv : am_isr v = true) : am_run G d K_M_hall (79, [some v, l1, l2, l3], st, M) = am_run G d K_M_hall (80, [some v, l1, l2, l3], v :: st, M) := by
  rcases am_isr_cases hv with ⟨q, rfl⟩ | rfl
  · exact am_run_next (x := (.aload_n 0, 1, 0, 0, 0, 0)) (by decide +kernel) rfl
  · exact am_run_next (x := (.aload_n 0, 1, 0, 0, 0, 0)) (by decide +kernel) rfl
theorem r_M_hall_80 {G : Nat → Value} {d : Nat} {st : List Value} {M : am_M} {l0 l1 l2 l3 : Option Value} {a : Nat} : am_run G d K_M_hall (80, [l0, l1, l2, l3], .ref a :: st, M) = am_kf G d K_M_hall 83 [l0, l1, l2, l3] st M (am_fld M a 10 17) := am_run_kf (x := (.getfield 125, 3, 10, 17, 5036, 0)) (by decide +kernel) rfl
theorem r_M_hall_83 {G : Nat → Value} {d : Nat} {st : List Value} {M : am_M} {l0 l1 l2 : Option Value} {v : Int32} : am_run G d K_M_hall (83, [l0, l1, l2, some (.int v)], st, M) = am_run G d K_M_hall (84, [l0, l1, l2, some (.int v)], .int v :: st, M) := am_run_next (x := (.iload_n 3, 1, 0, 0, 0, 0)) (by decide +kernel) rfl
theorem r_M_hall_84 {G : Nat → Value} {d : Nat} {st : List Value} {M : am_M} {l0 l1 l2 l3 : Option Value} {a : Nat} {i x : Int32} : am_run G d K_M_hall (84, [l0, l1, l2, l3], .int x :: .int i :: .ref a :: st, M) = am_km G d K_M_hall 85 [l0, l1, l2, l3] st (am_pi M a i x) := am_run_km (x := (.iastore, 1, 0, 0, 0, 0)) (by decide +kernel) rfl
theorem r_M_hall_85 {G : Nat → Value} {d : Nat} {st : List Value} {M : am_M} {l1 l2 l3 : Option Value} {v : Value} (hv : am_isr v = true) : am_run G d K_M_hall (85, [some v, l1, l2, l3], st, M) = am_run G d K_M_hall (86, [some v, l1, l2, l3], v :: st, M) := by
  rcases am_isr_cases hv with ⟨q, rfl⟩ | rfl
  · exact am_run_next (x := (.aload_n 0, 1, 0, 0, 0, 0)) (by decide +kernel) rfl
  · exact am_run_next (x := (.aload_n 0, 1, 0, 0, 0, 0)) (by decide +kernel) rfl
theorem r_M_hall_86 {G : Nat → Value} {d : Nat} {st : List Value} {M : am_M} {l0 l1 l2 l3 : Option Value} {a : Nat} : am_run G d K_M_hall (86, [l0, l1, l2, l3], .ref a :: st, M) = am_kf G d K_M_hall 89 [l0, l1, l2, l3] st M (am_fld M a 10 18) := am_run_kf (x := (.getfield 38, 3, 10, 18, 5037, 0)) (by decide +kernel) rfl
theorem r_M_hall_89 {G : Nat → Value} {d : Nat} {st : List Value} {M : am_M} {l1 l2 l3 : Option Value} {v : Value} (hv : am_isr v = true) : am_run G d K_M_hall (89, [some v, l1, l2, l3], st, M) = am_run G d K_M_hall (90, [some v, l1, l2, l3], v :: st, M) := by
  rcases am_isr_cases hv with ⟨q, rfl⟩ | rfl
  · exact am_run_next (x := (.aload_n 0, 1, 0, 0, 0, 0)) (by decide +kernel) rfl
  · exact am_run_next (x := (.aload_n 0, 1, 0, 0, 0, 0)) (by decide +kernel) rfl
theorem r_M_hall_90 {G : Nat → Value} {d : Nat} {st : List Value} {M : am_M} {l0 l1 l2 l3 : Option Value} {a : Nat} : am_run G d K_M_hall (90, [l0, l1, l2, l3], .ref a :: st, M) = am_kf G d K_M_hall 93 [l0, l1, l2, l3] st M (am_fld M a 10 17) := am_run_kf (x := (.getfield 125, 3, 10, 17, 5036, 0)) (by decide +kernel) rfl
theorem r_M_hall_93 {G : Nat → Value} {d : Nat} {st : List Value} {M : am_M} {l0 l1 l2 l3 : Option Value} : am_run G d K_M_hall (93, [l0, l1, l2, l3], st, M) = am_run G d K_M_hall (94, [l0, l1, l2, l3], .int 0 :: st, M) := am_run_next (x := (.iconst 0, 1, 0, 0, 0, 0)) (by decide +kernel) rfl
theorem r_M_hall_94 {G : Nat → Value} {d : Nat} {st : List Value} {M : am_M} {l0 l1 l2 l3 : Option Value} {a : Nat} {i x : Int32} : am_run G d K_M_hall (94, [l0, l1, l2, l3], .int x :: .int i :: .ref a :: st, M) = am_km G d K_M_hall 95 [l0, l1, l2, l3] st (am_pi M a i x) := am_run_km (x := (.iastore, 1, 0, 0, 0, 0)) (by decide +kernel) rfl
theorem r_M_hall_95 {G : Nat → Value} {d : Nat} {st : List Value} {M : am_M} {l1 l2 l3 : Option Value} {v : Value} (hv : am_isr v = true) : am_run G d K_M_hall (95, [some v, l1, l2, l3], st, M) = am_run G d K_M_hall (96, [some v, l1, l2, l3], v :: st, M) := by
  rcases am_isr_cases hv with ⟨q, rfl⟩ | rfl
  · exact am_run_next (x := (.aload_n 0, 1, 0, 0, 0, 0)) (by decide +kernel) rfl
  · exact am_run_next (x := (.aload_n 0, 1, 0, 0, 0, 0)) (by decide +kernel) rfl
theorem r_M_hall_96 {G : Nat → Value} {d : Nat} {st : List Value} {M : am_M} {l0 l1 l2 l3 : Option Value} {v : Value} (hv : v.category = 1) : am_run G d K_M_hall (96, [l0, l1, l2, l3], v :: st, M) = am_run G d K_M_hall (97, [l0, l1, l2, l3], v :: v :: st, M) := am_run_next (x := (.dup, 1, 0, 0, 0, 0)) (by decide +kernel) (if_pos hv)
theorem r_M_hall_97 {G : Nat → Value} {d : Nat} {st : List Value} {M : am_M} {l0 l1 l2 l3 : Option Value} {a : Nat} : am_run G d K_M_hall (97, [l0, l1, l2, l3], .ref a :: st, M) = am_kf G d K_M_hall 100 [l0, l1, l2, l3] st M (am_fld M a 10 17) := am_run_kf (x := (.getfield 125, 3, 10, 17, 5036, 0)) (by decide +kernel) rfl
theorem r_M_hall_100 {G : Nat → Value} {d : Nat} {st : List Value} {M : am_M} {l0 l1 l2 l3 : Option Value} : am_run G d K_M_hall (100, [l0, l1, l2, l3], st, M) = am_run G d K_M_hall (101, [l0, l1, l2, l3], .int 1 :: st, M) := am_run_next (x := (.iconst 1, 1, 0, 0, 0, 0)) (by decide +kernel) rfl
theorem r_M_hall_101 {G : Nat → Value} {d : Nat} {st : List Value} {M : am_M} {l0 l1 l2 l3 : Option Value} {a b : Int32} : am_run G d K_M_hall (101, [l0, l1, l2, l3], .int b :: .int a :: st, M) = am_run G d K_M_hall (102, [l0, l1, l2, l3], .int (a + b) :: st, M) := am_run_next (x := (.iadd, 1, 0, 0, 0, 0)) (by decide +kernel) rfl
theorem r_M_hall_102 {G : Nat → Value} {d : Nat} {st : List Value} {M : am_M} {l0 l1 l2 l3 : Option Value} {a : Nat} {v : Value} : am_run G d K_M_hall (102, [l0, l1, l2, l3], v :: .ref a :: st, M) = am_km G d K_M_hall 105 [l0, l1, l2, l3] st (am_pf M a 10 17 .int v) := am_run_km (x := (.putfield 125, 3, 10, 17, 5036, 0)) (by decide +kernel) rfl
theorem r_M_hall_105 {G : Nat → Value} {d : Nat} {st : List Value} {M : am_M} {l1 l2 l3 : Option Value} {v : Value} (hv : am_isr v = true) : am_run G d K_M_hall (105, [some v, l1, l2, l3], st, M) = am_run G d K_M_hall (106, [some v, l1, l2, l3], v :: st, M) := by
  rcases am_isr_cases hv with ⟨q, rfl⟩ | rfl
  · exact am_run_next (x := (.aload_n 0, 1, 0, 0, 0, 0)) (by decide +kernel) rfl
  · exact am_run_next (x := (.aload_n 0, 1, 0, 0, 0, 0)) (by decide +kernel) rfl
theorem r_M_hall_106 {G : Nat → Value} {d : Nat} {st : List Value} {M : am_M} {l0 l1 l2 l3 : Option Value} {a : Nat} : am_run G d K_M_hall (106, [l0, l1, l2, l3], .ref a :: st, M) = am_kf G d K_M_hall 109 [l0, l1, l2, l3] st M (am_fld M a 10 17) := am_run_kf (x := (.getfield 125, 3, 10, 17, 5036, 0)) (by decide +kernel) rfl
theorem r_M_hall_109 {G : Nat → Value} {d : Nat} {st : List Value} {M : am_M} {l0 l1 l2 l3 : Option Value} : am_run G d K_M_hall (109, [l0, l1, l2, l3], st, M) = am_run G d K_M_hall (110, [l0, l1, l2, l3], .int 1 :: st, M) := am_run_next (x := (.iconst 1, 1, 0, 0, 0, 0)) (by decide +kernel) rfl
theorem r_M_hall_110 {G : Nat → Value} {d : Nat} {st : List Value} {M : am_M} {l0 l1 l2 l3 : Option Value} {a b : Int32} : am_run G d K_M_hall (110, [l0, l1, l2, l3], .int b :: .int a :: st, M) = am_run G d K_M_hall (111, [l0, l1, l2, l3], .int (a - b) :: st, M) := am_run_next (x := (.isub, 1, 0, 0, 0, 0)) (by decide +kernel) rfl
theorem r_M_hall_111 {G : Nat → Value} {d : Nat} {M : am_M} {l0 l1 l2 l3 : Option Value} {a : Int32} : am_run G d K_M_hall (111, [l0, l1, l2, l3], [.int a], M) = some (some (.int a), M) := am_run_ret (x := (.ireturn, 1, 0, 0, 0, 0)) (by decide +kernel) rfl
theorem r_M_surface_0 {G : Nat → Value} {d : Nat} {st : List Value} {M : am_M} {l1 l2 l3 : Option Value} {v : Value} (hv : am_isr v = true) : am_run G d K_M_surface (0, [some v, l1, l2, l3], st, M) = am_run G d K_M_surface (1, [some v, l1, l2, l3], v :: st, M) := by
  rcases am_isr_cases hv with ⟨q, rfl⟩ | rfl
  · exact am_run_next (x := (.aload_n 0, 1, 0, 0, 0, 0)) (by decide +kernel) rfl
  · exact am_run_next (x := (.aload_n 0, 1, 0, 0, 0, 0)) (by decide +kernel) rfl
theorem r_M_surface_1 {G : Nat → Value} {d : Nat} {st : List Value} {M : am_M} {l0 l2 l3 : Option Value} {v : Int32} : am_run G d K_M_surface (1, [l0, some (.int v), l2, l3], st, M) = am_run G d K_M_surface (2, [l0, some (.int v), l2, l3], .int v :: st, M) := am_run_next (x := (.iload_n 1, 1, 0, 0, 0, 0)) (by decide +kernel) rfl
theorem r_M_surface_2 {G : Nat → Value} {d : Nat} {st : List Value} {M : am_M} {l0 l1 l2 l3 : Option Value} {q : Nat} {a0 : Int32} (hq : am_cls M q = some 10) (h8 : am_sw st ≤ 8) : am_run G d K_M_surface (2, [l0, l1, l2, l3], .int a0 :: .ref q :: st, M) = am_k G d K_M_surface 5 [l0, l1, l2, l3] st (am_ex G d K_M_isHall [.ref q, .int a0] M) := am_run_iv (i := 135) (n := 1) (pl := 5215) (Bs := [.int a0]) (z := K_M_isHall) (by decide +kernel) hq h8 rfl (Nat.le_of_ble_eq_true rfl) rfl
theorem r_M_surface_5 {G : Nat → Value} {d : Nat} {st : List Value} {M : am_M} {l0 l1 l2 l3 : Option Value} {a : Int32} : am_run G d K_M_surface (5, [l0, l1, l2, l3], .int a :: st, M) = if a = 0 then am_run G d K_M_surface (28, [l0, l1, l2, l3], st, M) else am_run G d K_M_surface (8, [l0, l1, l2, l3], st, M) := by
  split
  · next h => exact am_run_next (x := (.ifCond .eq 23, 3, 0, 0, 0, 0)) (by decide +kernel) (am_br_t (decide_eq_true h) (by decide))
  · next h => exact am_run_next (x := (.ifCond .eq 23, 3, 0, 0, 0, 0)) (by decide +kernel) (am_br_f (decide_eq_false h) (by decide))
theorem r_M_surface_8 {G : Nat → Value} {d : Nat} {st : List Value} {M : am_M} {l1 l2 l3 : Option Value} {v : Value} (hv : am_isr v = true) : am_run G d K_M_surface (8, [some v, l1, l2, l3], st, M) = am_run G d K_M_surface (9, [some v, l1, l2, l3], v :: st, M) := by
  rcases am_isr_cases hv with ⟨q, rfl⟩ | rfl
  · exact am_run_next (x := (.aload_n 0, 1, 0, 0, 0, 0)) (by decide +kernel) rfl
  · exact am_run_next (x := (.aload_n 0, 1, 0, 0, 0, 0)) (by decide +kernel) rfl
theorem r_M_surface_9 {G : Nat → Value} {d : Nat} {st : List Value} {M : am_M} {l0 l1 l3 : Option Value} {v : Int32} : am_run G d K_M_surface (9, [l0, l1, some (.int v), l3], st, M) = am_run G d K_M_surface (10, [l0, l1, some (.int v), l3], .int v :: st, M) := am_run_next (x := (.iload_n 2, 1, 0, 0, 0, 0)) (by decide +kernel) rfl
theorem r_M_surface_10 {G : Nat → Value} {d : Nat} {st : List Value} {M : am_M} {l0 l1 l2 l3 : Option Value} {q : Nat} {a0 : Int32} (hq : am_cls M q = some 10) (h8 : am_sw st ≤ 8) : am_run G d K_M_surface (10, [l0, l1, l2, l3], .int a0 :: .ref q :: st, M) = am_k G d K_M_surface 13 [l0, l1, l2, l3] st (am_ex G d K_M_isStuff [.ref q, .int a0] M) := am_run_iv (i := 149) (n := 1) (pl := 5219) (Bs := [.int a0]) (z := K_M_isStuff) (by decide +kernel) hq h8 rfl (Nat.le_of_ble_eq_true rfl) rfl
theorem r_M_surface_13 {G : Nat → Value} {d : Nat} {st : List Value} {M : am_M} {l0 l1 l2 l3 : Option Value} {a : Int32} : am_run G d K_M_surface (13, [l0, l1, l2, l3], .int a :: st, M) = if a = 0 then am_run G d K_M_surface (28, [l0, l1, l2, l3], st, M) else am_run G d K_M_surface (16, [l0, l1, l2, l3], st, M) := by
  split
  · next h => exact am_run_next (x := (.ifCond .eq 15, 3, 0, 0, 0, 0)) (by decide +kernel) (am_br_t (decide_eq_true h) (by decide))
  · next h => exact am_run_next (x := (.ifCond .eq 15, 3, 0, 0, 0, 0)) (by decide +kernel) (am_br_f (decide_eq_false h) (by decide))
theorem r_M_surface_16 {G : Nat → Value} {d : Nat} {st : List Value} {M : am_M} {l0 l1 l2 : Option Value} {v : Int32} : am_run G d K_M_surface (16, [l0, l1, l2, some (.int v)], st, M) = am_run G d K_M_surface (17, [l0, l1, l2, some (.int v)], .int v :: st, M) := am_run_next (x := (.iload_n 3, 1, 0, 0, 0, 0)) (by decide +kernel) rfl
theorem r_M_surface_17 {G : Nat → Value} {d : Nat} {st : List Value} {M : am_M} {l0 l1 l2 l3 : Option Value} {a : Int32} : am_run G d K_M_surface (17, [l0, l1, l2, l3], .int a :: st, M) = am_run G d K_M_surface (18, [l0, l1, l2, l3], .long a.toInt64 :: st, M) := am_run_next (x := (.i2l, 1, 0, 0, 0, 0)) (by decide +kernel) rfl
theorem r_M_surface_18 {G : Nat → Value} {d : Nat} {st : List Value} {M : am_M} {l0 l1 l2 l3 : Option Value} : am_run G d K_M_surface (18, [l0, l1, l2, l3], st, M) = am_run G d K_M_surface (19, [l0, l1, l2, l3], .long 0 :: st, M) := am_run_next (x := (.lconst 0, 1, 0, 0, 0, 0)) (by decide +kernel) rfl
theorem r_M_surface_19 {G : Nat → Value} {d : Nat} {st : List Value} {M : am_M} {l0 l1 l2 l3 : Option Value} : am_run G d K_M_surface (19, [l0, l1, l2, l3], st, M) = am_run G d K_M_surface (22, [l0, l1, l2, l3], .long 9999 :: st, M) := am_run_next (x := (.ldc2_w 152, 3, 0, 0, 5223, 9999)) (by decide +kernel) rfl
theorem r_M_surface_22 {G : Nat → Value} {d : Nat} {st : List Value} {M : am_M} {l0 l1 l2 l3 : Option Value} {a0 : Int64} {a1 : Int64} {a2 : Int64} (h8 : am_sw st ≤ 8) : am_run G d K_M_surface (22, [l0, l1, l2, l3], .long a2 :: .long a1 :: .long a0 :: st, M) = am_k G d K_M_surface 25 [l0, l1, l2, l3] st (am_ex G d K_M_in [.long a0, .long a1, .long a2] M) := am_run_is (i := 128) (n := 3) (pl := 5200) (Bs := [.long a0, .long a1, .long a2]) (z := K_M_in) (v := 1) (by decide) (by decide) (by decide +kernel) h8 rfl (Nat.le_of_ble_eq_true rfl) rfl
theorem r_M_surface_25 {G : Nat → Value} {d : Nat} {st : List Value} {M : am_M} {l0 l1 l2 l3 : Option Value} {a : Int32} : am_run G d K_M_surface (25, [l0, l1, l2, l3], .int a :: st, M) = if ¬ a = 0 then am_run G d K_M_surface (31, [l0, l1, l2, l3], st, M) else am_run G d K_M_surface (28, [l0, l1, l2, l3], st, M) := by
  split
  · next h => exact am_run_next (x := (.ifCond .ne 6, 3, 0, 0, 0, 0)) (by decide +kernel) (am_br_t (decide_eq_true h) (by decide))
  · next h => exact am_run_next (x := (.ifCond .ne 6, 3, 0, 0, 0, 0)) (by decide +kernel) (am_br_f (decide_eq_false h) (by decide))
theorem r_M_surface_28 {G : Nat → Value} {d : Nat} {st : List Value} {M : am_M} {l0 l1 l2 l3 : Option Value} : am_run G d K_M_surface (28, [l0, l1, l2, l3], st, M) = am_run G d K_M_surface (30, [l0, l1, l2, l3], .int (-2) :: st, M) := am_run_next (x := (.bipush (-2), 2, 0, 0, 0, 0)) (by decide +kernel) rfl
theorem r_M_surface_30 {G : Nat → Value} {d : Nat} {M : am_M} {l0 l1 l2 l3 : Option Value} {a : Int32} : am_run G d K_M_surface (30, [l0, l1, l2, l3], [.int a], M) = some (some (.int a), M) := am_run_ret (x := (.ireturn, 1, 0, 0, 0, 0)) (by decide +kernel) rfl
theorem r_M_surface_31 {G : Nat → Value} {d : Nat} {st : List Value} {M : am_M} {l1 l2 l3 : Option Value} {v : Value} (hv : am_isr v = true) : am_run G d K_M_surface (31, [some v, l1, l2, l3], st, M) = am_run G d K_M_surface (32, [some v, l1, l2, l3], v :: st, M) := by
  rcases am_isr_cases hv with ⟨q, rfl⟩ | rfl
  · exact am_run_next (x := (.aload_n 0, 1, 0, 0, 0, 0)) (by decide +kernel) rfl
  · exact am_run_next (x := (.aload_n 0, 1, 0, 0, 0, 0)) (by decide +kernel) rfl
theorem r_M_surface_32 {G : Nat → Value} {d : Nat} {st : List Value} {M : am_M} {l0 l1 l2 l3 : Option Value} {a : Nat} : am_run G d K_M_surface (32, [l0, l1, l2, l3], .ref a :: st, M) = am_kf G d K_M_surface 35 [l0, l1, l2, l3] st M (am_fld M a 10 18) := am_run_kf (x := (.getfield 38, 3, 10, 18, 5037, 0)) (by decide +kernel) rfl
theorem r_M_surface_35 {G : Nat → Value} {d : Nat} {st : List Value} {M : am_M} {l0 l2 l3 : Option Value} {v : Int32} : am_run G d K_M_surface (35, [l0, some (.int v), l2, l3], st, M) = am_run G d K_M_surface (36, [l0, some (.int v), l2, l3], .int v :: st, M) := am_run_next (x := (.iload_n 1, 1, 0, 0, 0, 0)) (by decide +kernel) rfl
theorem r_M_surface_36 {G : Nat → Value} {d : Nat} {st : List Value} {M : am_M} {l0 l1 l2 l3 : Option Value} {a : Nat} {i : Int32} : am_run G d K_M_surface (36, [l0, l1, l2, l3], .int i :: .ref a :: st, M) = am_kf G d K_M_surface 37 [l0, l1, l2, l3] st M (am_ag 0 M a i) := am_run_kf (x := (.iaload, 1, 0, 0, 0, 0)) (by decide +kernel) rfl
theorem r_M_surface_37 {G : Nat → Value} {d : Nat} {st : List Value} {M : am_M} {l0 l1 l2 l3 : Option Value} : am_run G d K_M_surface (37, [l0, l1, l2, l3], st, M) = am_run G d K_M_surface (39, [l0, l1, l2, l3], .int 6 :: st, M) := am_run_next (x := (.bipush 6, 2, 0, 0, 0, 0)) (by decide +kernel) rfl
theorem r_M_surface_39 {G : Nat → Value} {d : Nat} {st : List Value} {M : am_M} {l0 l1 l2 l3 : Option Value} {a b : Int32} : am_run G d K_M_surface (39, [l0, l1, l2, l3], .int b :: .int a :: st, M) = if ¬ a = b then am_run G d K_M_surface (45, [l0, l1, l2, l3], st, M) else am_run G d K_M_surface (42, [l0, l1, l2, l3], st, M) := by
  split
  · next h => exact am_run_next (x := (.if_icmp .ne 6, 3, 0, 0, 0, 0)) (by decide +kernel) (am_br_t (decide_eq_true h) (by decide))
  · next h => exact am_run_next (x := (.if_icmp .ne 6, 3, 0, 0, 0, 0)) (by decide +kernel) (am_br_f (decide_eq_false h) (by decide))
theorem r_M_surface_42 {G : Nat → Value} {d : Nat} {st : List Value} {M : am_M} {l0 l1 l2 l3 : Option Value} : am_run G d K_M_surface (42, [l0, l1, l2, l3], st, M) = am_run G d K_M_surface (44, [l0, l1, l2, l3], .int (-4) :: st, M) := am_run_next (x := (.bipush (-4), 2, 0, 0, 0, 0)) (by decide +kernel) rfl
theorem r_M_surface_44 {G : Nat → Value} {d : Nat} {M : am_M} {l0 l1 l2 l3 : Option Value} {a : Int32} : am_run G d K_M_surface (44, [l0, l1, l2, l3], [.int a], M) = some (some (.int a), M) := am_run_ret (x := (.ireturn, 1, 0, 0, 0, 0)) (by decide +kernel) rfl
theorem r_M_surface_45 {G : Nat → Value} {d : Nat} {st : List Value} {M : am_M} {l1 l2 l3 : Option Value} {v : Value} (hv : am_isr v = true) : am_run G d K_M_surface (45, [some v, l1, l2, l3], st, M) = am_run G d K_M_surface (46, [some v, l1, l2, l3], v :: st, M) := by
  rcases am_isr_cases hv with ⟨q, rfl⟩ | rfl
  · exact am_run_next (x := (.aload_n 0, 1, 0, 0, 0, 0)) (by decide +kernel) rfl
  · exact am_run_next (x := (.aload_n 0, 1, 0, 0, 0, 0)) (by decide +kernel) rfl
theorem r_M_surface_46 {G : Nat → Value} {d : Nat} {st : List Value} {M : am_M} {l0 l1 l2 l3 : Option Value} {a : Nat} : am_run G d K_M_surface (46, [l0, l1, l2, l3], .ref a :: st, M) = am_kf G d K_M_surface 49 [l0, l1, l2, l3] st M (am_fld M a 10 19) := am_run_kf (x := (.getfield 41, 3, 10, 19, 5038, 0)) (by decide +kernel) rfl
theorem r_M_surface_49 {G : Nat → Value} {d : Nat} {st : List Value} {M : am_M} {l0 l1 l2 l3 : Option Value} : am_run G d K_M_surface (49, [l0, l1, l2, l3], st, M) = am_run G d K_M_surface (51, [l0, l1, l2, l3], .int 6 :: st, M) := am_run_next (x := (.bipush 6, 2, 0, 0, 0, 0)) (by decide +kernel) rfl
theorem r_M_surface_51 {G : Nat → Value} {d : Nat} {st : List Value} {M : am_M} {l0 l2 l3 : Option Value} {v : Int32} : am_run G d K_M_surface (51, [l0, some (.int v), l2, l3], st, M) = am_run G d K_M_surface (52, [l0, some (.int v), l2, l3], .int v :: st, M) := am_run_next (x := (.iload_n 1, 1, 0, 0, 0, 0)) (by decide +kernel) rfl
theorem r_M_surface_52 {G : Nat → Value} {d : Nat} {st : List Value} {M : am_M} {l0 l1 l2 l3 : Option Value} {a b : Int32} : am_run G d K_M_surface (52, [l0, l1, l2, l3], .int b :: .int a :: st, M) = am_run G d K_M_surface (53, [l0, l1, l2, l3], .int (a * b) :: st, M) := am_run_next (x := (.imul, 1, 0, 0, 0, 0)) (by decide +kernel) rfl
theorem r_M_surface_53 {G : Nat → Value} {d : Nat} {st : List Value} {M : am_M} {l1 l2 l3 : Option Value} {v : Value} (hv : am_isr v = true) : am_run G d K_M_surface (53, [some v, l1, l2, l3], st, M) = am_run G d K_M_surface (54, [some v, l1, l2, l3], v :: st, M) := by
  rcases am_isr_cases hv with ⟨q, rfl⟩ | rfl
  · exact am_run_next (x := (.aload_n 0, 1, 0, 0, 0, 0)) (by decide +kernel) rfl
  · exact am_run_next (x := (.aload_n 0, 1, 0, 0, 0, 0)) (by decide +kernel) rfl
theorem r_M_surface_54 {G : Nat → Value} {d : Nat} {st : List Value} {M : am_M} {l0 l1 l2 l3 : Option Value} {a : Nat} : am_run G d K_M_surface (54, [l0, l1, l2, l3], .ref a :: st, M) = am_kf G d K_M_surface 57 [l0, l1, l2, l3] st M (am_fld M a 10 18) := am_run_kf (x := (.getfield 38, 3, 10, 18, 5037, 0)) (by decide +kernel) rfl
theorem r_M_surface_57 {G : Nat → Value} {d : Nat} {st : List Value} {M : am_M} {l0 l2 l3 : Option Value} {v : Int32} : am_run G d K_M_surface (57, [l0, some (.int v), l2, l3], st, M) = am_run G d K_M_surface (58, [l0, some (.int v), l2, l3], .int v :: st, M) := am_run_next (x := (.iload_n 1, 1, 0, 0, 0, 0)) (by decide +kernel) rfl
theorem r_M_surface_58 {G : Nat → Value} {d : Nat} {st : List Value} {M : am_M} {l0 l1 l2 l3 : Option Value} {a : Nat} {i : Int32} : am_run G d K_M_surface (58, [l0, l1, l2, l3], .int i :: .ref a :: st, M) = am_kf G d K_M_surface 59 [l0, l1, l2, l3] st M (am_ag 0 M a i) := am_run_kf (x := (.iaload, 1, 0, 0, 0, 0)) (by decide +kernel) rfl
theorem r_M_surface_59 {G : Nat → Value} {d : Nat} {st : List Value} {M : am_M} {l0 l1 l2 l3 : Option Value} {a b : Int32} : am_run G d K_M_surface (59, [l0, l1, l2, l3], .int b :: .int a :: st, M) = am_run G d K_M_surface (60, [l0, l1, l2, l3], .int (a + b) :: st, M) := am_run_next (x := (.iadd, 1, 0, 0, 0, 0)) (by decide +kernel) rfl
theorem r_M_surface_60 {G : Nat → Value} {d : Nat} {st : List Value} {M : am_M} {l0 l1 l3 : Option Value} {v : Int32} : am_run G d K_M_surface (60, [l0, l1, some (.int v), l3], st, M) = am_run G d K_M_surface (61, [l0, l1, some (.int v), l3], .int v :: st, M) := am_run_next (x := (.iload_n 2, 1, 0, 0, 0, 0)) (by decide +kernel) rfl
theorem r_M_surface_61 {G : Nat → Value} {d : Nat} {st : List Value} {M : am_M} {l0 l1 l2 l3 : Option Value} {a : Nat} {i x : Int32} : am_run G d K_M_surface (61, [l0, l1, l2, l3], .int x :: .int i :: .ref a :: st, M) = am_km G d K_M_surface 62 [l0, l1, l2, l3] st (am_pi M a i x) := am_run_km (x := (.iastore, 1, 0, 0, 0, 0)) (by decide +kernel) rfl
theorem r_M_surface_62 {G : Nat → Value} {d : Nat} {st : List Value} {M : am_M} {l1 l2 l3 : Option Value} {v : Value} (hv : am_isr v = true) : am_run G d K_M_surface (62, [some v, l1, l2, l3], st, M) = am_run G d K_M_surface (63, [some v, l1, l2, l3], v :: st, M) := by
  rcases am_isr_cases hv with ⟨q, rfl⟩ | rfl
  · exact am_run_next (x := (.aload_n 0, 1, 0, 0, 0, 0)) (by decide +kernel) rfl
  · exact am_run_next (x := (.aload_n 0, 1, 0, 0, 0, 0)) (by decide +kernel) rfl
theorem r_M_surface_63 {G : Nat → Value} {d : Nat} {st : List Value} {M : am_M} {l0 l1 l2 l3 : Option Value} {a : Nat} : am_run G d K_M_surface (63, [l0, l1, l2, l3], .ref a :: st, M) = am_kf G d K_M_surface 66 [l0, l1, l2, l3] st M (am_fld M a 10 20) := am_run_kf (x := (.getfield 44, 3, 10, 20, 5039, 0)) (by decide +kernel) rfl
theorem r_M_surface_66 {G : Nat → Value} {d : Nat} {st : List Value} {M : am_M} {l0 l1 l2 l3 : Option Value} : am_run G d K_M_surface (66, [l0, l1, l2, l3], st, M) = am_run G d K_M_surface (68, [l0, l1, l2, l3], .int 6 :: st, M) := am_run_next (x := (.bipush 6, 2, 0, 0, 0, 0)) (by decide +kernel) rfl
theorem r_M_surface_68 {G : Nat → Value} {d : Nat} {st : List Value} {M : am_M} {l0 l2 l3 : Option Value} {v : Int32} : am_run G d K_M_surface (68, [l0, some (.int v), l2, l3], st, M) = am_run G d K_M_surface (69, [l0, some (.int v), l2, l3], .int v :: st, M) := am_run_next (x := (.iload_n 1, 1, 0, 0, 0, 0)) (by decide +kernel) rfl
theorem r_M_surface_69 {G : Nat → Value} {d : Nat} {st : List Value} {M : am_M} {l0 l1 l2 l3 : Option Value} {a b : Int32} : am_run G d K_M_surface (69, [l0, l1, l2, l3], .int b :: .int a :: st, M) = am_run G d K_M_surface (70, [l0, l1, l2, l3], .int (a * b) :: st, M) := am_run_next (x := (.imul, 1, 0, 0, 0, 0)) (by decide +kernel) rfl
theorem r_M_surface_70 {G : Nat → Value} {d : Nat} {st : List Value} {M : am_M} {l1 l2 l3 : Option Value} {v : Value} (hv : am_isr v = true) : am_run G d K_M_surface (70, [some v, l1, l2, l3], st, M) = am_run G d K_M_surface (71, [some v, l1, l2, l3], v :: st, M) := by
  rcases am_isr_cases hv with ⟨q, rfl⟩ | rfl
  · exact am_run_next (x := (.aload_n 0, 1, 0, 0, 0, 0)) (by decide +kernel) rfl
  · exact am_run_next (x := (.aload_n 0, 1, 0, 0, 0, 0)) (by decide +kernel) rfl
theorem r_M_surface_71 {G : Nat → Value} {d : Nat} {st : List Value} {M : am_M} {l0 l1 l2 l3 : Option Value} {a : Nat} : am_run G d K_M_surface (71, [l0, l1, l2, l3], .ref a :: st, M) = am_kf G d K_M_surface 74 [l0, l1, l2, l3] st M (am_fld M a 10 18) := am_run_kf (x := (.getfield 38, 3, 10, 18, 5037, 0)) (by decide +kernel) rfl
theorem r_M_surface_74 {G : Nat → Value} {d : Nat} {st : List Value} {M : am_M} {l0 l2 l3 : Option Value} {v : Int32} : am_run G d K_M_surface (74, [l0, some (.int v), l2, l3], st, M) = am_run G d K_M_surface (75, [l0, some (.int v), l2, l3], .int v :: st, M) := am_run_next (x := (.iload_n 1, 1, 0, 0, 0, 0)) (by decide +kernel) rfl
theorem r_M_surface_75 {G : Nat → Value} {d : Nat} {st : List Value} {M : am_M} {l0 l1 l2 l3 : Option Value} {a : Nat} {i : Int32} : am_run G d K_M_surface (75, [l0, l1, l2, l3], .int i :: .ref a :: st, M) = am_kf G d K_M_surface 76 [l0, l1, l2, l3] st M (am_ag 0 M a i) := am_run_kf (x := (.iaload, 1, 0, 0, 0, 0)) (by decide +kernel) rfl
theorem r_M_surface_76 {G : Nat → Value} {d : Nat} {st : List Value} {M : am_M} {l0 l1 l2 l3 : Option Value} {a b : Int32} : am_run G d K_M_surface (76, [l0, l1, l2, l3], .int b :: .int a :: st, M) = am_run G d K_M_surface (77, [l0, l1, l2, l3], .int (a + b) :: st, M) := am_run_next (x := (.iadd, 1, 0, 0, 0, 0)) (by decide +kernel) rfl
theorem r_M_surface_77 {G : Nat → Value} {d : Nat} {st : List Value} {M : am_M} {l0 l1 l2 : Option Value} {v : Int32} : am_run G d K_M_surface (77, [l0, l1, l2, some (.int v)], st, M) = am_run G d K_M_surface (78, [l0, l1, l2, some (.int v)], .int v :: st, M) := am_run_next (x := (.iload_n 3, 1, 0, 0, 0, 0)) (by decide +kernel) rfl
theorem r_M_surface_78 {G : Nat → Value} {d : Nat} {st : List Value} {M : am_M} {l0 l1 l2 l3 : Option Value} {a : Nat} {i x : Int32} : am_run G d K_M_surface (78, [l0, l1, l2, l3], .int x :: .int i :: .ref a :: st, M) = am_km G d K_M_surface 79 [l0, l1, l2, l3] st (am_pi M a i x) := am_run_km (x := (.iastore, 1, 0, 0, 0, 0)) (by decide +kernel) rfl
theorem r_M_surface_79 {G : Nat → Value} {d : Nat} {st : List Value} {M : am_M} {l1 l2 l3 : Option Value} {v : Value} (hv : am_isr v = true) : am_run G d K_M_surface (79, [some v, l1, l2, l3], st, M) = am_run G d K_M_surface (80, [some v, l1, l2, l3], v :: st, M) := by
  rcases am_isr_cases hv with ⟨q, rfl⟩ | rfl
  · exact am_run_next (x := (.aload_n 0, 1, 0, 0, 0, 0)) (by decide +kernel) rfl
  · exact am_run_next (x := (.aload_n 0, 1, 0, 0, 0, 0)) (by decide +kernel) rfl
theorem r_M_surface_80 {G : Nat → Value} {d : Nat} {st : List Value} {M : am_M} {l0 l1 l2 l3 : Option Value} {a : Nat} : am_run G d K_M_surface (80, [l0, l1, l2, l3], .ref a :: st, M) = am_kf G d K_M_surface 83 [l0, l1, l2, l3] st M (am_fld M a 10 18) := am_run_kf (x := (.getfield 38, 3, 10, 18, 5037, 0)) (by decide +kernel) rfl
theorem r_M_surface_83 {G : Nat → Value} {d : Nat} {st : List Value} {M : am_M} {l0 l2 l3 : Option Value} {v : Int32} : am_run G d K_M_surface (83, [l0, some (.int v), l2, l3], st, M) = am_run G d K_M_surface (84, [l0, some (.int v), l2, l3], .int v :: st, M) := am_run_next (x := (.iload_n 1, 1, 0, 0, 0, 0)) (by decide +kernel) rfl
theorem r_M_surface_84 {G : Nat → Value} {d : Nat} {st : List Value} {M : am_M} {l0 l1 l2 l3 : Option Value} {v w : Value} (hv : v.category = 1) (hw : w.category = 1) : am_run G d K_M_surface (84, [l0, l1, l2, l3], v :: w :: st, M) = am_run G d K_M_surface (85, [l0, l1, l2, l3], v :: w :: v :: w :: st, M) := am_run_next (x := (.dup2, 1, 0, 0, 0, 0)) (by decide +kernel) (if_pos ⟨hv, hw⟩)
theorem r_M_surface_85 {G : Nat → Value} {d : Nat} {st : List Value} {M : am_M} {l0 l1 l2 l3 : Option Value} {a : Nat} {i : Int32} : am_run G d K_M_surface (85, [l0, l1, l2, l3], .int i :: .ref a :: st, M) = am_kf G d K_M_surface 86 [l0, l1, l2, l3] st M (am_ag 0 M a i) := am_run_kf (x := (.iaload, 1, 0, 0, 0, 0)) (by decide +kernel) rfl
theorem r_M_surface_86 {G : Nat → Value} {d : Nat} {st : List Value} {M : am_M} {l0 l1 l2 l3 : Option Value} : am_run G d K_M_surface (86, [l0, l1, l2, l3], st, M) = am_run G d K_M_surface (87, [l0, l1, l2, l3], .int 1 :: st, M) := am_run_next (x := (.iconst 1, 1, 0, 0, 0, 0)) (by decide +kernel) rfl
theorem r_M_surface_87 {G : Nat → Value} {d : Nat} {st : List Value} {M : am_M} {l0 l1 l2 l3 : Option Value} {a b : Int32} : am_run G d K_M_surface (87, [l0, l1, l2, l3], .int b :: .int a :: st, M) = am_run G d K_M_surface (88, [l0, l1, l2, l3], .int (a + b) :: st, M) := am_run_next (x := (.iadd, 1, 0, 0, 0, 0)) (by decide +kernel) rfl
theorem r_M_surface_88 {G : Nat → Value} {d : Nat} {st : List Value} {M : am_M} {l0 l1 l2 l3 : Option Value} {a : Nat} {i x : Int32} : am_run G d K_M_surface (88, [l0, l1, l2, l3], .int x :: .int i :: .ref a :: st, M) = am_km G d K_M_surface 89 [l0, l1, l2, l3] st (am_pi M a i x) := am_run_km (x := (.iastore, 1, 0, 0, 0, 0)) (by decide +kernel) rfl
theorem r_M_surface_89 {G : Nat → Value} {d : Nat} {st : List Value} {M : am_M} {l1 l2 l3 : Option Value} {v : Value} (hv : am_isr v = true) : am_run G d K_M_surface (89, [some v, l1, l2, l3], st, M) = am_run G d K_M_surface (90, [some v, l1, l2, l3], v :: st, M) := by
  rcases am_isr_cases hv with ⟨q, rfl⟩ | rfl
  · exact am_run_next (x := (.aload_n 0, 1, 0, 0, 0, 0)) (by decide +kernel) rfl
  · exact am_run_next (x := (.aload_n 0, 1, 0, 0, 0, 0)) (by decide +kernel) rfl
theorem r_M_surface_90 {G : Nat → Value} {d : Nat} {st : List Value} {M : am_M} {l0 l1 l2 l3 : Option Value} {a : Nat} : am_run G d K_M_surface (90, [l0, l1, l2, l3], .ref a :: st, M) = am_kf G d K_M_surface 93 [l0, l1, l2, l3] st M (am_fld M a 10 18) := am_run_kf (x := (.getfield 38, 3, 10, 18, 5037, 0)) (by decide +kernel) rfl
theorem r_M_surface_93 {G : Nat → Value} {d : Nat} {st : List Value} {M : am_M} {l0 l2 l3 : Option Value} {v : Int32} : am_run G d K_M_surface (93, [l0, some (.int v), l2, l3], st, M) = am_run G d K_M_surface (94, [l0, some (.int v), l2, l3], .int v :: st, M) := am_run_next (x := (.iload_n 1, 1, 0, 0, 0, 0)) (by decide +kernel) rfl
theorem r_M_surface_94 {G : Nat → Value} {d : Nat} {st : List Value} {M : am_M} {l0 l1 l2 l3 : Option Value} {a : Nat} {i : Int32} : am_run G d K_M_surface (94, [l0, l1, l2, l3], .int i :: .ref a :: st, M) = am_kf G d K_M_surface 95 [l0, l1, l2, l3] st M (am_ag 0 M a i) := am_run_kf (x := (.iaload, 1, 0, 0, 0, 0)) (by decide +kernel) rfl
theorem r_M_surface_95 {G : Nat → Value} {d : Nat} {st : List Value} {M : am_M} {l0 l1 l2 l3 : Option Value} : am_run G d K_M_surface (95, [l0, l1, l2, l3], st, M) = am_run G d K_M_surface (96, [l0, l1, l2, l3], .int 1 :: st, M) := am_run_next (x := (.iconst 1, 1, 0, 0, 0, 0)) (by decide +kernel) rfl
theorem r_M_surface_96 {G : Nat → Value} {d : Nat} {st : List Value} {M : am_M} {l0 l1 l2 l3 : Option Value} {a b : Int32} : am_run G d K_M_surface (96, [l0, l1, l2, l3], .int b :: .int a :: st, M) = am_run G d K_M_surface (97, [l0, l1, l2, l3], .int (a - b) :: st, M) := am_run_next (x := (.isub, 1, 0, 0, 0, 0)) (by decide +kernel) rfl
theorem r_M_surface_97 {G : Nat → Value} {d : Nat} {M : am_M} {l0 l1 l2 l3 : Option Value} {a : Int32} : am_run G d K_M_surface (97, [l0, l1, l2, l3], [.int a], M) = some (some (.int a), M) := am_run_ret (x := (.ireturn, 1, 0, 0, 0, 0)) (by decide +kernel) rfl
theorem r_M_isHall_0 {G : Nat → Value} {d : Nat} {st : List Value} {M : am_M} {l0 : Option Value} {v : Int32} : am_run G d K_M_isHall (0, [l0, some (.int v)], st, M) = am_run G d K_M_isHall (1, [l0, some (.int v)], .int v :: st, M) := am_run_next (x := (.iload_n 1, 1, 0, 0, 0, 0)) (by decide +kernel) rfl
theorem r_M_isHall_1 {G : Nat → Value} {d : Nat} {st : List Value} {M : am_M} {l0 l1 : Option Value} {a : Int32} : am_run G d K_M_isHall (1, [l0, l1], .int a :: st, M) = am_run G d K_M_isHall (2, [l0, l1], .long a.toInt64 :: st, M) := am_run_next (x := (.i2l, 1, 0, 0, 0, 0)) (by decide +kernel) rfl
theorem r_M_isHall_2 {G : Nat → Value} {d : Nat} {st : List Value} {M : am_M} {l0 l1 : Option Value} : am_run G d K_M_isHall (2, [l0, l1], st, M) = am_run G d K_M_isHall (3, [l0, l1], .long 0 :: st, M) := am_run_next (x := (.lconst 0, 1, 0, 0, 0, 0)) (by decide +kernel) rfl
theorem r_M_isHall_3 {G : Nat → Value} {d : Nat} {st : List Value} {M : am_M} {l1 : Option Value} {v : Value} (hv : am_isr v = true) : am_run G d K_M_isHall (3, [some v, l1], st, M) = am_run G d K_M_isHall (4, [some v, l1], v :: st, M) := by
  rcases am_isr_cases hv with ⟨q, rfl⟩ | rfl
  · exact am_run_next (x := (.aload_n 0, 1, 0, 0, 0, 0)) (by decide +kernel) rfl
  · exact am_run_next (x := (.aload_n 0, 1, 0, 0, 0, 0)) (by decide +kernel) rfl
theorem r_M_isHall_4 {G : Nat → Value} {d : Nat} {st : List Value} {M : am_M} {l0 l1 : Option Value} {a : Nat} : am_run G d K_M_isHall (4, [l0, l1], .ref a :: st, M) = am_kf G d K_M_isHall 7 [l0, l1] st M (am_fld M a 10 17) := am_run_kf (x := (.getfield 125, 3, 10, 17, 5036, 0)) (by decide +kernel) rfl
theorem r_M_isHall_7 {G : Nat → Value} {d : Nat} {st : List Value} {M : am_M} {l0 l1 : Option Value} : am_run G d K_M_isHall (7, [l0, l1], st, M) = am_run G d K_M_isHall (8, [l0, l1], .int 1 :: st, M) := am_run_next (x := (.iconst 1, 1, 0, 0, 0, 0)) (by decide +kernel) rfl
theorem r_M_isHall_8 {G : Nat → Value} {d : Nat} {st : List Value} {M : am_M} {l0 l1 : Option Value} {a b : Int32} : am_run G d K_M_isHall (8, [l0, l1], .int b :: .int a :: st, M) = am_run G d K_M_isHall (9, [l0, l1], .int (a - b) :: st, M) := am_run_next (x := (.isub, 1, 0, 0, 0, 0)) (by decide +kernel) rfl
theorem r_M_isHall_9 {G : Nat → Value} {d : Nat} {st : List Value} {M : am_M} {l0 l1 : Option Value} {a : Int32} : am_run G d K_M_isHall (9, [l0, l1], .int a :: st, M) = am_run G d K_M_isHall (10, [l0, l1], .long a.toInt64 :: st, M) := am_run_next (x := (.i2l, 1, 0, 0, 0, 0)) (by decide +kernel) rfl
theorem r_M_isHall_10 {G : Nat → Value} {d : Nat} {st : List Value} {M : am_M} {l0 l1 : Option Value} {a0 : Int64} {a1 : Int64} {a2 : Int64} (h8 : am_sw st ≤ 8) : am_run G d K_M_isHall (10, [l0, l1], .long a2 :: .long a1 :: .long a0 :: st, M) = am_k G d K_M_isHall 13 [l0, l1] st (am_ex G d K_M_in [.long a0, .long a1, .long a2] M) := am_run_is (i := 128) (n := 3) (pl := 5200) (Bs := [.long a0, .long a1, .long a2]) (z := K_M_in) (v := 1) (by decide) (by decide) (by decide +kernel) h8 rfl (Nat.le_of_ble_eq_true rfl) rfl
theorem r_M_isHall_13 {G : Nat → Value} {d : Nat} {M : am_M} {l0 l1 : Option Value} {a : Int32} (ha : a = 0 ∨ a = 1) : am_run G d K_M_isHall (13, [l0, l1], [.int a], M) = some (some (.int a), M) := am_run_ret (x := (.ireturn, 1, 0, 0, 0, 0)) (by decide +kernel) (if_pos (decide_eq_true ha))
theorem r_M_isStuff_0 {G : Nat → Value} {d : Nat} {st : List Value} {M : am_M} {l0 : Option Value} {v : Int32} : am_run G d K_M_isStuff (0, [l0, some (.int v)], st, M) = am_run G d K_M_isStuff (1, [l0, some (.int v)], .int v :: st, M) := am_run_next (x := (.iload_n 1, 1, 0, 0, 0, 0)) (by decide +kernel) rfl
theorem r_M_isStuff_1 {G : Nat → Value} {d : Nat} {st : List Value} {M : am_M} {l0 l1 : Option Value} {a : Int32} : am_run G d K_M_isStuff (1, [l0, l1], .int a :: st, M) = am_run G d K_M_isStuff (2, [l0, l1], .long a.toInt64 :: st, M) := am_run_next (x := (.i2l, 1, 0, 0, 0, 0)) (by decide +kernel) rfl
theorem r_M_isStuff_2 {G : Nat → Value} {d : Nat} {st : List Value} {M : am_M} {l0 l1 : Option Value} : am_run G d K_M_isStuff (2, [l0, l1], st, M) = am_run G d K_M_isStuff (3, [l0, l1], .long 0 :: st, M) := am_run_next (x := (.lconst 0, 1, 0, 0, 0, 0)) (by decide +kernel) rfl
theorem r_M_isStuff_3 {G : Nat → Value} {d : Nat} {st : List Value} {M : am_M} {l1 : Option Value} {v : Value} (hv : am_isr v = true) : am_run G d K_M_isStuff (3, [some v, l1], st, M) = am_run G d K_M_isStuff (4, [some v, l1], v :: st, M) := by
  rcases am_isr_cases hv with ⟨q, rfl⟩ | rfl
  · exact am_run_next (x := (.aload_n 0, 1, 0, 0, 0, 0)) (by decide +kernel) rfl
  · exact am_run_next (x := (.aload_n 0, 1, 0, 0, 0, 0)) (by decide +kernel) rfl
theorem r_M_isStuff_4 {G : Nat → Value} {d : Nat} {st : List Value} {M : am_M} {l0 l1 : Option Value} {a : Nat} : am_run G d K_M_isStuff (4, [l0, l1], .ref a :: st, M) = am_kf G d K_M_isStuff 7 [l0, l1] st M (am_fld M a 10 13) := am_run_kf (x := (.getfield 132, 3, 10, 13, 5032, 0)) (by decide +kernel) rfl
theorem r_M_isStuff_7 {G : Nat → Value} {d : Nat} {st : List Value} {M : am_M} {l0 l1 : Option Value} : am_run G d K_M_isStuff (7, [l0, l1], st, M) = am_run G d K_M_isStuff (8, [l0, l1], .int 1 :: st, M) := am_run_next (x := (.iconst 1, 1, 0, 0, 0, 0)) (by decide +kernel) rfl
theorem r_M_isStuff_8 {G : Nat → Value} {d : Nat} {st : List Value} {M : am_M} {l0 l1 : Option Value} {a b : Int32} : am_run G d K_M_isStuff (8, [l0, l1], .int b :: .int a :: st, M) = am_run G d K_M_isStuff (9, [l0, l1], .int (a - b) :: st, M) := am_run_next (x := (.isub, 1, 0, 0, 0, 0)) (by decide +kernel) rfl
theorem r_M_isStuff_9 {G : Nat → Value} {d : Nat} {st : List Value} {M : am_M} {l0 l1 : Option Value} {a : Int32} : am_run G d K_M_isStuff (9, [l0, l1], .int a :: st, M) = am_run G d K_M_isStuff (10, [l0, l1], .long a.toInt64 :: st, M) := am_run_next (x := (.i2l, 1, 0, 0, 0, 0)) (by decide +kernel) rfl
theorem r_M_isStuff_10 {G : Nat → Value} {d : Nat} {st : List Value} {M : am_M} {l0 l1 : Option Value} {a0 : Int64} {a1 : Int64} {a2 : Int64} (h8 : am_sw st ≤ 8) : am_run G d K_M_isStuff (10, [l0, l1], .long a2 :: .long a1 :: .long a0 :: st, M) = am_k G d K_M_isStuff 13 [l0, l1] st (am_ex G d K_M_in [.long a0, .long a1, .long a2] M) := am_run_is (i := 128) (n := 3) (pl := 5200) (Bs := [.long a0, .long a1, .long a2]) (z := K_M_in) (v := 1) (by decide) (by decide) (by decide +kernel) h8 rfl (Nat.le_of_ble_eq_true rfl) rfl
theorem r_M_isStuff_13 {G : Nat → Value} {d : Nat} {M : am_M} {l0 l1 : Option Value} {a : Int32} (ha : a = 0 ∨ a = 1) : am_run G d K_M_isStuff (13, [l0, l1], [.int a], M) = some (some (.int a), M) := am_run_ret (x := (.ireturn, 1, 0, 0, 0, 0)) (by decide +kernel) (if_pos (decide_eq_true ha))
theorem r_M_cover_0 {G : Nat → Value} {d : Nat} {st : List Value} {M : am_M} {l1 l2 l3 l4 : Option Value} {v : Value} (hv : am_isr v = true) : am_run G d K_M_cover (0, [some v, l1, l2, l3, l4], st, M) = am_run G d K_M_cover (1, [some v, l1, l2, l3, l4], v :: st, M) := by
  rcases am_isr_cases hv with ⟨q, rfl⟩ | rfl
  · exact am_run_next (x := (.aload_n 0, 1, 0, 0, 0, 0)) (by decide +kernel) rfl
  · exact am_run_next (x := (.aload_n 0, 1, 0, 0, 0, 0)) (by decide +kernel) rfl
theorem r_M_cover_1 {G : Nat → Value} {d : Nat} {st : List Value} {M : am_M} {l0 l2 l3 l4 : Option Value} {v : Int32} : am_run G d K_M_cover (1, [l0, some (.int v), l2, l3, l4], st, M) = am_run G d K_M_cover (2, [l0, some (.int v), l2, l3, l4], .int v :: st, M) := am_run_next (x := (.iload_n 1, 1, 0, 0, 0, 0)) (by decide +kernel) rfl
theorem r_M_cover_2 {G : Nat → Value} {d : Nat} {st : List Value} {M : am_M} {l0 l1 l2 l3 l4 : Option Value} {q : Nat} {a0 : Int32} (hq : am_cls M q = some 10) (h8 : am_sw st ≤ 8) : am_run G d K_M_cover (2, [l0, l1, l2, l3, l4], .int a0 :: .ref q :: st, M) = am_k G d K_M_cover 5 [l0, l1, l2, l3, l4] st (am_ex G d K_M_isHall [.ref q, .int a0] M) := am_run_iv (i := 135) (n := 1) (pl := 5215) (Bs := [.int a0]) (z := K_M_isHall) (by decide +kernel) hq h8 rfl (Nat.le_of_ble_eq_true rfl) rfl
theorem r_M_cover_5 {G : Nat → Value} {d : Nat} {st : List Value} {M : am_M} {l0 l1 l2 l3 l4 : Option Value} {a : Int32} : am_run G d K_M_cover (5, [l0, l1, l2, l3, l4], .int a :: st, M) = if a = 0 then am_run G d K_M_cover (34, [l0, l1, l2, l3, l4], st, M) else am_run G d K_M_cover (8, [l0, l1, l2, l3, l4], st, M) := by
  split
  · next h => exact am_run_next (x := (.ifCond .eq 29, 3, 0, 0, 0, 0)) (by decide +kernel) (am_br_t (decide_eq_true h) (by decide))
  · next h => exact am_run_next (x := (.ifCond .eq 29, 3, 0, 0, 0, 0)) (by decide +kernel) (am_br_f (decide_eq_false h) (by decide))
theorem r_M_cover_8 {G : Nat → Value} {d : Nat} {st : List Value} {M : am_M} {l0 l1 l3 l4 : Option Value} {v : Int32} : am_run G d K_M_cover (8, [l0, l1, some (.int v), l3, l4], st, M) = am_run G d K_M_cover (9, [l0, l1, some (.int v), l3, l4], .int v :: st, M) := am_run_next (x := (.iload_n 2, 1, 0, 0, 0, 0)) (by decide +kernel) rfl
theorem r_M_cover_9 {G : Nat → Value} {d : Nat} {st : List Value} {M : am_M} {l0 l1 l2 l3 l4 : Option Value} {a : Int32} : am_run G d K_M_cover (9, [l0, l1, l2, l3, l4], .int a :: st, M) = am_run G d K_M_cover (10, [l0, l1, l2, l3, l4], .long a.toInt64 :: st, M) := am_run_next (x := (.i2l, 1, 0, 0, 0, 0)) (by decide +kernel) rfl
theorem r_M_cover_10 {G : Nat → Value} {d : Nat} {st : List Value} {M : am_M} {l0 l1 l2 l3 l4 : Option Value} : am_run G d K_M_cover (10, [l0, l1, l2, l3, l4], st, M) = am_run G d K_M_cover (11, [l0, l1, l2, l3, l4], .long 0 :: st, M) := am_run_next (x := (.lconst 0, 1, 0, 0, 0, 0)) (by decide +kernel) rfl
theorem r_M_cover_11 {G : Nat → Value} {d : Nat} {st : List Value} {M : am_M} {l1 l2 l3 l4 : Option Value} {v : Value} (hv : am_isr v = true) : am_run G d K_M_cover (11, [some v, l1, l2, l3, l4], st, M) = am_run G d K_M_cover (12, [some v, l1, l2, l3, l4], v :: st, M) := by
  rcases am_isr_cases hv with ⟨q, rfl⟩ | rfl
  · exact am_run_next (x := (.aload_n 0, 1, 0, 0, 0, 0)) (by decide +kernel) rfl
  · exact am_run_next (x := (.aload_n 0, 1, 0, 0, 0, 0)) (by decide +kernel) rfl
theorem r_M_cover_12 {G : Nat → Value} {d : Nat} {st : List Value} {M : am_M} {l0 l1 l2 l3 l4 : Option Value} {a : Nat} : am_run G d K_M_cover (12, [l0, l1, l2, l3, l4], .ref a :: st, M) = am_kf G d K_M_cover 15 [l0, l1, l2, l3, l4] st M (am_fld M a 10 18) := am_run_kf (x := (.getfield 38, 3, 10, 18, 5037, 0)) (by decide +kernel) rfl
theorem r_M_cover_15 {G : Nat → Value} {d : Nat} {st : List Value} {M : am_M} {l0 l2 l3 l4 : Option Value} {v : Int32} : am_run G d K_M_cover (15, [l0, some (.int v), l2, l3, l4], st, M) = am_run G d K_M_cover (16, [l0, some (.int v), l2, l3, l4], .int v :: st, M) := am_run_next (x := (.iload_n 1, 1, 0, 0, 0, 0)) (by decide +kernel) rfl
theorem r_M_cover_16 {G : Nat → Value} {d : Nat} {st : List Value} {M : am_M} {l0 l1 l2 l3 l4 : Option Value} {a : Nat} {i : Int32} : am_run G d K_M_cover (16, [l0, l1, l2, l3, l4], .int i :: .ref a :: st, M) = am_kf G d K_M_cover 17 [l0, l1, l2, l3, l4] st M (am_ag 0 M a i) := am_run_kf (x := (.iaload, 1, 0, 0, 0, 0)) (by decide +kernel) rfl
theorem r_M_cover_17 {G : Nat → Value} {d : Nat} {st : List Value} {M : am_M} {l0 l1 l2 l3 l4 : Option Value} : am_run G d K_M_cover (17, [l0, l1, l2, l3, l4], st, M) = am_run G d K_M_cover (18, [l0, l1, l2, l3, l4], .int 1 :: st, M) := am_run_next (x := (.iconst 1, 1, 0, 0, 0, 0)) (by decide +kernel) rfl
theorem r_M_cover_18 {G : Nat → Value} {d : Nat} {st : List Value} {M : am_M} {l0 l1 l2 l3 l4 : Option Value} {a b : Int32} : am_run G d K_M_cover (18, [l0, l1, l2, l3, l4], .int b :: .int a :: st, M) = am_run G d K_M_cover (19, [l0, l1, l2, l3, l4], .int (a - b) :: st, M) := am_run_next (x := (.isub, 1, 0, 0, 0, 0)) (by decide +kernel) rfl
theorem r_M_cover_19 {G : Nat → Value} {d : Nat} {st : List Value} {M : am_M} {l0 l1 l2 l3 l4 : Option Value} {a : Int32} : am_run G d K_M_cover (19, [l0, l1, l2, l3, l4], .int a :: st, M) = am_run G d K_M_cover (20, [l0, l1, l2, l3, l4], .long a.toInt64 :: st, M) := am_run_next (x := (.i2l, 1, 0, 0, 0, 0)) (by decide +kernel) rfl
theorem r_M_cover_20 {G : Nat → Value} {d : Nat} {st : List Value} {M : am_M} {l0 l1 l2 l3 l4 : Option Value} {a0 : Int64} {a1 : Int64} {a2 : Int64} (h8 : am_sw st ≤ 8) : am_run G d K_M_cover (20, [l0, l1, l2, l3, l4], .long a2 :: .long a1 :: .long a0 :: st, M) = am_k G d K_M_cover 23 [l0, l1, l2, l3, l4] st (am_ex G d K_M_in [.long a0, .long a1, .long a2] M) := am_run_is (i := 128) (n := 3) (pl := 5200) (Bs := [.long a0, .long a1, .long a2]) (z := K_M_in) (v := 1) (by decide) (by decide) (by decide +kernel) h8 rfl (Nat.le_of_ble_eq_true rfl) rfl
theorem r_M_cover_23 {G : Nat → Value} {d : Nat} {st : List Value} {M : am_M} {l0 l1 l2 l3 l4 : Option Value} {a : Int32} : am_run G d K_M_cover (23, [l0, l1, l2, l3, l4], .int a :: st, M) = if a = 0 then am_run G d K_M_cover (34, [l0, l1, l2, l3, l4], st, M) else am_run G d K_M_cover (26, [l0, l1, l2, l3, l4], st, M) := by
  split
  · next h => exact am_run_next (x := (.ifCond .eq 11, 3, 0, 0, 0, 0)) (by decide +kernel) (am_br_t (decide_eq_true h) (by decide))
  · next h => exact am_run_next (x := (.ifCond .eq 11, 3, 0, 0, 0, 0)) (by decide +kernel) (am_br_f (decide_eq_false h) (by decide))
theorem r_M_cover_26 {G : Nat → Value} {d : Nat} {st : List Value} {M : am_M} {l1 l2 l3 l4 : Option Value} {v : Value} (hv : am_isr v = true) : am_run G d K_M_cover (26, [some v, l1, l2, l3, l4], st, M) = am_run G d K_M_cover (27, [some v, l1, l2, l3, l4], v :: st, M) := by
  rcases am_isr_cases hv with ⟨q, rfl⟩ | rfl
  · exact am_run_next (x := (.aload_n 0, 1, 0, 0, 0, 0)) (by decide +kernel) rfl
  · exact am_run_next (x := (.aload_n 0, 1, 0, 0, 0, 0)) (by decide +kernel) rfl
theorem r_M_cover_27 {G : Nat → Value} {d : Nat} {st : List Value} {M : am_M} {l0 l1 l2 l4 : Option Value} {v : Int32} : am_run G d K_M_cover (27, [l0, l1, l2, some (.int v), l4], st, M) = am_run G d K_M_cover (28, [l0, l1, l2, some (.int v), l4], .int v :: st, M) := am_run_next (x := (.iload_n 3, 1, 0, 0, 0, 0)) (by decide +kernel) rfl
theorem r_M_cover_28 {G : Nat → Value} {d : Nat} {st : List Value} {M : am_M} {l0 l1 l2 l3 l4 : Option Value} {q : Nat} {a0 : Int32} (hq : am_cls M q = some 10) (h8 : am_sw st ≤ 8) : am_run G d K_M_cover (28, [l0, l1, l2, l3, l4], .int a0 :: .ref q :: st, M) = am_k G d K_M_cover 31 [l0, l1, l2, l3, l4] st (am_ex G d K_M_isStuff [.ref q, .int a0] M) := am_run_iv (i := 149) (n := 1) (pl := 5219) (Bs := [.int a0]) (z := K_M_isStuff) (by decide +kernel) hq h8 rfl (Nat.le_of_ble_eq_true rfl) rfl
theorem r_M_cover_31 {G : Nat → Value} {d : Nat} {st : List Value} {M : am_M} {l0 l1 l2 l3 l4 : Option Value} {a : Int32} : am_run G d K_M_cover (31, [l0, l1, l2, l3, l4], .int a :: st, M) = if ¬ a = 0 then am_run G d K_M_cover (37, [l0, l1, l2, l3, l4], st, M) else am_run G d K_M_cover (34, [l0, l1, l2, l3, l4], st, M) := by
  split
  · next h => exact am_run_next (x := (.ifCond .ne 6, 3, 0, 0, 0, 0)) (by decide +kernel) (am_br_t (decide_eq_true h) (by decide))
  · next h => exact am_run_next (x := (.ifCond .ne 6, 3, 0, 0, 0, 0)) (by decide +kernel) (am_br_f (decide_eq_false h) (by decide))
theorem r_M_cover_34 {G : Nat → Value} {d : Nat} {st : List Value} {M : am_M} {l0 l1 l2 l3 l4 : Option Value} : am_run G d K_M_cover (34, [l0, l1, l2, l3, l4], st, M) = am_run G d K_M_cover (36, [l0, l1, l2, l3, l4], .int (-2) :: st, M) := am_run_next (x := (.bipush (-2), 2, 0, 0, 0, 0)) (by decide +kernel) rfl
theorem r_M_cover_36 {G : Nat → Value} {d : Nat} {M : am_M} {l0 l1 l2 l3 l4 : Option Value} {a : Int32} : am_run G d K_M_cover (36, [l0, l1, l2, l3, l4], [.int a], M) = some (some (.int a), M) := am_run_ret (x := (.ireturn, 1, 0, 0, 0, 0)) (by decide +kernel) rfl
theorem r_M_cover_37 {G : Nat → Value} {d : Nat} {st : List Value} {M : am_M} {l1 l2 l3 l4 : Option Value} {v : Value} (hv : am_isr v = true) : am_run G d K_M_cover (37, [some v, l1, l2, l3, l4], st, M) = am_run G d K_M_cover (38, [some v, l1, l2, l3, l4], v :: st, M) := by
  rcases am_isr_cases hv with ⟨q, rfl⟩ | rfl
  · exact am_run_next (x := (.aload_n 0, 1, 0, 0, 0, 0)) (by decide +kernel) rfl
  · exact am_run_next (x := (.aload_n 0, 1, 0, 0, 0, 0)) (by decide +kernel) rfl
theorem r_M_cover_38 {G : Nat → Value} {d : Nat} {st : List Value} {M : am_M} {l0 l1 l2 l3 l4 : Option Value} {a : Nat} : am_run G d K_M_cover (38, [l0, l1, l2, l3, l4], .ref a :: st, M) = am_kf G d K_M_cover 41 [l0, l1, l2, l3, l4] st M (am_fld M a 10 19) := am_run_kf (x := (.getfield 41, 3, 10, 19, 5038, 0)) (by decide +kernel) rfl
theorem r_M_cover_41 {G : Nat → Value} {d : Nat} {st : List Value} {M : am_M} {l0 l1 l2 l3 l4 : Option Value} : am_run G d K_M_cover (41, [l0, l1, l2, l3, l4], st, M) = am_run G d K_M_cover (43, [l0, l1, l2, l3, l4], .int 6 :: st, M) := am_run_next (x := (.bipush 6, 2, 0, 0, 0, 0)) (by decide +kernel) rfl
theorem r_M_cover_43 {G : Nat → Value} {d : Nat} {st : List Value} {M : am_M} {l0 l2 l3 l4 : Option Value} {v : Int32} : am_run G d K_M_cover (43, [l0, some (.int v), l2, l3, l4], st, M) = am_run G d K_M_cover (44, [l0, some (.int v), l2, l3, l4], .int v :: st, M) := am_run_next (x := (.iload_n 1, 1, 0, 0, 0, 0)) (by decide +kernel) rfl
theorem r_M_cover_44 {G : Nat → Value} {d : Nat} {st : List Value} {M : am_M} {l0 l1 l2 l3 l4 : Option Value} {a b : Int32} : am_run G d K_M_cover (44, [l0, l1, l2, l3, l4], .int b :: .int a :: st, M) = am_run G d K_M_cover (45, [l0, l1, l2, l3, l4], .int (a * b) :: st, M) := am_run_next (x := (.imul, 1, 0, 0, 0, 0)) (by decide +kernel) rfl
theorem r_M_cover_45 {G : Nat → Value} {d : Nat} {st : List Value} {M : am_M} {l0 l1 l3 l4 : Option Value} {v : Int32} : am_run G d K_M_cover (45, [l0, l1, some (.int v), l3, l4], st, M) = am_run G d K_M_cover (46, [l0, l1, some (.int v), l3, l4], .int v :: st, M) := am_run_next (x := (.iload_n 2, 1, 0, 0, 0, 0)) (by decide +kernel) rfl
theorem r_M_cover_46 {G : Nat → Value} {d : Nat} {st : List Value} {M : am_M} {l0 l1 l2 l3 l4 : Option Value} {a b : Int32} : am_run G d K_M_cover (46, [l0, l1, l2, l3, l4], .int b :: .int a :: st, M) = am_run G d K_M_cover (47, [l0, l1, l2, l3, l4], .int (a + b) :: st, M) := am_run_next (x := (.iadd, 1, 0, 0, 0, 0)) (by decide +kernel) rfl
theorem r_M_cover_47 {G : Nat → Value} {d : Nat} {st : List Value} {M : am_M} {l0 l1 l2 l3 l4 : Option Value} {a : Nat} {i : Int32} : am_run G d K_M_cover (47, [l0, l1, l2, l3, l4], .int i :: .ref a :: st, M) = am_kf G d K_M_cover 48 [l0, l1, l2, l3, l4] st M (am_ag 0 M a i) := am_run_kf (x := (.iaload, 1, 0, 0, 0, 0)) (by decide +kernel) rfl
theorem r_M_cover_48 {G : Nat → Value} {d : Nat} {st : List Value} {M : am_M} {l0 l1 l2 l3 l4 : Option Value} {v : Int32} (hc : am_c1 l3 = true) : am_run G d K_M_cover (48, [l0, l1, l2, l3, l4], .int v :: st, M) = am_run G d K_M_cover (50, [l0, l1, l2, l3, some (.int v)], st, M) := by
  rcases am_c1_cases hc with rfl | ⟨q, rfl⟩ | ⟨q, rfl⟩ | rfl
  · exact am_run_next (x := (.istore 4, 2, 0, 0, 0, 0)) (by decide +kernel) rfl
  · exact am_run_next (x := (.istore 4, 2, 0, 0, 0, 0)) (by decide +kernel) rfl
  · exact am_run_next (x := (.istore 4, 2, 0, 0, 0, 0)) (by decide +kernel) rfl
  · exact am_run_next (x := (.istore 4, 2, 0, 0, 0, 0)) (by decide +kernel) rfl
theorem r_M_cover_48_k {G : Nat → Value} {d : Nat} {st : List Value} {M : am_M} {l0 l1 l2 l4 : Option Value} {v : Int32} {z : Int64} : am_run G d K_M_cover (48, [l0, l1, l2, some (.long z), l4], .int v :: st, M) = am_run G d K_M_cover (50, [l0, l1, l2, none, some (.int v)], st, M) := am_run_next (x := (.istore 4, 2, 0, 0, 0, 0)) (by decide +kernel) rfl
theorem r_M_cover_50 {G : Nat → Value} {d : Nat} {st : List Value} {M : am_M} {l1 l2 l3 l4 : Option Value} {v : Value} (hv : am_isr v = true) : am_run G d K_M_cover (50, [some v, l1, l2, l3, l4], st, M) = am_run G d K_M_cover (51, [some v, l1, l2, l3, l4], v :: st, M) := by
  rcases am_isr_cases hv with ⟨q, rfl⟩ | rfl
  · exact am_run_next (x := (.aload_n 0, 1, 0, 0, 0, 0)) (by decide +kernel) rfl
  · exact am_run_next (x := (.aload_n 0, 1, 0, 0, 0, 0)) (by decide +kernel) rfl
theorem r_M_cover_51 {G : Nat → Value} {d : Nat} {st : List Value} {M : am_M} {l0 l1 l2 l3 l4 : Option Value} {a : Nat} : am_run G d K_M_cover (51, [l0, l1, l2, l3, l4], .ref a :: st, M) = am_kf G d K_M_cover 54 [l0, l1, l2, l3, l4] st M (am_fld M a 10 19) := am_run_kf (x := (.getfield 41, 3, 10, 19, 5038, 0)) (by decide +kernel) rfl
theorem r_M_cover_54 {G : Nat → Value} {d : Nat} {st : List Value} {M : am_M} {l0 l1 l2 l3 l4 : Option Value} : am_run G d K_M_cover (54, [l0, l1, l2, l3, l4], st, M) = am_run G d K_M_cover (56, [l0, l1, l2, l3, l4], .int 6 :: st, M) := am_run_next (x := (.bipush 6, 2, 0, 0, 0, 0)) (by decide +kernel) rfl
theorem r_M_cover_56 {G : Nat → Value} {d : Nat} {st : List Value} {M : am_M} {l0 l2 l3 l4 : Option Value} {v : Int32} : am_run G d K_M_cover (56, [l0, some (.int v), l2, l3, l4], st, M) = am_run G d K_M_cover (57, [l0, some (.int v), l2, l3, l4], .int v :: st, M) := am_run_next (x := (.iload_n 1, 1, 0, 0, 0, 0)) (by decide +kernel) rfl
theorem r_M_cover_57 {G : Nat → Value} {d : Nat} {st : List Value} {M : am_M} {l0 l1 l2 l3 l4 : Option Value} {a b : Int32} : am_run G d K_M_cover (57, [l0, l1, l2, l3, l4], .int b :: .int a :: st, M) = am_run G d K_M_cover (58, [l0, l1, l2, l3, l4], .int (a * b) :: st, M) := am_run_next (x := (.imul, 1, 0, 0, 0, 0)) (by decide +kernel) rfl
theorem r_M_cover_58 {G : Nat → Value} {d : Nat} {st : List Value} {M : am_M} {l0 l1 l3 l4 : Option Value} {v : Int32} : am_run G d K_M_cover (58, [l0, l1, some (.int v), l3, l4], st, M) = am_run G d K_M_cover (59, [l0, l1, some (.int v), l3, l4], .int v :: st, M) := am_run_next (x := (.iload_n 2, 1, 0, 0, 0, 0)) (by decide +kernel) rfl
theorem r_M_cover_59 {G : Nat → Value} {d : Nat} {st : List Value} {M : am_M} {l0 l1 l2 l3 l4 : Option Value} {a b : Int32} : am_run G d K_M_cover (59, [l0, l1, l2, l3, l4], .int b :: .int a :: st, M) = am_run G d K_M_cover (60, [l0, l1, l2, l3, l4], .int (a + b) :: st, M) := am_run_next (x := (.iadd, 1, 0, 0, 0, 0)) (by decide +kernel) rfl
theorem r_M_cover_60 {G : Nat → Value} {d : Nat} {st : List Value} {M : am_M} {l0 l1 l2 l4 : Option Value} {v : Int32} : am_run G d K_M_cover (60, [l0, l1, l2, some (.int v), l4], st, M) = am_run G d K_M_cover (61, [l0, l1, l2, some (.int v), l4], .int v :: st, M) := am_run_next (x := (.iload_n 3, 1, 0, 0, 0, 0)) (by decide +kernel) rfl
theorem r_M_cover_61 {G : Nat → Value} {d : Nat} {st : List Value} {M : am_M} {l0 l1 l2 l3 l4 : Option Value} {a : Nat} {i x : Int32} : am_run G d K_M_cover (61, [l0, l1, l2, l3, l4], .int x :: .int i :: .ref a :: st, M) = am_km G d K_M_cover 62 [l0, l1, l2, l3, l4] st (am_pi M a i x) := am_run_km (x := (.iastore, 1, 0, 0, 0, 0)) (by decide +kernel) rfl
theorem r_M_cover_62 {G : Nat → Value} {d : Nat} {st : List Value} {M : am_M} {l0 l1 l2 l3 : Option Value} {v : Int32} : am_run G d K_M_cover (62, [l0, l1, l2, l3, some (.int v)], st, M) = am_run G d K_M_cover (64, [l0, l1, l2, l3, some (.int v)], .int v :: st, M) := am_run_next (x := (.iload 4, 2, 0, 0, 0, 0)) (by decide +kernel) rfl
theorem r_M_cover_64 {G : Nat → Value} {d : Nat} {M : am_M} {l0 l1 l2 l3 l4 : Option Value} {a : Int32} : am_run G d K_M_cover (64, [l0, l1, l2, l3, l4], [.int a], M) = some (some (.int a), M) := am_run_ret (x := (.ireturn, 1, 0, 0, 0, 0)) (by decide +kernel) rfl
theorem r_M_set_0 {G : Nat → Value} {d : Nat} {st : List Value} {M : am_M} {l0 l2 l3 : Option Value} {v : Int32} : am_run G d K_M_set (0, [l0, some (.int v), l2, l3], st, M) = am_run G d K_M_set (1, [l0, some (.int v), l2, l3], .int v :: st, M) := am_run_next (x := (.iload_n 1, 1, 0, 0, 0, 0)) (by decide +kernel) rfl
theorem r_M_set_1 {G : Nat → Value} {d : Nat} {st : List Value} {M : am_M} {l0 l1 l2 l3 : Option Value} {a : Int32} : am_run G d K_M_set (1, [l0, l1, l2, l3], .int a :: st, M) = am_run G d K_M_set (2, [l0, l1, l2, l3], .long a.toInt64 :: st, M) := am_run_next (x := (.i2l, 1, 0, 0, 0, 0)) (by decide +kernel) rfl
theorem r_M_set_2 {G : Nat → Value} {d : Nat} {st : List Value} {M : am_M} {l0 l1 l2 l3 : Option Value} : am_run G d K_M_set (2, [l0, l1, l2, l3], st, M) = am_run G d K_M_set (3, [l0, l1, l2, l3], .long 0 :: st, M) := am_run_next (x := (.lconst 0, 1, 0, 0, 0, 0)) (by decide +kernel) rfl
theorem r_M_set_3 {G : Nat → Value} {d : Nat} {st : List Value} {M : am_M} {l0 l1 l2 l3 : Option Value} : am_run G d K_M_set (3, [l0, l1, l2, l3], st, M) = am_run G d K_M_set (6, [l0, l1, l2, l3], .long 3 :: st, M) := am_run_next (x := (.ldc2_w 154, 3, 0, 0, 5232, 3)) (by decide +kernel) rfl
theorem r_M_set_6 {G : Nat → Value} {d : Nat} {st : List Value} {M : am_M} {l0 l1 l2 l3 : Option Value} {a0 : Int64} {a1 : Int64} {a2 : Int64} (h8 : am_sw st ≤ 8) : am_run G d K_M_set (6, [l0, l1, l2, l3], .long a2 :: .long a1 :: .long a0 :: st, M) = am_k G d K_M_set 9 [l0, l1, l2, l3] st (am_ex G d K_M_in [.long a0, .long a1, .long a2] M) := am_run_is (i := 128) (n := 3) (pl := 5200) (Bs := [.long a0, .long a1, .long a2]) (z := K_M_in) (v := 1) (by decide) (by decide) (by decide +kernel) h8 rfl (Nat.le_of_ble_eq_true rfl) rfl
theorem r_M_set_9 {G : Nat → Value} {d : Nat} {st : List Value} {M : am_M} {l0 l1 l2 l3 : Option Value} {a : Int32} : am_run G d K_M_set (9, [l0, l1, l2, l3], .int a :: st, M) = if a = 0 then am_run G d K_M_set (32, [l0, l1, l2, l3], st, M) else am_run G d K_M_set (12, [l0, l1, l2, l3], st, M) := by
  split
  · next h => exact am_run_next (x := (.ifCond .eq 23, 3, 0, 0, 0, 0)) (by decide +kernel) (am_br_t (decide_eq_true h) (by decide))
  · next h => exact am_run_next (x := (.ifCond .eq 23, 3, 0, 0, 0, 0)) (by decide +kernel) (am_br_f (decide_eq_false h) (by decide))
theorem r_M_set_12 {G : Nat → Value} {d : Nat} {st : List Value} {M : am_M} {l0 l1 l3 : Option Value} {v : Int32} : am_run G d K_M_set (12, [l0, l1, some (.int v), l3], st, M) = am_run G d K_M_set (13, [l0, l1, some (.int v), l3], .int v :: st, M) := am_run_next (x := (.iload_n 2, 1, 0, 0, 0, 0)) (by decide +kernel) rfl
theorem r_M_set_13 {G : Nat → Value} {d : Nat} {st : List Value} {M : am_M} {l0 l1 l2 l3 : Option Value} {a : Int32} : am_run G d K_M_set (13, [l0, l1, l2, l3], .int a :: st, M) = am_run G d K_M_set (14, [l0, l1, l2, l3], .long a.toInt64 :: st, M) := am_run_next (x := (.i2l, 1, 0, 0, 0, 0)) (by decide +kernel) rfl
theorem r_M_set_14 {G : Nat → Value} {d : Nat} {st : List Value} {M : am_M} {l0 l2 l3 : Option Value} {v : Int32} : am_run G d K_M_set (14, [l0, some (.int v), l2, l3], st, M) = am_run G d K_M_set (15, [l0, some (.int v), l2, l3], .int v :: st, M) := am_run_next (x := (.iload_n 1, 1, 0, 0, 0, 0)) (by decide +kernel) rfl
theorem r_M_set_15 {G : Nat → Value} {d : Nat} {st : List Value} {M : am_M} {l0 l1 l2 l3 : Option Value} {a : Int32} : am_run G d K_M_set (15, [l0, l1, l2, l3], .int a :: st, M) = if ¬ a = 0 then am_run G d K_M_set (22, [l0, l1, l2, l3], st, M) else am_run G d K_M_set (18, [l0, l1, l2, l3], st, M) := by
  split
  · next h => exact am_run_next (x := (.ifCond .ne 7, 3, 0, 0, 0, 0)) (by decide +kernel) (am_br_t (decide_eq_true h) (by decide))
  · next h => exact am_run_next (x := (.ifCond .ne 7, 3, 0, 0, 0, 0)) (by decide +kernel) (am_br_f (decide_eq_false h) (by decide))
theorem r_M_set_18 {G : Nat → Value} {d : Nat} {st : List Value} {M : am_M} {l0 l1 l2 l3 : Option Value} : am_run G d K_M_set (18, [l0, l1, l2, l3], st, M) = am_run G d K_M_set (19, [l0, l1, l2, l3], .long 1 :: st, M) := am_run_next (x := (.lconst 1, 1, 0, 0, 0, 0)) (by decide +kernel) rfl
theorem r_M_set_19 {G : Nat → Value} {d : Nat} {st : List Value} {M : am_M} {l0 l1 l2 l3 : Option Value} : am_run G d K_M_set (19, [l0, l1, l2, l3], st, M) = am_run G d K_M_set (23, [l0, l1, l2, l3], st, M) := am_run_next (x := (.goto 4, 3, 0, 0, 0, 0)) (by decide +kernel) rfl
theorem r_M_set_22 {G : Nat → Value} {d : Nat} {st : List Value} {M : am_M} {l0 l1 l2 l3 : Option Value} : am_run G d K_M_set (22, [l0, l1, l2, l3], st, M) = am_run G d K_M_set (23, [l0, l1, l2, l3], .long 0 :: st, M) := am_run_next (x := (.lconst 0, 1, 0, 0, 0, 0)) (by decide +kernel) rfl
theorem r_M_set_23 {G : Nat → Value} {d : Nat} {st : List Value} {M : am_M} {l0 l1 l2 l3 : Option Value} : am_run G d K_M_set (23, [l0, l1, l2, l3], st, M) = am_run G d K_M_set (26, [l0, l1, l2, l3], .long 999 :: st, M) := am_run_next (x := (.ldc2_w 156, 3, 0, 0, 5233, 999)) (by decide +kernel) rfl
theorem r_M_set_26 {G : Nat → Value} {d : Nat} {st : List Value} {M : am_M} {l0 l1 l2 l3 : Option Value} {a0 : Int64} {a1 : Int64} {a2 : Int64} (h8 : am_sw st ≤ 8) : am_run G d K_M_set (26, [l0, l1, l2, l3], .long a2 :: .long a1 :: .long a0 :: st, M) = am_k G d K_M_set 29 [l0, l1, l2, l3] st (am_ex G d K_M_in [.long a0, .long a1, .long a2] M) := am_run_is (i := 128) (n := 3) (pl := 5200) (Bs := [.long a0, .long a1, .long a2]) (z := K_M_in) (v := 1) (by decide) (by decide) (by decide +kernel) h8 rfl (Nat.le_of_ble_eq_true rfl) rfl
theorem r_M_set_29 {G : Nat → Value} {d : Nat} {st : List Value} {M : am_M} {l0 l1 l2 l3 : Option Value} {a : Int32} : am_run G d K_M_set (29, [l0, l1, l2, l3], .int a :: st, M) = if ¬ a = 0 then am_run G d K_M_set (35, [l0, l1, l2, l3], st, M) else am_run G d K_M_set (32, [l0, l1, l2, l3], st, M) := by
  split
  · next h => exact am_run_next (x := (.ifCond .ne 6, 3, 0, 0, 0, 0)) (by decide +kernel) (am_br_t (decide_eq_true h) (by decide))
  · next h => exact am_run_next (x := (.ifCond .ne 6, 3, 0, 0, 0, 0)) (by decide +kernel) (am_br_f (decide_eq_false h) (by decide))
theorem r_M_set_32 {G : Nat → Value} {d : Nat} {st : List Value} {M : am_M} {l0 l1 l2 l3 : Option Value} : am_run G d K_M_set (32, [l0, l1, l2, l3], st, M) = am_run G d K_M_set (34, [l0, l1, l2, l3], .int (-2) :: st, M) := am_run_next (x := (.bipush (-2), 2, 0, 0, 0, 0)) (by decide +kernel) rfl
theorem r_M_set_34 {G : Nat → Value} {d : Nat} {M : am_M} {l0 l1 l2 l3 : Option Value} {a : Int32} : am_run G d K_M_set (34, [l0, l1, l2, l3], [.int a], M) = some (some (.int a), M) := am_run_ret (x := (.ireturn, 1, 0, 0, 0, 0)) (by decide +kernel) rfl
theorem r_M_set_35 {G : Nat → Value} {d : Nat} {st : List Value} {M : am_M} {l0 l2 l3 : Option Value} {v : Int32} : am_run G d K_M_set (35, [l0, some (.int v), l2, l3], st, M) = am_run G d K_M_set (36, [l0, some (.int v), l2, l3], .int v :: st, M) := am_run_next (x := (.iload_n 1, 1, 0, 0, 0, 0)) (by decide +kernel) rfl
theorem r_M_set_36 {G : Nat → Value} {d : Nat} {st : List Value} {M : am_M} {l0 l1 l2 l3 : Option Value} {a : Int32} : am_run G d K_M_set (36, [l0, l1, l2, l3], .int a :: st, M) = if ¬ a = 0 then am_run G d K_M_set (46, [l0, l1, l2, l3], st, M) else am_run G d K_M_set (39, [l0, l1, l2, l3], st, M) := by
  split
  · next h => exact am_run_next (x := (.ifCond .ne 10, 3, 0, 0, 0, 0)) (by decide +kernel) (am_br_t (decide_eq_true h) (by decide))
  · next h => exact am_run_next (x := (.ifCond .ne 10, 3, 0, 0, 0, 0)) (by decide +kernel) (am_br_f (decide_eq_false h) (by decide))
theorem r_M_set_39 {G : Nat → Value} {d : Nat} {st : List Value} {M : am_M} {l1 l2 l3 : Option Value} {v : Value} (hv : am_isr v = true) : am_run G d K_M_set (39, [some v, l1, l2, l3], st, M) = am_run G d K_M_set (40, [some v, l1, l2, l3], v :: st, M) := by
  rcases am_isr_cases hv with ⟨q, rfl⟩ | rfl
  · exact am_run_next (x := (.aload_n 0, 1, 0, 0, 0, 0)) (by decide +kernel) rfl
  · exact am_run_next (x := (.aload_n 0, 1, 0, 0, 0, 0)) (by decide +kernel) rfl
theorem r_M_set_40 {G : Nat → Value} {d : Nat} {st : List Value} {M : am_M} {l0 l1 l2 l3 : Option Value} {a : Nat} : am_run G d K_M_set (40, [l0, l1, l2, l3], .ref a :: st, M) = am_kf G d K_M_set 43 [l0, l1, l2, l3] st M (am_fld M a 10 7) := am_run_kf (x := (.getfield 111, 3, 10, 7, 5026, 0)) (by decide +kernel) rfl
theorem r_M_set_43 {G : Nat → Value} {d : Nat} {st : List Value} {M : am_M} {l0 l1 l2 l3 : Option Value} : am_run G d K_M_set (43, [l0, l1, l2, l3], st, M) = am_run G d K_M_set (74, [l0, l1, l2, l3], st, M) := am_run_next (x := (.goto 31, 3, 0, 0, 0, 0)) (by decide +kernel) rfl
theorem r_M_set_46 {G : Nat → Value} {d : Nat} {st : List Value} {M : am_M} {l0 l2 l3 : Option Value} {v : Int32} : am_run G d K_M_set (46, [l0, some (.int v), l2, l3], st, M) = am_run G d K_M_set (47, [l0, some (.int v), l2, l3], .int v :: st, M) := am_run_next (x := (.iload_n 1, 1, 0, 0, 0, 0)) (by decide +kernel) rfl
theorem r_M_set_47 {G : Nat → Value} {d : Nat} {st : List Value} {M : am_M} {l0 l1 l2 l3 : Option Value} : am_run G d K_M_set (47, [l0, l1, l2, l3], st, M) = am_run G d K_M_set (48, [l0, l1, l2, l3], .int 1 :: st, M) := am_run_next (x := (.iconst 1, 1, 0, 0, 0, 0)) (by decide +kernel) rfl
theorem r_M_set_48 {G : Nat → Value} {d : Nat} {st : List Value} {M : am_M} {l0 l1 l2 l3 : Option Value} {a b : Int32} : am_run G d K_M_set (48, [l0, l1, l2, l3], .int b :: .int a :: st, M) = if ¬ a = b then am_run G d K_M_set (58, [l0, l1, l2, l3], st, M) else am_run G d K_M_set (51, [l0, l1, l2, l3], st, M) := by
  split
  · next h => exact am_run_next (x := (.if_icmp .ne 10, 3, 0, 0, 0, 0)) (by decide +kernel) (am_br_t (decide_eq_true h) (by decide))
  · next h => exact am_run_next (x := (.if_icmp .ne 10, 3, 0, 0, 0, 0)) (by decide +kernel) (am_br_f (decide_eq_false h) (by decide))
theorem r_M_set_51 {G : Nat → Value} {d : Nat} {st : List Value} {M : am_M} {l1 l2 l3 : Option Value} {v : Value} (hv : am_isr v = true) : am_run G d K_M_set (51, [some v, l1, l2, l3], st, M) = am_run G d K_M_set (52, [some v, l1, l2, l3], v :: st, M) := by
  rcases am_isr_cases hv with ⟨q, rfl⟩ | rfl
  · exact am_run_next (x := (.aload_n 0, 1, 0, 0, 0, 0)) (by decide +kernel) rfl
  · exact am_run_next (x := (.aload_n 0, 1, 0, 0, 0, 0)) (by decide +kernel) rfl
theorem r_M_set_52 {G : Nat → Value} {d : Nat} {st : List Value} {M : am_M} {l0 l1 l2 l3 : Option Value} {a : Nat} : am_run G d K_M_set (52, [l0, l1, l2, l3], .ref a :: st, M) = am_kf G d K_M_set 55 [l0, l1, l2, l3] st M (am_fld M a 10 8) := am_run_kf (x := (.getfield 114, 3, 10, 8, 5027, 0)) (by decide +kernel) rfl
theorem r_M_set_55 {G : Nat → Value} {d : Nat} {st : List Value} {M : am_M} {l0 l1 l2 l3 : Option Value} : am_run G d K_M_set (55, [l0, l1, l2, l3], st, M) = am_run G d K_M_set (74, [l0, l1, l2, l3], st, M) := am_run_next (x := (.goto 19, 3, 0, 0, 0, 0)) (by decide +kernel) rfl
theorem r_M_set_58 {G : Nat → Value} {d : Nat} {st : List Value} {M : am_M} {l0 l2 l3 : Option Value} {v : Int32} : am_run G d K_M_set (58, [l0, some (.int v), l2, l3], st, M) = am_run G d K_M_set (59, [l0, some (.int v), l2, l3], .int v :: st, M) := am_run_next (x := (.iload_n 1, 1, 0, 0, 0, 0)) (by decide +kernel) rfl
theorem r_M_set_59 {G : Nat → Value} {d : Nat} {st : List Value} {M : am_M} {l0 l1 l2 l3 : Option Value} : am_run G d K_M_set (59, [l0, l1, l2, l3], st, M) = am_run G d K_M_set (60, [l0, l1, l2, l3], .int 2 :: st, M) := am_run_next (x := (.iconst 2, 1, 0, 0, 0, 0)) (by decide +kernel) rfl
theorem r_M_set_60 {G : Nat → Value} {d : Nat} {st : List Value} {M : am_M} {l0 l1 l2 l3 : Option Value} {a b : Int32} : am_run G d K_M_set (60, [l0, l1, l2, l3], .int b :: .int a :: st, M) = if ¬ a = b then am_run G d K_M_set (70, [l0, l1, l2, l3], st, M) else am_run G d K_M_set (63, [l0, l1, l2, l3], st, M) := by
  split
  · next h => exact am_run_next (x := (.if_icmp .ne 10, 3, 0, 0, 0, 0)) (by decide +kernel) (am_br_t (decide_eq_true h) (by decide))
  · next h => exact am_run_next (x := (.if_icmp .ne 10, 3, 0, 0, 0, 0)) (by decide +kernel) (am_br_f (decide_eq_false h) (by decide))
theorem r_M_set_63 {G : Nat → Value} {d : Nat} {st : List Value} {M : am_M} {l1 l2 l3 : Option Value} {v : Value} (hv : am_isr v = true) : am_run G d K_M_set (63, [some v, l1, l2, l3], st, M) = am_run G d K_M_set (64, [some v, l1, l2, l3], v :: st, M) := by
  rcases am_isr_cases hv with ⟨q, rfl⟩ | rfl
  · exact am_run_next (x := (.aload_n 0, 1, 0, 0, 0, 0)) (by decide +kernel) rfl
  · exact am_run_next (x := (.aload_n 0, 1, 0, 0, 0, 0)) (by decide +kernel) rfl
theorem r_M_set_64 {G : Nat → Value} {d : Nat} {st : List Value} {M : am_M} {l0 l1 l2 l3 : Option Value} {a : Nat} : am_run G d K_M_set (64, [l0, l1, l2, l3], .ref a :: st, M) = am_kf G d K_M_set 67 [l0, l1, l2, l3] st M (am_fld M a 10 9) := am_run_kf (x := (.getfield 117, 3, 10, 9, 5028, 0)) (by decide +kernel) rfl
theorem r_M_set_67 {G : Nat → Value} {d : Nat} {st : List Value} {M : am_M} {l0 l1 l2 l3 : Option Value} : am_run G d K_M_set (67, [l0, l1, l2, l3], st, M) = am_run G d K_M_set (74, [l0, l1, l2, l3], st, M) := am_run_next (x := (.goto 7, 3, 0, 0, 0, 0)) (by decide +kernel) rfl
theorem r_M_set_70 {G : Nat → Value} {d : Nat} {st : List Value} {M : am_M} {l1 l2 l3 : Option Value} {v : Value} (hv : am_isr v = true) : am_run G d K_M_set (70, [some v, l1, l2, l3], st, M) = am_run G d K_M_set (71, [some v, l1, l2, l3], v :: st, M) := by
  rcases am_isr_cases hv with ⟨q, rfl⟩ | rfl
  · exact am_run_next (x := (.aload_n 0, 1, 0, 0, 0, 0)) (by decide +kernel) rfl
  · exact am_run_next (x := (.aload_n 0, 1, 0, 0, 0, 0)) (by decide +kernel) rfl
theorem r_M_set_71 {G : Nat → Value} {d : Nat} {st : List Value} {M : am_M} {l0 l1 l2 l3 : Option Value} {a : Nat} : am_run G d K_M_set (71, [l0, l1, l2, l3], .ref a :: st, M) = am_kf G d K_M_set 74 [l0, l1, l2, l3] st M (am_fld M a 10 10) := am_run_kf (x := (.getfield 120, 3, 10, 10, 5029, 0)) (by decide +kernel) rfl
theorem r_M_set_74 {G : Nat → Value} {d : Nat} {st : List Value} {M : am_M} {l0 l1 l2 l3 : Option Value} {v : Int32} (hc : am_c1 l2 = true) : am_run G d K_M_set (74, [l0, l1, l2, l3], .int v :: st, M) = am_run G d K_M_set (75, [l0, l1, l2, some (.int v)], st, M) := by
  rcases am_c1_cases hc with rfl | ⟨q, rfl⟩ | ⟨q, rfl⟩ | rfl
  · exact am_run_next (x := (.istore_n 3, 1, 0, 0, 0, 0)) (by decide +kernel) rfl
  · exact am_run_next (x := (.istore_n 3, 1, 0, 0, 0, 0)) (by decide +kernel) rfl
  · exact am_run_next (x := (.istore_n 3, 1, 0, 0, 0, 0)) (by decide +kernel) rfl
  · exact am_run_next (x := (.istore_n 3, 1, 0, 0, 0, 0)) (by decide +kernel) rfl
theorem r_M_set_74_k {G : Nat → Value} {d : Nat} {st : List Value} {M : am_M} {l0 l1 l3 : Option Value} {v : Int32} {z : Int64} : am_run G d K_M_set (74, [l0, l1, some (.long z), l3], .int v :: st, M) = am_run G d K_M_set (75, [l0, l1, none, some (.int v)], st, M) := am_run_next (x := (.istore_n 3, 1, 0, 0, 0, 0)) (by decide +kernel) rfl
theorem r_M_set_75 {G : Nat → Value} {d : Nat} {st : List Value} {M : am_M} {l0 l2 l3 : Option Value} {v : Int32} : am_run G d K_M_set (75, [l0, some (.int v), l2, l3], st, M) = am_run G d K_M_set (76, [l0, some (.int v), l2, l3], .int v :: st, M) := am_run_next (x := (.iload_n 1, 1, 0, 0, 0, 0)) (by decide +kernel) rfl
theorem r_M_set_76 {G : Nat → Value} {d : Nat} {st : List Value} {M : am_M} {l0 l1 l2 l3 : Option Value} {a : Int32} : am_run G d K_M_set (76, [l0, l1, l2, l3], .int a :: st, M) = if ¬ a = 0 then am_run G d K_M_set (84, [l0, l1, l2, l3], st, M) else am_run G d K_M_set (79, [l0, l1, l2, l3], st, M) := by
  split
  · next h => exact am_run_next (x := (.ifCond .ne 8, 3, 0, 0, 0, 0)) (by decide +kernel) (am_br_t (decide_eq_true h) (by decide))
  · next h => exact am_run_next (x := (.ifCond .ne 8, 3, 0, 0, 0, 0)) (by decide +kernel) (am_br_f (decide_eq_false h) (by decide))
theorem r_M_set_79 {G : Nat → Value} {d : Nat} {st : List Value} {M : am_M} {l1 l2 l3 : Option Value} {v : Value} (hv : am_isr v = true) : am_run G d K_M_set (79, [some v, l1, l2, l3], st, M) = am_run G d K_M_set (80, [some v, l1, l2, l3], v :: st, M) := by
  rcases am_isr_cases hv with ⟨q, rfl⟩ | rfl
  · exact am_run_next (x := (.aload_n 0, 1, 0, 0, 0, 0)) (by decide +kernel) rfl
  · exact am_run_next (x := (.aload_n 0, 1, 0, 0, 0, 0)) (by decide +kernel) rfl
theorem r_M_set_80 {G : Nat → Value} {d : Nat} {st : List Value} {M : am_M} {l0 l1 l3 : Option Value} {v : Int32} : am_run G d K_M_set (80, [l0, l1, some (.int v), l3], st, M) = am_run G d K_M_set (81, [l0, l1, some (.int v), l3], .int v :: st, M) := am_run_next (x := (.iload_n 2, 1, 0, 0, 0, 0)) (by decide +kernel) rfl
theorem r_M_set_81 {G : Nat → Value} {d : Nat} {st : List Value} {M : am_M} {l0 l1 l2 l3 : Option Value} {a : Nat} {v : Value} : am_run G d K_M_set (81, [l0, l1, l2, l3], v :: .ref a :: st, M) = am_km G d K_M_set 84 [l0, l1, l2, l3] st (am_pf M a 10 7 .int v) := am_run_km (x := (.putfield 111, 3, 10, 7, 5026, 0)) (by decide +kernel) rfl
theorem r_M_set_84 {G : Nat → Value} {d : Nat} {st : List Value} {M : am_M} {l0 l2 l3 : Option Value} {v : Int32} : am_run G d K_M_set (84, [l0, some (.int v), l2, l3], st, M) = am_run G d K_M_set (85, [l0, some (.int v), l2, l3], .int v :: st, M) := am_run_next (x := (.iload_n 1, 1, 0, 0, 0, 0)) (by decide +kernel) rfl
theorem r_M_set_85 {G : Nat → Value} {d : Nat} {st : List Value} {M : am_M} {l0 l1 l2 l3 : Option Value} : am_run G d K_M_set (85, [l0, l1, l2, l3], st, M) = am_run G d K_M_set (86, [l0, l1, l2, l3], .int 1 :: st, M) := am_run_next (x := (.iconst 1, 1, 0, 0, 0, 0)) (by decide +kernel) rfl
theorem r_M_set_86 {G : Nat → Value} {d : Nat} {st : List Value} {M : am_M} {l0 l1 l2 l3 : Option Value} {a b : Int32} : am_run G d K_M_set (86, [l0, l1, l2, l3], .int b :: .int a :: st, M) = if ¬ a = b then am_run G d K_M_set (94, [l0, l1, l2, l3], st, M) else am_run G d K_M_set (89, [l0, l1, l2, l3], st, M) := by
  split
  · next h => exact am_run_next (x := (.if_icmp .ne 8, 3, 0, 0, 0, 0)) (by decide +kernel) (am_br_t (decide_eq_true h) (by decide))
  · next h => exact am_run_next (x := (.if_icmp .ne 8, 3, 0, 0, 0, 0)) (by decide +kernel) (am_br_f (decide_eq_false h) (by decide))
theorem r_M_set_89 {G : Nat → Value} {d : Nat} {st : List Value} {M : am_M} {l1 l2 l3 : Option Value} {v : Value} (hv : am_isr v = true) : am_run G d K_M_set (89, [some v, l1, l2, l3], st, M) = am_run G d K_M_set (90, [some v, l1, l2, l3], v :: st, M) := by
  rcases am_isr_cases hv with ⟨q, rfl⟩ | rfl
  · exact am_run_next (x := (.aload_n 0, 1, 0, 0, 0, 0)) (by decide +kernel) rfl
  · exact am_run_next (x := (.aload_n 0, 1, 0, 0, 0, 0)) (by decide +kernel) rfl
theorem r_M_set_90 {G : Nat → Value} {d : Nat} {st : List Value} {M : am_M} {l0 l1 l3 : Option Value} {v : Int32} : am_run G d K_M_set (90, [l0, l1, some (.int v), l3], st, M) = am_run G d K_M_set (91, [l0, l1, some (.int v), l3], .int v :: st, M) := am_run_next (x := (.iload_n 2, 1, 0, 0, 0, 0)) (by decide +kernel) rfl
theorem r_M_set_91 {G : Nat → Value} {d : Nat} {st : List Value} {M : am_M} {l0 l1 l2 l3 : Option Value} {a : Nat} {v : Value} : am_run G d K_M_set (91, [l0, l1, l2, l3], v :: .ref a :: st, M) = am_km G d K_M_set 94 [l0, l1, l2, l3] st (am_pf M a 10 8 .int v) := am_run_km (x := (.putfield 114, 3, 10, 8, 5027, 0)) (by decide +kernel) rfl
theorem r_M_set_94 {G : Nat → Value} {d : Nat} {st : List Value} {M : am_M} {l0 l2 l3 : Option Value} {v : Int32} : am_run G d K_M_set (94, [l0, some (.int v), l2, l3], st, M) = am_run G d K_M_set (95, [l0, some (.int v), l2, l3], .int v :: st, M) := am_run_next (x := (.iload_n 1, 1, 0, 0, 0, 0)) (by decide +kernel) rfl
theorem r_M_set_95 {G : Nat → Value} {d : Nat} {st : List Value} {M : am_M} {l0 l1 l2 l3 : Option Value} : am_run G d K_M_set (95, [l0, l1, l2, l3], st, M) = am_run G d K_M_set (96, [l0, l1, l2, l3], .int 2 :: st, M) := am_run_next (x := (.iconst 2, 1, 0, 0, 0, 0)) (by decide +kernel) rfl
theorem r_M_set_96 {G : Nat → Value} {d : Nat} {st : List Value} {M : am_M} {l0 l1 l2 l3 : Option Value} {a b : Int32} : am_run G d K_M_set (96, [l0, l1, l2, l3], .int b :: .int a :: st, M) = if ¬ a = b then am_run G d K_M_set (104, [l0, l1, l2, l3], st, M) else am_run G d K_M_set (99, [l0, l1, l2, l3], st, M) := by
  split
  · next h => exact am_run_next (x := (.if_icmp .ne 8, 3, 0, 0, 0, 0)) (by decide +kernel) (am_br_t (decide_eq_true h) (by decide))
  · next h => exact am_run_next (x := (.if_icmp .ne 8, 3, 0, 0, 0, 0)) (by decide +kernel) (am_br_f (decide_eq_false h) (by decide))
theorem r_M_set_99 {G : Nat → Value} {d : Nat} {st : List Value} {M : am_M} {l1 l2 l3 : Option Value} {v : Value} (hv : am_isr v = true) : am_run G d K_M_set (99, [some v, l1, l2, l3], st, M) = am_run G d K_M_set (100, [some v, l1, l2, l3], v :: st, M) := by
  rcases am_isr_cases hv with ⟨q, rfl⟩ | rfl
  · exact am_run_next (x := (.aload_n 0, 1, 0, 0, 0, 0)) (by decide +kernel) rfl
  · exact am_run_next (x := (.aload_n 0, 1, 0, 0, 0, 0)) (by decide +kernel) rfl
theorem r_M_set_100 {G : Nat → Value} {d : Nat} {st : List Value} {M : am_M} {l0 l1 l3 : Option Value} {v : Int32} : am_run G d K_M_set (100, [l0, l1, some (.int v), l3], st, M) = am_run G d K_M_set (101, [l0, l1, some (.int v), l3], .int v :: st, M) := am_run_next (x := (.iload_n 2, 1, 0, 0, 0, 0)) (by decide +kernel) rfl
theorem r_M_set_101 {G : Nat → Value} {d : Nat} {st : List Value} {M : am_M} {l0 l1 l2 l3 : Option Value} {a : Nat} {v : Value} : am_run G d K_M_set (101, [l0, l1, l2, l3], v :: .ref a :: st, M) = am_km G d K_M_set 104 [l0, l1, l2, l3] st (am_pf M a 10 9 .int v) := am_run_km (x := (.putfield 117, 3, 10, 9, 5028, 0)) (by decide +kernel) rfl
theorem r_M_set_104 {G : Nat → Value} {d : Nat} {st : List Value} {M : am_M} {l0 l2 l3 : Option Value} {v : Int32} : am_run G d K_M_set (104, [l0, some (.int v), l2, l3], st, M) = am_run G d K_M_set (105, [l0, some (.int v), l2, l3], .int v :: st, M) := am_run_next (x := (.iload_n 1, 1, 0, 0, 0, 0)) (by decide +kernel) rfl
theorem r_M_set_105 {G : Nat → Value} {d : Nat} {st : List Value} {M : am_M} {l0 l1 l2 l3 : Option Value} : am_run G d K_M_set (105, [l0, l1, l2, l3], st, M) = am_run G d K_M_set (106, [l0, l1, l2, l3], .int 3 :: st, M) := am_run_next (x := (.iconst 3, 1, 0, 0, 0, 0)) (by decide +kernel) rfl
theorem r_M_set_106 {G : Nat → Value} {d : Nat} {st : List Value} {M : am_M} {l0 l1 l2 l3 : Option Value} {a b : Int32} : am_run G d K_M_set (106, [l0, l1, l2, l3], .int b :: .int a :: st, M) = if ¬ a = b then am_run G d K_M_set (114, [l0, l1, l2, l3], st, M) else am_run G d K_M_set (109, [l0, l1, l2, l3], st, M) := by
  split
  · next h => exact am_run_next (x := (.if_icmp .ne 8, 3, 0, 0, 0, 0)) (by decide +kernel) (am_br_t (decide_eq_true h) (by decide))
  · next h => exact am_run_next (x := (.if_icmp .ne 8, 3, 0, 0, 0, 0)) (by decide +kernel) (am_br_f (decide_eq_false h) (by decide))
theorem r_M_set_109 {G : Nat → Value} {d : Nat} {st : List Value} {M : am_M} {l1 l2 l3 : Option Value} {v : Value} (hv : am_isr v = true) : am_run G d K_M_set (109, [some v, l1, l2, l3], st, M) = am_run G d K_M_set (110, [some v, l1, l2, l3], v :: st, M) := by
  rcases am_isr_cases hv with ⟨q, rfl⟩ | rfl
  · exact am_run_next (x := (.aload_n 0, 1, 0, 0, 0, 0)) (by decide +kernel) rfl
  · exact am_run_next (x := (.aload_n 0, 1, 0, 0, 0, 0)) (by decide +kernel) rfl
theorem r_M_set_110 {G : Nat → Value} {d : Nat} {st : List Value} {M : am_M} {l0 l1 l3 : Option Value} {v : Int32} : am_run G d K_M_set (110, [l0, l1, some (.int v), l3], st, M) = am_run G d K_M_set (111, [l0, l1, some (.int v), l3], .int v :: st, M) := am_run_next (x := (.iload_n 2, 1, 0, 0, 0, 0)) (by decide +kernel) rfl
theorem r_M_set_111 {G : Nat → Value} {d : Nat} {st : List Value} {M : am_M} {l0 l1 l2 l3 : Option Value} {a : Nat} {v : Value} : am_run G d K_M_set (111, [l0, l1, l2, l3], v :: .ref a :: st, M) = am_km G d K_M_set 114 [l0, l1, l2, l3] st (am_pf M a 10 10 .int v) := am_run_km (x := (.putfield 120, 3, 10, 10, 5029, 0)) (by decide +kernel) rfl
theorem r_M_set_114 {G : Nat → Value} {d : Nat} {st : List Value} {M : am_M} {l0 l1 l2 : Option Value} {v : Int32} : am_run G d K_M_set (114, [l0, l1, l2, some (.int v)], st, M) = am_run G d K_M_set (115, [l0, l1, l2, some (.int v)], .int v :: st, M) := am_run_next (x := (.iload_n 3, 1, 0, 0, 0, 0)) (by decide +kernel) rfl
theorem r_M_set_115 {G : Nat → Value} {d : Nat} {M : am_M} {l0 l1 l2 l3 : Option Value} {a : Int32} : am_run G d K_M_set (115, [l0, l1, l2, l3], [.int a], M) = some (some (.int a), M) := am_run_ret (x := (.ireturn, 1, 0, 0, 0, 0)) (by decide +kernel) rfl
theorem r_M_eaten_0 {G : Nat → Value} {d : Nat} {st : List Value} {M : am_M} {l1 l2 l3 l4 l5 : Option Value} {v : Value} (hv : am_isr v = true) : am_run G d K_M_eaten (0, [some v, l1, l2, l3, l4, l5], st, M) = am_run G d K_M_eaten (1, [some v, l1, l2, l3, l4, l5], v :: st, M) := by
  rcases am_isr_cases hv with ⟨q, rfl⟩ | rfl
  · exact am_run_next (x := (.aload_n 0, 1, 0, 0, 0, 0)) (by decide +kernel) rfl
  · exact am_run_next (x := (.aload_n 0, 1, 0, 0, 0, 0)) (by decide +kernel) rfl
theorem r_M_eaten_1 {G : Nat → Value} {d : Nat} {st : List Value} {M : am_M} {l0 l2 l3 l4 l5 : Option Value} {v : Int32} : am_run G d K_M_eaten (1, [l0, some (.int v), l2, l3, l4, l5], st, M) = am_run G d K_M_eaten (2, [l0, some (.int v), l2, l3, l4, l5], .int v :: st, M) := am_run_next (x := (.iload_n 1, 1, 0, 0, 0, 0)) (by decide +kernel) rfl
theorem r_M_eaten_2 {G : Nat → Value} {d : Nat} {st : List Value} {M : am_M} {l0 l1 l2 l3 l4 l5 : Option Value} {q : Nat} {a0 : Int32} (hq : am_cls M q = some 10) (h8 : am_sw st ≤ 8) : am_run G d K_M_eaten (2, [l0, l1, l2, l3, l4, l5], .int a0 :: .ref q :: st, M) = am_k G d K_M_eaten 5 [l0, l1, l2, l3, l4, l5] st (am_ex G d K_M_isHall [.ref q, .int a0] M) := am_run_iv (i := 135) (n := 1) (pl := 5215) (Bs := [.int a0]) (z := K_M_isHall) (by decide +kernel) hq h8 rfl (Nat.le_of_ble_eq_true rfl) rfl
theorem r_M_eaten_5 {G : Nat → Value} {d : Nat} {st : List Value} {M : am_M} {l0 l1 l2 l3 l4 l5 : Option Value} {a : Int32} : am_run G d K_M_eaten (5, [l0, l1, l2, l3, l4, l5], .int a :: st, M) = if a = 0 then am_run G d K_M_eaten (30, [l0, l1, l2, l3, l4, l5], st, M) else am_run G d K_M_eaten (8, [l0, l1, l2, l3, l4, l5], st, M) := by
  split
  · next h => exact am_run_next (x := (.ifCond .eq 25, 3, 0, 0, 0, 0)) (by decide +kernel) (am_br_t (decide_eq_true h) (by decide))
  · next h => exact am_run_next (x := (.ifCond .eq 25, 3, 0, 0, 0, 0)) (by decide +kernel) (am_br_f (decide_eq_false h) (by decide))
theorem r_M_eaten_8 {G : Nat → Value} {d : Nat} {st : List Value} {M : am_M} {l0 l1 l3 l4 l5 : Option Value} {v : Int32} : am_run G d K_M_eaten (8, [l0, l1, some (.int v), l3, l4, l5], st, M) = am_run G d K_M_eaten (9, [l0, l1, some (.int v), l3, l4, l5], .int v :: st, M) := am_run_next (x := (.iload_n 2, 1, 0, 0, 0, 0)) (by decide +kernel) rfl
theorem r_M_eaten_9 {G : Nat → Value} {d : Nat} {st : List Value} {M : am_M} {l0 l1 l2 l3 l4 l5 : Option Value} {a : Int32} : am_run G d K_M_eaten (9, [l0, l1, l2, l3, l4, l5], .int a :: st, M) = am_run G d K_M_eaten (10, [l0, l1, l2, l3, l4, l5], .long a.toInt64 :: st, M) := am_run_next (x := (.i2l, 1, 0, 0, 0, 0)) (by decide +kernel) rfl
theorem r_M_eaten_10 {G : Nat → Value} {d : Nat} {st : List Value} {M : am_M} {l0 l1 l2 l3 l4 l5 : Option Value} : am_run G d K_M_eaten (10, [l0, l1, l2, l3, l4, l5], st, M) = am_run G d K_M_eaten (11, [l0, l1, l2, l3, l4, l5], .long 0 :: st, M) := am_run_next (x := (.lconst 0, 1, 0, 0, 0, 0)) (by decide +kernel) rfl
theorem r_M_eaten_11 {G : Nat → Value} {d : Nat} {st : List Value} {M : am_M} {l0 l1 l2 l3 l4 l5 : Option Value} : am_run G d K_M_eaten (11, [l0, l1, l2, l3, l4, l5], st, M) = am_run G d K_M_eaten (14, [l0, l1, l2, l3, l4, l5], .long 2 :: st, M) := am_run_next (x := (.ldc2_w 145, 3, 0, 0, 5209, 2)) (by decide +kernel) rfl
theorem r_M_eaten_14 {G : Nat → Value} {d : Nat} {st : List Value} {M : am_M} {l0 l1 l2 l3 l4 l5 : Option Value} {a0 : Int64} {a1 : Int64} {a2 : Int64} (h8 : am_sw st ≤ 8) : am_run G d K_M_eaten (14, [l0, l1, l2, l3, l4, l5], .long a2 :: .long a1 :: .long a0 :: st, M) = am_k G d K_M_eaten 17 [l0, l1, l2, l3, l4, l5] st (am_ex G d K_M_in [.long a0, .long a1, .long a2] M) := am_run_is (i := 128) (n := 3) (pl := 5200) (Bs := [.long a0, .long a1, .long a2]) (z := K_M_in) (v := 1) (by decide) (by decide) (by decide +kernel) h8 rfl (Nat.le_of_ble_eq_true rfl) rfl
theorem r_M_eaten_17 {G : Nat → Value} {d : Nat} {st : List Value} {M : am_M} {l0 l1 l2 l3 l4 l5 : Option Value} {a : Int32} : am_run G d K_M_eaten (17, [l0, l1, l2, l3, l4, l5], .int a :: st, M) = if a = 0 then am_run G d K_M_eaten (30, [l0, l1, l2, l3, l4, l5], st, M) else am_run G d K_M_eaten (20, [l0, l1, l2, l3, l4, l5], st, M) := by
  split
  · next h => exact am_run_next (x := (.ifCond .eq 13, 3, 0, 0, 0, 0)) (by decide +kernel) (am_br_t (decide_eq_true h) (by decide))
  · next h => exact am_run_next (x := (.ifCond .eq 13, 3, 0, 0, 0, 0)) (by decide +kernel) (am_br_f (decide_eq_false h) (by decide))
theorem r_M_eaten_20 {G : Nat → Value} {d : Nat} {st : List Value} {M : am_M} {l0 l1 l2 l4 l5 : Option Value} {v : Int32} : am_run G d K_M_eaten (20, [l0, l1, l2, some (.int v), l4, l5], st, M) = am_run G d K_M_eaten (21, [l0, l1, l2, some (.int v), l4, l5], .int v :: st, M) := am_run_next (x := (.iload_n 3, 1, 0, 0, 0, 0)) (by decide +kernel) rfl
theorem r_M_eaten_21 {G : Nat → Value} {d : Nat} {st : List Value} {M : am_M} {l0 l1 l2 l3 l4 l5 : Option Value} {a : Int32} : am_run G d K_M_eaten (21, [l0, l1, l2, l3, l4, l5], .int a :: st, M) = am_run G d K_M_eaten (22, [l0, l1, l2, l3, l4, l5], .long a.toInt64 :: st, M) := am_run_next (x := (.i2l, 1, 0, 0, 0, 0)) (by decide +kernel) rfl
theorem r_M_eaten_22 {G : Nat → Value} {d : Nat} {st : List Value} {M : am_M} {l0 l1 l2 l3 l4 l5 : Option Value} : am_run G d K_M_eaten (22, [l0, l1, l2, l3, l4, l5], st, M) = am_run G d K_M_eaten (23, [l0, l1, l2, l3, l4, l5], .long 0 :: st, M) := am_run_next (x := (.lconst 0, 1, 0, 0, 0, 0)) (by decide +kernel) rfl
theorem r_M_eaten_23 {G : Nat → Value} {d : Nat} {st : List Value} {M : am_M} {l0 l1 l2 l3 l4 l5 : Option Value} : am_run G d K_M_eaten (23, [l0, l1, l2, l3, l4, l5], st, M) = am_run G d K_M_eaten (24, [l0, l1, l2, l3, l4, l5], .long 1 :: st, M) := am_run_next (x := (.lconst 1, 1, 0, 0, 0, 0)) (by decide +kernel) rfl
theorem r_M_eaten_24 {G : Nat → Value} {d : Nat} {st : List Value} {M : am_M} {l0 l1 l2 l3 l4 l5 : Option Value} {a0 : Int64} {a1 : Int64} {a2 : Int64} (h8 : am_sw st ≤ 8) : am_run G d K_M_eaten (24, [l0, l1, l2, l3, l4, l5], .long a2 :: .long a1 :: .long a0 :: st, M) = am_k G d K_M_eaten 27 [l0, l1, l2, l3, l4, l5] st (am_ex G d K_M_in [.long a0, .long a1, .long a2] M) := am_run_is (i := 128) (n := 3) (pl := 5200) (Bs := [.long a0, .long a1, .long a2]) (z := K_M_in) (v := 1) (by decide) (by decide) (by decide +kernel) h8 rfl (Nat.le_of_ble_eq_true rfl) rfl
theorem r_M_eaten_27 {G : Nat → Value} {d : Nat} {st : List Value} {M : am_M} {l0 l1 l2 l3 l4 l5 : Option Value} {a : Int32} : am_run G d K_M_eaten (27, [l0, l1, l2, l3, l4, l5], .int a :: st, M) = if ¬ a = 0 then am_run G d K_M_eaten (34, [l0, l1, l2, l3, l4, l5], st, M) else am_run G d K_M_eaten (30, [l0, l1, l2, l3, l4, l5], st, M) := by
  split
  · next h => exact am_run_next (x := (.ifCond .ne 7, 3, 0, 0, 0, 0)) (by decide +kernel) (am_br_t (decide_eq_true h) (by decide))
  · next h => exact am_run_next (x := (.ifCond .ne 7, 3, 0, 0, 0, 0)) (by decide +kernel) (am_br_f (decide_eq_false h) (by decide))
theorem r_M_eaten_30 {G : Nat → Value} {d : Nat} {st : List Value} {M : am_M} {l0 l1 l2 l3 l4 l5 : Option Value} : am_run G d K_M_eaten (30, [l0, l1, l2, l3, l4, l5], st, M) = am_run G d K_M_eaten (33, [l0, l1, l2, l3, l4, l5], .long (-4611686018427387904) :: st, M) := am_run_next (x := (.ldc2_w 160, 3, 0, 0, 5238, (-4611686018427387904))) (by decide +kernel) rfl
theorem r_M_eaten_33 {G : Nat → Value} {d : Nat} {M : am_M} {l0 l1 l2 l3 l4 l5 : Option Value} {a : Int64} : am_run G d K_M_eaten (33, [l0, l1, l2, l3, l4, l5], [.long a], M) = some (some (.long a), M) := am_run_ret (x := (.lreturn, 1, 0, 0, 0, 0)) (by decide +kernel) rfl
theorem r_M_eaten_34 {G : Nat → Value} {d : Nat} {st : List Value} {M : am_M} {l1 l2 l3 l4 l5 : Option Value} {v : Value} (hv : am_isr v = true) : am_run G d K_M_eaten (34, [some v, l1, l2, l3, l4, l5], st, M) = am_run G d K_M_eaten (35, [some v, l1, l2, l3, l4, l5], v :: st, M) := by
  rcases am_isr_cases hv with ⟨q, rfl⟩ | rfl
  · exact am_run_next (x := (.aload_n 0, 1, 0, 0, 0, 0)) (by decide +kernel) rfl
  · exact am_run_next (x := (.aload_n 0, 1, 0, 0, 0, 0)) (by decide +kernel) rfl
theorem r_M_eaten_35 {G : Nat → Value} {d : Nat} {st : List Value} {M : am_M} {l0 l2 l3 l4 l5 : Option Value} {v : Int32} : am_run G d K_M_eaten (35, [l0, some (.int v), l2, l3, l4, l5], st, M) = am_run G d K_M_eaten (36, [l0, some (.int v), l2, l3, l4, l5], .int v :: st, M) := am_run_next (x := (.iload_n 1, 1, 0, 0, 0, 0)) (by decide +kernel) rfl
theorem r_M_eaten_36 {G : Nat → Value} {d : Nat} {st : List Value} {M : am_M} {l0 l1 l3 l4 l5 : Option Value} {v : Int32} : am_run G d K_M_eaten (36, [l0, l1, some (.int v), l3, l4, l5], st, M) = am_run G d K_M_eaten (37, [l0, l1, some (.int v), l3, l4, l5], .int v :: st, M) := am_run_next (x := (.iload_n 2, 1, 0, 0, 0, 0)) (by decide +kernel) rfl
theorem r_M_eaten_37 {G : Nat → Value} {d : Nat} {st : List Value} {M : am_M} {l0 l1 l2 l3 l4 l5 : Option Value} {q : Nat} {a0 : Int32} {a1 : Int32} (hq : am_cls M q = some 10) (h8 : am_sw st ≤ 8) : am_run G d K_M_eaten (37, [l0, l1, l2, l3, l4, l5], .int a1 :: .int a0 :: .ref q :: st, M) = am_k G d K_M_eaten 40 [l0, l1, l2, l3, l4, l5] st (am_ex G d K_M_eatenIn [.ref q, .int a0, .int a1] M) := am_run_iv (i := 162) (n := 2) (pl := 5239) (Bs := [.int a0, .int a1]) (z := K_M_eatenIn) (by decide +kernel) hq h8 rfl (Nat.le_of_ble_eq_true rfl) rfl
theorem r_M_eaten_40 {G : Nat → Value} {d : Nat} {st : List Value} {M : am_M} {l0 l1 l2 l3 l4 l5 : Option Value} {v : Int64} (hc : am_c1 l3 = true) : am_run G d K_M_eaten (40, [l0, l1, l2, l3, l4, l5], .long v :: st, M) = am_run G d K_M_eaten (42, [l0, l1, l2, l3, some (.long v), none], st, M) := by
  rcases am_c1_cases hc with rfl | ⟨q, rfl⟩ | ⟨q, rfl⟩ | rfl
  · exact am_run_next (x := (.lstore 4, 2, 0, 0, 0, 0)) (by decide +kernel) rfl
  · exact am_run_next (x := (.lstore 4, 2, 0, 0, 0, 0)) (by decide +kernel) rfl
  · exact am_run_next (x := (.lstore 4, 2, 0, 0, 0, 0)) (by decide +kernel) rfl
  · exact am_run_next (x := (.lstore 4, 2, 0, 0, 0, 0)) (by decide +kernel) rfl
theorem r_M_eaten_40_k {G : Nat → Value} {d : Nat} {st : List Value} {M : am_M} {l0 l1 l2 l4 l5 : Option Value} {v : Int64} {z : Int64} : am_run G d K_M_eaten (40, [l0, l1, l2, some (.long z), l4, l5], .long v :: st, M) = am_run G d K_M_eaten (42, [l0, l1, l2, none, some (.long v), none], st, M) := am_run_next (x := (.lstore 4, 2, 0, 0, 0, 0)) (by decide +kernel) rfl
theorem r_M_eaten_42 {G : Nat → Value} {d : Nat} {st : List Value} {M : am_M} {l0 l1 l2 l4 l5 : Option Value} {v : Int32} : am_run G d K_M_eaten (42, [l0, l1, l2, some (.int v), l4, l5], st, M) = am_run G d K_M_eaten (43, [l0, l1, l2, some (.int v), l4, l5], .int v :: st, M) := am_run_next (x := (.iload_n 3, 1, 0, 0, 0, 0)) (by decide +kernel) rfl
theorem r_M_eaten_43 {G : Nat → Value} {d : Nat} {st : List Value} {M : am_M} {l0 l1 l2 l3 l4 l5 : Option Value} {a : Int32} : am_run G d K_M_eaten (43, [l0, l1, l2, l3, l4, l5], .int a :: st, M) = if ¬ a = 0 then am_run G d K_M_eaten (51, [l0, l1, l2, l3, l4, l5], st, M) else am_run G d K_M_eaten (46, [l0, l1, l2, l3, l4, l5], st, M) := by
  split
  · next h => exact am_run_next (x := (.ifCond .ne 8, 3, 0, 0, 0, 0)) (by decide +kernel) (am_br_t (decide_eq_true h) (by decide))
  · next h => exact am_run_next (x := (.ifCond .ne 8, 3, 0, 0, 0, 0)) (by decide +kernel) (am_br_f (decide_eq_false h) (by decide))
theorem r_M_eaten_46 {G : Nat → Value} {d : Nat} {st : List Value} {M : am_M} {l0 l1 l2 l3 l5 : Option Value} {v : Int64} : am_run G d K_M_eaten (46, [l0, l1, l2, l3, some (.long v), l5], st, M) = am_run G d K_M_eaten (48, [l0, l1, l2, l3, some (.long v), l5], .long v :: st, M) := am_run_next (x := (.lload 4, 2, 0, 0, 0, 0)) (by decide +kernel) rfl
theorem r_M_eaten_48 {G : Nat → Value} {d : Nat} {st : List Value} {M : am_M} {l0 l1 l2 l3 l4 l5 : Option Value} : am_run G d K_M_eaten (48, [l0, l1, l2, l3, l4, l5], st, M) = am_run G d K_M_eaten (68, [l0, l1, l2, l3, l4, l5], st, M) := am_run_next (x := (.goto 20, 3, 0, 0, 0, 0)) (by decide +kernel) rfl
theorem r_M_eaten_51 {G : Nat → Value} {d : Nat} {st : List Value} {M : am_M} {l1 l2 l3 l4 l5 : Option Value} {v : Value} (hv : am_isr v = true) : am_run G d K_M_eaten (51, [some v, l1, l2, l3, l4, l5], st, M) = am_run G d K_M_eaten (52, [some v, l1, l2, l3, l4, l5], v :: st, M) := by
  rcases am_isr_cases hv with ⟨q, rfl⟩ | rfl
  · exact am_run_next (x := (.aload_n 0, 1, 0, 0, 0, 0)) (by decide +kernel) rfl
  · exact am_run_next (x := (.aload_n 0, 1, 0, 0, 0, 0)) (by decide +kernel) rfl
theorem r_M_eaten_52 {G : Nat → Value} {d : Nat} {st : List Value} {M : am_M} {l0 l1 l2 l3 l4 l5 : Option Value} {a : Nat} : am_run G d K_M_eaten (52, [l0, l1, l2, l3, l4, l5], .ref a :: st, M) = am_kf G d K_M_eaten 55 [l0, l1, l2, l3, l4, l5] st M (am_fld M a 10 14) := am_run_kf (x := (.getfield 29, 3, 10, 14, 5033, 0)) (by decide +kernel) rfl
theorem r_M_eaten_55 {G : Nat → Value} {d : Nat} {st : List Value} {M : am_M} {l0 l2 l3 l4 l5 : Option Value} {v : Int32} : am_run G d K_M_eaten (55, [l0, some (.int v), l2, l3, l4, l5], st, M) = am_run G d K_M_eaten (56, [l0, some (.int v), l2, l3, l4, l5], .int v :: st, M) := am_run_next (x := (.iload_n 1, 1, 0, 0, 0, 0)) (by decide +kernel) rfl
theorem r_M_eaten_56 {G : Nat → Value} {d : Nat} {st : List Value} {M : am_M} {l0 l1 l2 l3 l4 l5 : Option Value} {a : Nat} {i : Int32} : am_run G d K_M_eaten (56, [l0, l1, l2, l3, l4, l5], .int i :: .ref a :: st, M) = am_kf G d K_M_eaten 57 [l0, l1, l2, l3, l4, l5] st M (am_ag 0 M a i) := am_run_kf (x := (.iaload, 1, 0, 0, 0, 0)) (by decide +kernel) rfl
theorem r_M_eaten_57 {G : Nat → Value} {d : Nat} {st : List Value} {M : am_M} {l0 l1 l2 l3 l4 l5 : Option Value} {a : Int32} : am_run G d K_M_eaten (57, [l0, l1, l2, l3, l4, l5], .int a :: st, M) = am_run G d K_M_eaten (58, [l0, l1, l2, l3, l4, l5], .long a.toInt64 :: st, M) := am_run_next (x := (.i2l, 1, 0, 0, 0, 0)) (by decide +kernel) rfl
theorem r_M_eaten_58 {G : Nat → Value} {d : Nat} {st : List Value} {M : am_M} {l1 l2 l3 l4 l5 : Option Value} {v : Value} (hv : am_isr v = true) : am_run G d K_M_eaten (58, [some v, l1, l2, l3, l4, l5], st, M) = am_run G d K_M_eaten (59, [some v, l1, l2, l3, l4, l5], v :: st, M) := by
  rcases am_isr_cases hv with ⟨q, rfl⟩ | rfl
  · exact am_run_next (x := (.aload_n 0, 1, 0, 0, 0, 0)) (by decide +kernel) rfl
  · exact am_run_next (x := (.aload_n 0, 1, 0, 0, 0, 0)) (by decide +kernel) rfl
theorem r_M_eaten_59 {G : Nat → Value} {d : Nat} {st : List Value} {M : am_M} {l0 l1 l2 l3 l4 l5 : Option Value} {a : Nat} : am_run G d K_M_eaten (59, [l0, l1, l2, l3, l4, l5], .ref a :: st, M) = am_kf G d K_M_eaten 62 [l0, l1, l2, l3, l4, l5] st M (am_fld M a 10 7) := am_run_kf (x := (.getfield 111, 3, 10, 7, 5026, 0)) (by decide +kernel) rfl
theorem r_M_eaten_62 {G : Nat → Value} {d : Nat} {st : List Value} {M : am_M} {l0 l1 l2 l3 l4 l5 : Option Value} {a : Int32} : am_run G d K_M_eaten (62, [l0, l1, l2, l3, l4, l5], .int a :: st, M) = am_run G d K_M_eaten (63, [l0, l1, l2, l3, l4, l5], .long a.toInt64 :: st, M) := am_run_next (x := (.i2l, 1, 0, 0, 0, 0)) (by decide +kernel) rfl
theorem r_M_eaten_63 {G : Nat → Value} {d : Nat} {st : List Value} {M : am_M} {l0 l1 l2 l3 l5 : Option Value} {v : Int64} : am_run G d K_M_eaten (63, [l0, l1, l2, l3, some (.long v), l5], st, M) = am_run G d K_M_eaten (65, [l0, l1, l2, l3, some (.long v), l5], .long v :: st, M) := am_run_next (x := (.lload 4, 2, 0, 0, 0, 0)) (by decide +kernel) rfl
theorem r_M_eaten_65 {G : Nat → Value} {d : Nat} {st : List Value} {M : am_M} {l0 l1 l2 l3 l4 l5 : Option Value} {a0 : Int64} {a1 : Int64} {a2 : Int64} (h8 : am_sw st ≤ 8) : am_run G d K_M_eaten (65, [l0, l1, l2, l3, l4, l5], .long a2 :: .long a1 :: .long a0 :: st, M) = am_k G d K_M_eaten 68 [l0, l1, l2, l3, l4, l5] st (am_ex G d K_M_timeBy [.long a0, .long a1, .long a2] M) := am_run_is (i := 166) (n := 3) (pl := 6004) (Bs := [.long a0, .long a1, .long a2]) (z := K_M_timeBy) (v := 1) (by decide) (by decide) (by decide +kernel) h8 rfl (Nat.le_of_ble_eq_true rfl) rfl
theorem r_M_eaten_68 {G : Nat → Value} {d : Nat} {M : am_M} {l0 l1 l2 l3 l4 l5 : Option Value} {a : Int64} : am_run G d K_M_eaten (68, [l0, l1, l2, l3, l4, l5], [.long a], M) = some (some (.long a), M) := am_run_ret (x := (.lreturn, 1, 0, 0, 0, 0)) (by decide +kernel) rfl
theorem r_M_eatenIn_0 {G : Nat → Value} {d : Nat} {st : List Value} {M : am_M} {l0 l1 l2 l3 l4 l5 : Option Value} : am_run G d K_M_eatenIn (0, [l0, l1, l2, l3, l4, l5], st, M) = am_run G d K_M_eatenIn (3, [l0, l1, l2, l3, l4, l5], .long 100 :: st, M) := am_run_next (x := (.ldc2_w 158, 3, 0, 0, 6003, 100)) (by decide +kernel) rfl
theorem r_M_eatenIn_3 {G : Nat → Value} {d : Nat} {st : List Value} {M : am_M} {l0 l1 l2 l3 l4 l5 : Option Value} {v : Int64} (hc : am_c1 l2 = true) : am_run G d K_M_eatenIn (3, [l0, l1, l2, l3, l4, l5], .long v :: st, M) = am_run G d K_M_eatenIn (4, [l0, l1, l2, some (.long v), none, l5], st, M) := by
  rcases am_c1_cases hc with rfl | ⟨q, rfl⟩ | ⟨q, rfl⟩ | rfl
  · exact am_run_next (x := (.lstore_n 3, 1, 0, 0, 0, 0)) (by decide +kernel) rfl
  · exact am_run_next (x := (.lstore_n 3, 1, 0, 0, 0, 0)) (by decide +kernel) rfl
  · exact am_run_next (x := (.lstore_n 3, 1, 0, 0, 0, 0)) (by decide +kernel) rfl
  · exact am_run_next (x := (.lstore_n 3, 1, 0, 0, 0, 0)) (by decide +kernel) rfl
theorem r_M_eatenIn_3_k {G : Nat → Value} {d : Nat} {st : List Value} {M : am_M} {l0 l1 l3 l4 l5 : Option Value} {v : Int64} {z : Int64} : am_run G d K_M_eatenIn (3, [l0, l1, some (.long z), l3, l4, l5], .long v :: st, M) = am_run G d K_M_eatenIn (4, [l0, l1, none, some (.long v), none, l5], st, M) := am_run_next (x := (.lstore_n 3, 1, 0, 0, 0, 0)) (by decide +kernel) rfl
theorem r_M_eatenIn_4 {G : Nat → Value} {d : Nat} {st : List Value} {M : am_M} {l0 l1 l2 l3 l4 l5 : Option Value} : am_run G d K_M_eatenIn (4, [l0, l1, l2, l3, l4, l5], st, M) = am_run G d K_M_eatenIn (5, [l0, l1, l2, l3, l4, l5], .int 0 :: st, M) := am_run_next (x := (.iconst 0, 1, 0, 0, 0, 0)) (by decide +kernel) rfl
theorem r_M_eatenIn_5 {G : Nat → Value} {d : Nat} {st : List Value} {M : am_M} {l0 l1 l2 l3 l4 l5 : Option Value} {v : Int32} (hc : am_c1 l4 = true) : am_run G d K_M_eatenIn (5, [l0, l1, l2, l3, l4, l5], .int v :: st, M) = am_run G d K_M_eatenIn (7, [l0, l1, l2, l3, l4, some (.int v)], st, M) := by
  rcases am_c1_cases hc with rfl | ⟨q, rfl⟩ | ⟨q, rfl⟩ | rfl
  · exact am_run_next (x := (.istore 5, 2, 0, 0, 0, 0)) (by decide +kernel) rfl
  · exact am_run_next (x := (.istore 5, 2, 0, 0, 0, 0)) (by decide +kernel) rfl
  · exact am_run_next (x := (.istore 5, 2, 0, 0, 0, 0)) (by decide +kernel) rfl
  · exact am_run_next (x := (.istore 5, 2, 0, 0, 0, 0)) (by decide +kernel) rfl
theorem r_M_eatenIn_5_k {G : Nat → Value} {d : Nat} {st : List Value} {M : am_M} {l0 l1 l2 l3 l5 : Option Value} {v : Int32} {z : Int64} : am_run G d K_M_eatenIn (5, [l0, l1, l2, l3, some (.long z), l5], .int v :: st, M) = am_run G d K_M_eatenIn (7, [l0, l1, l2, l3, none, some (.int v)], st, M) := am_run_next (x := (.istore 5, 2, 0, 0, 0, 0)) (by decide +kernel) rfl
theorem r_M_eatenIn_7 {G : Nat → Value} {d : Nat} {st : List Value} {M : am_M} {l0 l1 l2 l3 l4 : Option Value} {v : Int32} : am_run G d K_M_eatenIn (7, [l0, l1, l2, l3, l4, some (.int v)], st, M) = am_run G d K_M_eatenIn (9, [l0, l1, l2, l3, l4, some (.int v)], .int v :: st, M) := am_run_next (x := (.iload 5, 2, 0, 0, 0, 0)) (by decide +kernel) rfl
theorem r_M_eatenIn_9 {G : Nat → Value} {d : Nat} {st : List Value} {M : am_M} {l1 l2 l3 l4 l5 : Option Value} {v : Value} (hv : am_isr v = true) : am_run G d K_M_eatenIn (9, [some v, l1, l2, l3, l4, l5], st, M) = am_run G d K_M_eatenIn (10, [some v, l1, l2, l3, l4, l5], v :: st, M) := by
  rcases am_isr_cases hv with ⟨q, rfl⟩ | rfl
  · exact am_run_next (x := (.aload_n 0, 1, 0, 0, 0, 0)) (by decide +kernel) rfl
  · exact am_run_next (x := (.aload_n 0, 1, 0, 0, 0, 0)) (by decide +kernel) rfl
theorem r_M_eatenIn_10 {G : Nat → Value} {d : Nat} {st : List Value} {M : am_M} {l0 l1 l2 l3 l4 l5 : Option Value} {a : Nat} : am_run G d K_M_eatenIn (10, [l0, l1, l2, l3, l4, l5], .ref a :: st, M) = am_kf G d K_M_eatenIn 13 [l0, l1, l2, l3, l4, l5] st M (am_fld M a 10 18) := am_run_kf (x := (.getfield 38, 3, 10, 18, 5037, 0)) (by decide +kernel) rfl
theorem r_M_eatenIn_13 {G : Nat → Value} {d : Nat} {st : List Value} {M : am_M} {l0 l2 l3 l4 l5 : Option Value} {v : Int32} : am_run G d K_M_eatenIn (13, [l0, some (.int v), l2, l3, l4, l5], st, M) = am_run G d K_M_eatenIn (14, [l0, some (.int v), l2, l3, l4, l5], .int v :: st, M) := am_run_next (x := (.iload_n 1, 1, 0, 0, 0, 0)) (by decide +kernel) rfl
theorem r_M_eatenIn_14 {G : Nat → Value} {d : Nat} {st : List Value} {M : am_M} {l0 l1 l2 l3 l4 l5 : Option Value} {a : Nat} {i : Int32} : am_run G d K_M_eatenIn (14, [l0, l1, l2, l3, l4, l5], .int i :: .ref a :: st, M) = am_kf G d K_M_eatenIn 15 [l0, l1, l2, l3, l4, l5] st M (am_ag 0 M a i) := am_run_kf (x := (.iaload, 1, 0, 0, 0, 0)) (by decide +kernel) rfl
theorem r_M_eatenIn_15 {G : Nat → Value} {d : Nat} {st : List Value} {M : am_M} {l0 l1 l2 l3 l4 l5 : Option Value} {a b : Int32} : am_run G d K_M_eatenIn (15, [l0, l1, l2, l3, l4, l5], .int b :: .int a :: st, M) = if b ≤ a then am_run G d K_M_eatenIn (63, [l0, l1, l2, l3, l4, l5], st, M) else am_run G d K_M_eatenIn (18, [l0, l1, l2, l3, l4, l5], st, M) := by
  split
  · next h => exact am_run_next (x := (.if_icmp .ge 48, 3, 0, 0, 0, 0)) (by decide +kernel) (am_br_t (decide_eq_true h) (by decide))
  · next h => exact am_run_next (x := (.if_icmp .ge 48, 3, 0, 0, 0, 0)) (by decide +kernel) (am_br_f (decide_eq_false h) (by decide))
theorem r_M_eatenIn_18 {G : Nat → Value} {d : Nat} {st : List Value} {M : am_M} {l0 l1 l2 l4 l5 : Option Value} {v : Int64} : am_run G d K_M_eatenIn (18, [l0, l1, l2, some (.long v), l4, l5], st, M) = am_run G d K_M_eatenIn (19, [l0, l1, l2, some (.long v), l4, l5], .long v :: st, M) := am_run_next (x := (.lload_n 3, 1, 0, 0, 0, 0)) (by decide +kernel) rfl
theorem r_M_eatenIn_19 {G : Nat → Value} {d : Nat} {st : List Value} {M : am_M} {l1 l2 l3 l4 l5 : Option Value} {v : Value} (hv : am_isr v = true) : am_run G d K_M_eatenIn (19, [some v, l1, l2, l3, l4, l5], st, M) = am_run G d K_M_eatenIn (20, [some v, l1, l2, l3, l4, l5], v :: st, M) := by
  rcases am_isr_cases hv with ⟨q, rfl⟩ | rfl
  · exact am_run_next (x := (.aload_n 0, 1, 0, 0, 0, 0)) (by decide +kernel) rfl
  · exact am_run_next (x := (.aload_n 0, 1, 0, 0, 0, 0)) (by decide +kernel) rfl
theorem r_M_eatenIn_20 {G : Nat → Value} {d : Nat} {st : List Value} {M : am_M} {l0 l1 l2 l3 l4 l5 : Option Value} {a : Nat} : am_run G d K_M_eatenIn (20, [l0, l1, l2, l3, l4, l5], .ref a :: st, M) = am_kf G d K_M_eatenIn 23 [l0, l1, l2, l3, l4, l5] st M (am_fld M a 10 20) := am_run_kf (x := (.getfield 44, 3, 10, 20, 5039, 0)) (by decide +kernel) rfl
theorem r_M_eatenIn_23 {G : Nat → Value} {d : Nat} {st : List Value} {M : am_M} {l0 l1 l2 l3 l4 l5 : Option Value} : am_run G d K_M_eatenIn (23, [l0, l1, l2, l3, l4, l5], st, M) = am_run G d K_M_eatenIn (25, [l0, l1, l2, l3, l4, l5], .int 6 :: st, M) := am_run_next (x := (.bipush 6, 2, 0, 0, 0, 0)) (by decide +kernel) rfl
theorem r_M_eatenIn_25 {G : Nat → Value} {d : Nat} {st : List Value} {M : am_M} {l0 l2 l3 l4 l5 : Option Value} {v : Int32} : am_run G d K_M_eatenIn (25, [l0, some (.int v), l2, l3, l4, l5], st, M) = am_run G d K_M_eatenIn (26, [l0, some (.int v), l2, l3, l4, l5], .int v :: st, M) := am_run_next (x := (.iload_n 1, 1, 0, 0, 0, 0)) (by decide +kernel) rfl
theorem r_M_eatenIn_26 {G : Nat → Value} {d : Nat} {st : List Value} {M : am_M} {l0 l1 l2 l3 l4 l5 : Option Value} {a b : Int32} : am_run G d K_M_eatenIn (26, [l0, l1, l2, l3, l4, l5], .int b :: .int a :: st, M) = am_run G d K_M_eatenIn (27, [l0, l1, l2, l3, l4, l5], .int (a * b) :: st, M) := am_run_next (x := (.imul, 1, 0, 0, 0, 0)) (by decide +kernel) rfl
theorem r_M_eatenIn_27 {G : Nat → Value} {d : Nat} {st : List Value} {M : am_M} {l0 l1 l2 l3 l4 : Option Value} {v : Int32} : am_run G d K_M_eatenIn (27, [l0, l1, l2, l3, l4, some (.int v)], st, M) = am_run G d K_M_eatenIn (29, [l0, l1, l2, l3, l4, some (.int v)], .int v :: st, M) := am_run_next (x := (.iload 5, 2, 0, 0, 0, 0)) (by decide +kernel) rfl
theorem r_M_eatenIn_29 {G : Nat → Value} {d : Nat} {st : List Value} {M : am_M} {l0 l1 l2 l3 l4 l5 : Option Value} {a b : Int32} : am_run G d K_M_eatenIn (29, [l0, l1, l2, l3, l4, l5], .int b :: .int a :: st, M) = am_run G d K_M_eatenIn (30, [l0, l1, l2, l3, l4, l5], .int (a + b) :: st, M) := am_run_next (x := (.iadd, 1, 0, 0, 0, 0)) (by decide +kernel) rfl
theorem r_M_eatenIn_30 {G : Nat → Value} {d : Nat} {st : List Value} {M : am_M} {l0 l1 l2 l3 l4 l5 : Option Value} {a : Nat} {i : Int32} : am_run G d K_M_eatenIn (30, [l0, l1, l2, l3, l4, l5], .int i :: .ref a :: st, M) = am_kf G d K_M_eatenIn 31 [l0, l1, l2, l3, l4, l5] st M (am_ag 0 M a i) := am_run_kf (x := (.iaload, 1, 0, 0, 0, 0)) (by decide +kernel) rfl
theorem r_M_eatenIn_31 {G : Nat → Value} {d : Nat} {st : List Value} {M : am_M} {l0 l1 l2 l3 l4 l5 : Option Value} {a : Int32} : am_run G d K_M_eatenIn (31, [l0, l1, l2, l3, l4, l5], .int a :: st, M) = am_run G d K_M_eatenIn (32, [l0, l1, l2, l3, l4, l5], .long a.toInt64 :: st, M) := am_run_next (x := (.i2l, 1, 0, 0, 0, 0)) (by decide +kernel) rfl
theorem r_M_eatenIn_32 {G : Nat → Value} {d : Nat} {st : List Value} {M : am_M} {l1 l2 l3 l4 l5 : Option Value} {v : Value} (hv : am_isr v = true) : am_run G d K_M_eatenIn (32, [some v, l1, l2, l3, l4, l5], st, M) = am_run G d K_M_eatenIn (33, [some v, l1, l2, l3, l4, l5], v :: st, M) := by
  rcases am_isr_cases hv with ⟨q, rfl⟩ | rfl
  · exact am_run_next (x := (.aload_n 0, 1, 0, 0, 0, 0)) (by decide +kernel) rfl
  · exact am_run_next (x := (.aload_n 0, 1, 0, 0, 0, 0)) (by decide +kernel) rfl
theorem r_M_eatenIn_33 {G : Nat → Value} {d : Nat} {st : List Value} {M : am_M} {l0 l1 l2 l3 l4 l5 : Option Value} {a : Nat} : am_run G d K_M_eatenIn (33, [l0, l1, l2, l3, l4, l5], .ref a :: st, M) = am_kf G d K_M_eatenIn 36 [l0, l1, l2, l3, l4, l5] st M (am_fld M a 10 11) := am_run_kf (x := (.getfield 23, 3, 10, 11, 5030, 0)) (by decide +kernel) rfl
theorem r_M_eatenIn_36 {G : Nat → Value} {d : Nat} {st : List Value} {M : am_M} {l0 l1 l2 l3 l4 l5 : Option Value} : am_run G d K_M_eatenIn (36, [l0, l1, l2, l3, l4, l5], st, M) = am_run G d K_M_eatenIn (37, [l0, l1, l2, l3, l4, l5], .int 3 :: st, M) := am_run_next (x := (.iconst 3, 1, 0, 0, 0, 0)) (by decide +kernel) rfl
theorem r_M_eatenIn_37 {G : Nat → Value} {d : Nat} {st : List Value} {M : am_M} {l1 l2 l3 l4 l5 : Option Value} {v : Value} (hv : am_isr v = true) : am_run G d K_M_eatenIn (37, [some v, l1, l2, l3, l4, l5], st, M) = am_run G d K_M_eatenIn (38, [some v, l1, l2, l3, l4, l5], v :: st, M) := by
  rcases am_isr_cases hv with ⟨q, rfl⟩ | rfl
  · exact am_run_next (x := (.aload_n 0, 1, 0, 0, 0, 0)) (by decide +kernel) rfl
  · exact am_run_next (x := (.aload_n 0, 1, 0, 0, 0, 0)) (by decide +kernel) rfl
theorem r_M_eatenIn_38 {G : Nat → Value} {d : Nat} {st : List Value} {M : am_M} {l0 l1 l2 l3 l4 l5 : Option Value} {a : Nat} : am_run G d K_M_eatenIn (38, [l0, l1, l2, l3, l4, l5], .ref a :: st, M) = am_kf G d K_M_eatenIn 41 [l0, l1, l2, l3, l4, l5] st M (am_fld M a 10 19) := am_run_kf (x := (.getfield 41, 3, 10, 19, 5038, 0)) (by decide +kernel) rfl
theorem r_M_eatenIn_41 {G : Nat → Value} {d : Nat} {st : List Value} {M : am_M} {l0 l1 l2 l3 l4 l5 : Option Value} : am_run G d K_M_eatenIn (41, [l0, l1, l2, l3, l4, l5], st, M) = am_run G d K_M_eatenIn (43, [l0, l1, l2, l3, l4, l5], .int 6 :: st, M) := am_run_next (x := (.bipush 6, 2, 0, 0, 0, 0)) (by decide +kernel) rfl
theorem r_M_eatenIn_43 {G : Nat → Value} {d : Nat} {st : List Value} {M : am_M} {l0 l2 l3 l4 l5 : Option Value} {v : Int32} : am_run G d K_M_eatenIn (43, [l0, some (.int v), l2, l3, l4, l5], st, M) = am_run G d K_M_eatenIn (44, [l0, some (.int v), l2, l3, l4, l5], .int v :: st, M) := am_run_next (x := (.iload_n 1, 1, 0, 0, 0, 0)) (by decide +kernel) rfl
theorem r_M_eatenIn_44 {G : Nat → Value} {d : Nat} {st : List Value} {M : am_M} {l0 l1 l2 l3 l4 l5 : Option Value} {a b : Int32} : am_run G d K_M_eatenIn (44, [l0, l1, l2, l3, l4, l5], .int b :: .int a :: st, M) = am_run G d K_M_eatenIn (45, [l0, l1, l2, l3, l4, l5], .int (a * b) :: st, M) := am_run_next (x := (.imul, 1, 0, 0, 0, 0)) (by decide +kernel) rfl
theorem r_M_eatenIn_45 {G : Nat → Value} {d : Nat} {st : List Value} {M : am_M} {l0 l1 l2 l3 l4 : Option Value} {v : Int32} : am_run G d K_M_eatenIn (45, [l0, l1, l2, l3, l4, some (.int v)], st, M) = am_run G d K_M_eatenIn (47, [l0, l1, l2, l3, l4, some (.int v)], .int v :: st, M) := am_run_next (x := (.iload 5, 2, 0, 0, 0, 0)) (by decide +kernel) rfl
theorem r_M_eatenIn_47 {G : Nat → Value} {d : Nat} {st : List Value} {M : am_M} {l0 l1 l2 l3 l4 l5 : Option Value} {a b : Int32} : am_run G d K_M_eatenIn (47, [l0, l1, l2, l3, l4, l5], .int b :: .int a :: st, M) = am_run G d K_M_eatenIn (48, [l0, l1, l2, l3, l4, l5], .int (a + b) :: st, M) := am_run_next (x := (.iadd, 1, 0, 0, 0, 0)) (by decide +kernel) rfl
theorem r_M_eatenIn_48 {G : Nat → Value} {d : Nat} {st : List Value} {M : am_M} {l0 l1 l2 l3 l4 l5 : Option Value} {a : Nat} {i : Int32} : am_run G d K_M_eatenIn (48, [l0, l1, l2, l3, l4, l5], .int i :: .ref a :: st, M) = am_kf G d K_M_eatenIn 49 [l0, l1, l2, l3, l4, l5] st M (am_ag 0 M a i) := am_run_kf (x := (.iaload, 1, 0, 0, 0, 0)) (by decide +kernel) rfl
theorem r_M_eatenIn_49 {G : Nat → Value} {d : Nat} {st : List Value} {M : am_M} {l0 l1 l2 l3 l4 l5 : Option Value} {a b : Int32} : am_run G d K_M_eatenIn (49, [l0, l1, l2, l3, l4, l5], .int b :: .int a :: st, M) = am_run G d K_M_eatenIn (50, [l0, l1, l2, l3, l4, l5], .int (a * b) :: st, M) := am_run_next (x := (.imul, 1, 0, 0, 0, 0)) (by decide +kernel) rfl
theorem r_M_eatenIn_50 {G : Nat → Value} {d : Nat} {st : List Value} {M : am_M} {l0 l1 l3 l4 l5 : Option Value} {v : Int32} : am_run G d K_M_eatenIn (50, [l0, l1, some (.int v), l3, l4, l5], st, M) = am_run G d K_M_eatenIn (51, [l0, l1, some (.int v), l3, l4, l5], .int v :: st, M) := am_run_next (x := (.iload_n 2, 1, 0, 0, 0, 0)) (by decide +kernel) rfl
theorem r_M_eatenIn_51 {G : Nat → Value} {d : Nat} {st : List Value} {M : am_M} {l0 l1 l2 l3 l4 l5 : Option Value} {a b : Int32} : am_run G d K_M_eatenIn (51, [l0, l1, l2, l3, l4, l5], .int b :: .int a :: st, M) = am_run G d K_M_eatenIn (52, [l0, l1, l2, l3, l4, l5], .int (a + b) :: st, M) := am_run_next (x := (.iadd, 1, 0, 0, 0, 0)) (by decide +kernel) rfl
theorem r_M_eatenIn_52 {G : Nat → Value} {d : Nat} {st : List Value} {M : am_M} {l0 l1 l2 l3 l4 l5 : Option Value} {a : Nat} {i : Int32} : am_run G d K_M_eatenIn (52, [l0, l1, l2, l3, l4, l5], .int i :: .ref a :: st, M) = am_kf G d K_M_eatenIn 53 [l0, l1, l2, l3, l4, l5] st M (am_ag 0 M a i) := am_run_kf (x := (.iaload, 1, 0, 0, 0, 0)) (by decide +kernel) rfl
theorem r_M_eatenIn_53 {G : Nat → Value} {d : Nat} {st : List Value} {M : am_M} {l0 l1 l2 l3 l4 l5 : Option Value} {a : Int32} : am_run G d K_M_eatenIn (53, [l0, l1, l2, l3, l4, l5], .int a :: st, M) = am_run G d K_M_eatenIn (54, [l0, l1, l2, l3, l4, l5], .long a.toInt64 :: st, M) := am_run_next (x := (.i2l, 1, 0, 0, 0, 0)) (by decide +kernel) rfl
theorem r_M_eatenIn_54 {G : Nat → Value} {d : Nat} {st : List Value} {M : am_M} {l0 l1 l2 l3 l4 l5 : Option Value} {a b : Int64} : am_run G d K_M_eatenIn (54, [l0, l1, l2, l3, l4, l5], .long b :: .long a :: st, M) = am_run G d K_M_eatenIn (55, [l0, l1, l2, l3, l4, l5], .long (a * b) :: st, M) := am_run_next (x := (.lmul, 1, 0, 0, 0, 0)) (by decide +kernel) rfl
theorem r_M_eatenIn_55 {G : Nat → Value} {d : Nat} {st : List Value} {M : am_M} {l0 l1 l2 l3 l4 l5 : Option Value} {a b : Int64} : am_run G d K_M_eatenIn (55, [l0, l1, l2, l3, l4, l5], .long b :: .long a :: st, M) = am_run G d K_M_eatenIn (56, [l0, l1, l2, l3, l4, l5], .long (a + b) :: st, M) := am_run_next (x := (.ladd, 1, 0, 0, 0, 0)) (by decide +kernel) rfl
theorem r_M_eatenIn_56 {G : Nat → Value} {d : Nat} {st : List Value} {M : am_M} {l0 l1 l2 l3 l4 l5 : Option Value} {v : Int64} (hc : am_c1 l2 = true) : am_run G d K_M_eatenIn (56, [l0, l1, l2, l3, l4, l5], .long v :: st, M) = am_run G d K_M_eatenIn (57, [l0, l1, l2, some (.long v), none, l5], st, M) := by
  rcases am_c1_cases hc with rfl | ⟨q, rfl⟩ | ⟨q, rfl⟩ | rfl
  · exact am_run_next (x := (.lstore_n 3, 1, 0, 0, 0, 0)) (by decide +kernel) rfl
  · exact am_run_next (x := (.lstore_n 3, 1, 0, 0, 0, 0)) (by decide +kernel) rfl
  · exact am_run_next (x := (.lstore_n 3, 1, 0, 0, 0, 0)) (by decide +kernel) rfl
  · exact am_run_next (x := (.lstore_n 3, 1, 0, 0, 0, 0)) (by decide +kernel) rfl
theorem r_M_eatenIn_56_k {G : Nat → Value} {d : Nat} {st : List Value} {M : am_M} {l0 l1 l3 l4 l5 : Option Value} {v : Int64} {z : Int64} : am_run G d K_M_eatenIn (56, [l0, l1, some (.long z), l3, l4, l5], .long v :: st, M) = am_run G d K_M_eatenIn (57, [l0, l1, none, some (.long v), none, l5], st, M) := am_run_next (x := (.lstore_n 3, 1, 0, 0, 0, 0)) (by decide +kernel) rfl
theorem r_M_eatenIn_57 {G : Nat → Value} {d : Nat} {st : List Value} {M : am_M} {l0 l1 l2 l3 l4 : Option Value} {v : Int32} (hc : am_c1 l4 = true) : am_run G d K_M_eatenIn (57, [l0, l1, l2, l3, l4, some (.int v)], st, M) = am_run G d K_M_eatenIn (60, [l0, l1, l2, l3, l4, some (.int (v + 1))], st, M) := by
  rcases am_c1_cases hc with rfl | ⟨q, rfl⟩ | ⟨q, rfl⟩ | rfl
  · exact am_run_next (x := (.iinc 5 1, 3, 0, 0, 0, 0)) (by decide +kernel) rfl
  · exact am_run_next (x := (.iinc 5 1, 3, 0, 0, 0, 0)) (by decide +kernel) rfl
  · exact am_run_next (x := (.iinc 5 1, 3, 0, 0, 0, 0)) (by decide +kernel) rfl
  · exact am_run_next (x := (.iinc 5 1, 3, 0, 0, 0, 0)) (by decide +kernel) rfl
theorem r_M_eatenIn_57_k {G : Nat → Value} {d : Nat} {st : List Value} {M : am_M} {l0 l1 l2 l3 : Option Value} {v : Int32} {z : Int64} : am_run G d K_M_eatenIn (57, [l0, l1, l2, l3, some (.long z), some (.int v)], st, M) = am_run G d K_M_eatenIn (60, [l0, l1, l2, l3, none, some (.int (v + 1))], st, M) := am_run_next (x := (.iinc 5 1, 3, 0, 0, 0, 0)) (by decide +kernel) rfl
theorem r_M_eatenIn_60 {G : Nat → Value} {d : Nat} {st : List Value} {M : am_M} {l0 l1 l2 l3 l4 l5 : Option Value} : am_run G d K_M_eatenIn (60, [l0, l1, l2, l3, l4, l5], st, M) = am_run G d K_M_eatenIn (7, [l0, l1, l2, l3, l4, l5], st, M) := am_run_next (x := (.goto (-53), 3, 0, 0, 0, 0)) (by decide +kernel) rfl
theorem r_M_eatenIn_63 {G : Nat → Value} {d : Nat} {st : List Value} {M : am_M} {l0 l1 l2 l4 l5 : Option Value} {v : Int64} : am_run G d K_M_eatenIn (63, [l0, l1, l2, some (.long v), l4, l5], st, M) = am_run G d K_M_eatenIn (64, [l0, l1, l2, some (.long v), l4, l5], .long v :: st, M) := am_run_next (x := (.lload_n 3, 1, 0, 0, 0, 0)) (by decide +kernel) rfl
theorem r_M_eatenIn_64 {G : Nat → Value} {d : Nat} {M : am_M} {l0 l1 l2 l3 l4 l5 : Option Value} {a : Int64} : am_run G d K_M_eatenIn (64, [l0, l1, l2, l3, l4, l5], [.long a], M) = some (some (.long a), M) := am_run_ret (x := (.lreturn, 1, 0, 0, 0, 0)) (by decide +kernel) rfl
theorem r_M_timeBy_0 {G : Nat → Value} {d : Nat} {st : List Value} {M : am_M} {l1 l2 l3 l4 l5 : Option Value} {v : Int64} : am_run G d K_M_timeBy (0, [some (.long v), l1, l2, l3, l4, l5], st, M) = am_run G d K_M_timeBy (1, [some (.long v), l1, l2, l3, l4, l5], .long v :: st, M) := am_run_next (x := (.lload_n 0, 1, 0, 0, 0, 0)) (by decide +kernel) rfl
theorem r_M_timeBy_1 {G : Nat → Value} {d : Nat} {st : List Value} {M : am_M} {l0 l1 l2 l3 l4 l5 : Option Value} : am_run G d K_M_timeBy (1, [l0, l1, l2, l3, l4, l5], st, M) = am_run G d K_M_timeBy (4, [l0, l1, l2, l3, l4, l5], .long 100 :: st, M) := am_run_next (x := (.ldc2_w 158, 3, 0, 0, 6003, 100)) (by decide +kernel) rfl
theorem r_M_timeBy_4 {G : Nat → Value} {d : Nat} {st : List Value} {M : am_M} {l0 l1 l2 l3 l4 l5 : Option Value} {a b : Int64} : am_run G d K_M_timeBy (4, [l0, l1, l2, l3, l4, l5], .long b :: .long a :: st, M) = am_run G d K_M_timeBy (5, [l0, l1, l2, l3, l4, l5], .long (a * b) :: st, M) := am_run_next (x := (.lmul, 1, 0, 0, 0, 0)) (by decide +kernel) rfl
theorem r_M_timeBy_5 {G : Nat → Value} {d : Nat} {st : List Value} {M : am_M} {l0 l1 l3 l4 l5 : Option Value} {v : Int64} : am_run G d K_M_timeBy (5, [l0, l1, some (.long v), l3, l4, l5], st, M) = am_run G d K_M_timeBy (6, [l0, l1, some (.long v), l3, l4, l5], .long v :: st, M) := am_run_next (x := (.lload_n 2, 1, 0, 0, 0, 0)) (by decide +kernel) rfl
theorem r_M_timeBy_6 {G : Nat → Value} {d : Nat} {st : List Value} {M : am_M} {l0 l1 l2 l3 l4 l5 : Option Value} {a b : Int64} : am_run G d K_M_timeBy (6, [l0, l1, l2, l3, l4, l5], .long b :: .long a :: st, M) = am_run G d K_M_timeBy (7, [l0, l1, l2, l3, l4, l5], .long (a * b) :: st, M) := am_run_next (x := (.lmul, 1, 0, 0, 0, 0)) (by decide +kernel) rfl
theorem r_M_timeBy_7 {G : Nat → Value} {d : Nat} {st : List Value} {M : am_M} {l0 l1 l2 l3 l5 : Option Value} {v : Int64} : am_run G d K_M_timeBy (7, [l0, l1, l2, l3, some (.long v), l5], st, M) = am_run G d K_M_timeBy (9, [l0, l1, l2, l3, some (.long v), l5], .long v :: st, M) := am_run_next (x := (.lload 4, 2, 0, 0, 0, 0)) (by decide +kernel) rfl
theorem r_M_timeBy_9 {G : Nat → Value} {d : Nat} {st : List Value} {M : am_M} {l0 l1 l2 l3 l4 l5 : Option Value} {a b : Int64} : am_run G d K_M_timeBy (9, [l0, l1, l2, l3, l4, l5], .long b :: .long a :: st, M) = if b = 0 then none else am_run G d K_M_timeBy (10, [l0, l1, l2, l3, l4, l5], .long (a / b) :: st, M) := by
  split
  · next h => exact am_run_stuck (x := (.ldiv, 1, 0, 0, 0, 0)) (by decide +kernel) (if_pos h)
  · next h => exact am_run_next (x := (.ldiv, 1, 0, 0, 0, 0)) (by decide +kernel) (if_neg h)
theorem r_M_timeBy_10 {G : Nat → Value} {d : Nat} {M : am_M} {l0 l1 l2 l3 l4 l5 : Option Value} {a : Int64} : am_run G d K_M_timeBy (10, [l0, l1, l2, l3, l4, l5], [.long a], M) = some (some (.long a), M) := am_run_ret (x := (.lreturn, 1, 0, 0, 0, 0)) (by decide +kernel) rfl
theorem r_M_night_0 {G : Nat → Value} {d : Nat} {st : List Value} {M : am_M} {l0 l2 l3 l4 l5 : Option Value} {v : Int32} : am_run G d K_M_night (0, [l0, some (.int v), l2, l3, l4, l5], st, M) = am_run G d K_M_night (1, [l0, some (.int v), l2, l3, l4, l5], .int v :: st, M) := am_run_next (x := (.iload_n 1, 1, 0, 0, 0, 0)) (by decide +kernel) rfl
theorem r_M_night_1 {G : Nat → Value} {d : Nat} {st : List Value} {M : am_M} {l0 l1 l2 l3 l4 l5 : Option Value} {a : Int32} : am_run G d K_M_night (1, [l0, l1, l2, l3, l4, l5], .int a :: st, M) = am_run G d K_M_night (2, [l0, l1, l2, l3, l4, l5], .long a.toInt64 :: st, M) := am_run_next (x := (.i2l, 1, 0, 0, 0, 0)) (by decide +kernel) rfl
theorem r_M_night_2 {G : Nat → Value} {d : Nat} {st : List Value} {M : am_M} {l0 l1 l2 l3 l4 l5 : Option Value} : am_run G d K_M_night (2, [l0, l1, l2, l3, l4, l5], st, M) = am_run G d K_M_night (3, [l0, l1, l2, l3, l4, l5], .long 0 :: st, M) := am_run_next (x := (.lconst 0, 1, 0, 0, 0, 0)) (by decide +kernel) rfl
theorem r_M_night_3 {G : Nat → Value} {d : Nat} {st : List Value} {M : am_M} {l0 l1 l2 l3 l4 l5 : Option Value} : am_run G d K_M_night (3, [l0, l1, l2, l3, l4, l5], st, M) = am_run G d K_M_night (6, [l0, l1, l2, l3, l4, l5], .long 5 :: st, M) := am_run_next (x := (.ldc2_w 170, 3, 0, 0, 6011, 5)) (by decide +kernel) rfl
theorem r_M_night_6 {G : Nat → Value} {d : Nat} {st : List Value} {M : am_M} {l0 l1 l2 l3 l4 l5 : Option Value} {a0 : Int64} {a1 : Int64} {a2 : Int64} (h8 : am_sw st ≤ 8) : am_run G d K_M_night (6, [l0, l1, l2, l3, l4, l5], .long a2 :: .long a1 :: .long a0 :: st, M) = am_k G d K_M_night 9 [l0, l1, l2, l3, l4, l5] st (am_ex G d K_M_in [.long a0, .long a1, .long a2] M) := am_run_is (i := 128) (n := 3) (pl := 5200) (Bs := [.long a0, .long a1, .long a2]) (z := K_M_in) (v := 1) (by decide) (by decide) (by decide +kernel) h8 rfl (Nat.le_of_ble_eq_true rfl) rfl
theorem r_M_night_9 {G : Nat → Value} {d : Nat} {st : List Value} {M : am_M} {l0 l1 l2 l3 l4 l5 : Option Value} {a : Int32} : am_run G d K_M_night (9, [l0, l1, l2, l3, l4, l5], .int a :: st, M) = if a = 0 then am_run G d K_M_night (58, [l0, l1, l2, l3, l4, l5], st, M) else am_run G d K_M_night (12, [l0, l1, l2, l3, l4, l5], st, M) := by
  split
  · next h => exact am_run_next (x := (.ifCond .eq 49, 3, 0, 0, 0, 0)) (by decide +kernel) (am_br_t (decide_eq_true h) (by decide))
  · next h => exact am_run_next (x := (.ifCond .eq 49, 3, 0, 0, 0, 0)) (by decide +kernel) (am_br_f (decide_eq_false h) (by decide))
theorem r_M_night_12 {G : Nat → Value} {d : Nat} {st : List Value} {M : am_M} {l1 l2 l3 l4 l5 : Option Value} {v : Value} (hv : am_isr v = true) : am_run G d K_M_night (12, [some v, l1, l2, l3, l4, l5], st, M) = am_run G d K_M_night (13, [some v, l1, l2, l3, l4, l5], v :: st, M) := by
  rcases am_isr_cases hv with ⟨q, rfl⟩ | rfl
  · exact am_run_next (x := (.aload_n 0, 1, 0, 0, 0, 0)) (by decide +kernel) rfl
  · exact am_run_next (x := (.aload_n 0, 1, 0, 0, 0, 0)) (by decide +kernel) rfl
theorem r_M_night_13 {G : Nat → Value} {d : Nat} {st : List Value} {M : am_M} {l0 l1 l3 l4 l5 : Option Value} {v : Int32} : am_run G d K_M_night (13, [l0, l1, some (.int v), l3, l4, l5], st, M) = am_run G d K_M_night (14, [l0, l1, some (.int v), l3, l4, l5], .int v :: st, M) := am_run_next (x := (.iload_n 2, 1, 0, 0, 0, 0)) (by decide +kernel) rfl
theorem r_M_night_14 {G : Nat → Value} {d : Nat} {st : List Value} {M : am_M} {l0 l1 l2 l3 l4 l5 : Option Value} {q : Nat} {a0 : Int32} (hq : am_cls M q = some 10) (h8 : am_sw st ≤ 8) : am_run G d K_M_night (14, [l0, l1, l2, l3, l4, l5], .int a0 :: .ref q :: st, M) = am_k G d K_M_night 17 [l0, l1, l2, l3, l4, l5] st (am_ex G d K_M_isWhere [.ref q, .int a0] M) := am_run_iv (i := 172) (n := 1) (pl := 6012) (Bs := [.int a0]) (z := K_M_isWhere) (by decide +kernel) hq h8 rfl (Nat.le_of_ble_eq_true rfl) rfl
theorem r_M_night_17 {G : Nat → Value} {d : Nat} {st : List Value} {M : am_M} {l0 l1 l2 l3 l4 l5 : Option Value} {a : Int32} : am_run G d K_M_night (17, [l0, l1, l2, l3, l4, l5], .int a :: st, M) = if a = 0 then am_run G d K_M_night (58, [l0, l1, l2, l3, l4, l5], st, M) else am_run G d K_M_night (20, [l0, l1, l2, l3, l4, l5], st, M) := by
  split
  · next h => exact am_run_next (x := (.ifCond .eq 41, 3, 0, 0, 0, 0)) (by decide +kernel) (am_br_t (decide_eq_true h) (by decide))
  · next h => exact am_run_next (x := (.ifCond .eq 41, 3, 0, 0, 0, 0)) (by decide +kernel) (am_br_f (decide_eq_false h) (by decide))
theorem r_M_night_20 {G : Nat → Value} {d : Nat} {st : List Value} {M : am_M} {l0 l1 l2 l4 l5 : Option Value} {v : Int32} : am_run G d K_M_night (20, [l0, l1, l2, some (.int v), l4, l5], st, M) = am_run G d K_M_night (21, [l0, l1, l2, some (.int v), l4, l5], .int v :: st, M) := am_run_next (x := (.iload_n 3, 1, 0, 0, 0, 0)) (by decide +kernel) rfl
theorem r_M_night_21 {G : Nat → Value} {d : Nat} {st : List Value} {M : am_M} {l0 l1 l2 l3 l4 l5 : Option Value} {a : Int32} : am_run G d K_M_night (21, [l0, l1, l2, l3, l4, l5], .int a :: st, M) = am_run G d K_M_night (22, [l0, l1, l2, l3, l4, l5], .long a.toInt64 :: st, M) := am_run_next (x := (.i2l, 1, 0, 0, 0, 0)) (by decide +kernel) rfl
theorem r_M_night_22 {G : Nat → Value} {d : Nat} {st : List Value} {M : am_M} {l0 l1 l2 l3 l4 l5 : Option Value} : am_run G d K_M_night (22, [l0, l1, l2, l3, l4, l5], st, M) = am_run G d K_M_night (23, [l0, l1, l2, l3, l4, l5], .long 0 :: st, M) := am_run_next (x := (.lconst 0, 1, 0, 0, 0, 0)) (by decide +kernel) rfl
theorem r_M_night_23 {G : Nat → Value} {d : Nat} {st : List Value} {M : am_M} {l0 l1 l2 l3 l4 l5 : Option Value} : am_run G d K_M_night (23, [l0, l1, l2, l3, l4, l5], st, M) = am_run G d K_M_night (26, [l0, l1, l2, l3, l4, l5], .long 999 :: st, M) := am_run_next (x := (.ldc2_w 156, 3, 0, 0, 5233, 999)) (by decide +kernel) rfl
theorem r_M_night_26 {G : Nat → Value} {d : Nat} {st : List Value} {M : am_M} {l0 l1 l2 l3 l4 l5 : Option Value} {a0 : Int64} {a1 : Int64} {a2 : Int64} (h8 : am_sw st ≤ 8) : am_run G d K_M_night (26, [l0, l1, l2, l3, l4, l5], .long a2 :: .long a1 :: .long a0 :: st, M) = am_k G d K_M_night 29 [l0, l1, l2, l3, l4, l5] st (am_ex G d K_M_in [.long a0, .long a1, .long a2] M) := am_run_is (i := 128) (n := 3) (pl := 5200) (Bs := [.long a0, .long a1, .long a2]) (z := K_M_in) (v := 1) (by decide) (by decide) (by decide +kernel) h8 rfl (Nat.le_of_ble_eq_true rfl) rfl
theorem r_M_night_29 {G : Nat → Value} {d : Nat} {st : List Value} {M : am_M} {l0 l1 l2 l3 l4 l5 : Option Value} {a : Int32} : am_run G d K_M_night (29, [l0, l1, l2, l3, l4, l5], .int a :: st, M) = if a = 0 then am_run G d K_M_night (58, [l0, l1, l2, l3, l4, l5], st, M) else am_run G d K_M_night (32, [l0, l1, l2, l3, l4, l5], st, M) := by
  split
  · next h => exact am_run_next (x := (.ifCond .eq 29, 3, 0, 0, 0, 0)) (by decide +kernel) (am_br_t (decide_eq_true h) (by decide))
  · next h => exact am_run_next (x := (.ifCond .eq 29, 3, 0, 0, 0, 0)) (by decide +kernel) (am_br_f (decide_eq_false h) (by decide))
theorem r_M_night_32 {G : Nat → Value} {d : Nat} {st : List Value} {M : am_M} {l0 l1 l2 l3 l5 : Option Value} {v : Int32} : am_run G d K_M_night (32, [l0, l1, l2, l3, some (.int v), l5], st, M) = am_run G d K_M_night (34, [l0, l1, l2, l3, some (.int v), l5], .int v :: st, M) := am_run_next (x := (.iload 4, 2, 0, 0, 0, 0)) (by decide +kernel) rfl
theorem r_M_night_34 {G : Nat → Value} {d : Nat} {st : List Value} {M : am_M} {l0 l1 l2 l3 l4 l5 : Option Value} {a : Int32} : am_run G d K_M_night (34, [l0, l1, l2, l3, l4, l5], .int a :: st, M) = am_run G d K_M_night (35, [l0, l1, l2, l3, l4, l5], .long a.toInt64 :: st, M) := am_run_next (x := (.i2l, 1, 0, 0, 0, 0)) (by decide +kernel) rfl
theorem r_M_night_35 {G : Nat → Value} {d : Nat} {st : List Value} {M : am_M} {l0 l1 l2 l3 l4 l5 : Option Value} : am_run G d K_M_night (35, [l0, l1, l2, l3, l4, l5], st, M) = am_run G d K_M_night (36, [l0, l1, l2, l3, l4, l5], .long 0 :: st, M) := am_run_next (x := (.lconst 0, 1, 0, 0, 0, 0)) (by decide +kernel) rfl
theorem r_M_night_36 {G : Nat → Value} {d : Nat} {st : List Value} {M : am_M} {l0 l1 l2 l3 l4 l5 : Option Value} : am_run G d K_M_night (36, [l0, l1, l2, l3, l4, l5], st, M) = am_run G d K_M_night (39, [l0, l1, l2, l3, l4, l5], .long 99999 :: st, M) := am_run_next (x := (.ldc2_w 143, 3, 0, 0, 5208, 99999)) (by decide +kernel) rfl
theorem r_M_night_39 {G : Nat → Value} {d : Nat} {st : List Value} {M : am_M} {l0 l1 l2 l3 l4 l5 : Option Value} {a0 : Int64} {a1 : Int64} {a2 : Int64} (h8 : am_sw st ≤ 8) : am_run G d K_M_night (39, [l0, l1, l2, l3, l4, l5], .long a2 :: .long a1 :: .long a0 :: st, M) = am_k G d K_M_night 42 [l0, l1, l2, l3, l4, l5] st (am_ex G d K_M_in [.long a0, .long a1, .long a2] M) := am_run_is (i := 128) (n := 3) (pl := 5200) (Bs := [.long a0, .long a1, .long a2]) (z := K_M_in) (v := 1) (by decide) (by decide) (by decide +kernel) h8 rfl (Nat.le_of_ble_eq_true rfl) rfl
theorem r_M_night_42 {G : Nat → Value} {d : Nat} {st : List Value} {M : am_M} {l0 l1 l2 l3 l4 l5 : Option Value} {a : Int32} : am_run G d K_M_night (42, [l0, l1, l2, l3, l4, l5], .int a :: st, M) = if a = 0 then am_run G d K_M_night (58, [l0, l1, l2, l3, l4, l5], st, M) else am_run G d K_M_night (45, [l0, l1, l2, l3, l4, l5], st, M) := by
  split
  · next h => exact am_run_next (x := (.ifCond .eq 16, 3, 0, 0, 0, 0)) (by decide +kernel) (am_br_t (decide_eq_true h) (by decide))
  · next h => exact am_run_next (x := (.ifCond .eq 16, 3, 0, 0, 0, 0)) (by decide +kernel) (am_br_f (decide_eq_false h) (by decide))
theorem r_M_night_45 {G : Nat → Value} {d : Nat} {st : List Value} {M : am_M} {l0 l1 l2 l3 l4 : Option Value} {v : Int32} : am_run G d K_M_night (45, [l0, l1, l2, l3, l4, some (.int v)], st, M) = am_run G d K_M_night (47, [l0, l1, l2, l3, l4, some (.int v)], .int v :: st, M) := am_run_next (x := (.iload 5, 2, 0, 0, 0, 0)) (by decide +kernel) rfl
theorem r_M_night_47 {G : Nat → Value} {d : Nat} {st : List Value} {M : am_M} {l0 l1 l2 l3 l4 l5 : Option Value} {a : Int32} : am_run G d K_M_night (47, [l0, l1, l2, l3, l4, l5], .int a :: st, M) = am_run G d K_M_night (48, [l0, l1, l2, l3, l4, l5], .long a.toInt64 :: st, M) := am_run_next (x := (.i2l, 1, 0, 0, 0, 0)) (by decide +kernel) rfl
theorem r_M_night_48 {G : Nat → Value} {d : Nat} {st : List Value} {M : am_M} {l0 l1 l2 l3 l4 l5 : Option Value} : am_run G d K_M_night (48, [l0, l1, l2, l3, l4, l5], st, M) = am_run G d K_M_night (49, [l0, l1, l2, l3, l4, l5], .long 0 :: st, M) := am_run_next (x := (.lconst 0, 1, 0, 0, 0, 0)) (by decide +kernel) rfl
theorem r_M_night_49 {G : Nat → Value} {d : Nat} {st : List Value} {M : am_M} {l0 l1 l2 l3 l4 l5 : Option Value} : am_run G d K_M_night (49, [l0, l1, l2, l3, l4, l5], st, M) = am_run G d K_M_night (52, [l0, l1, l2, l3, l4, l5], .long 9 :: st, M) := am_run_next (x := (.ldc2_w 175, 3, 0, 0, 6016, 9)) (by decide +kernel) rfl
theorem r_M_night_52 {G : Nat → Value} {d : Nat} {st : List Value} {M : am_M} {l0 l1 l2 l3 l4 l5 : Option Value} {a0 : Int64} {a1 : Int64} {a2 : Int64} (h8 : am_sw st ≤ 8) : am_run G d K_M_night (52, [l0, l1, l2, l3, l4, l5], .long a2 :: .long a1 :: .long a0 :: st, M) = am_k G d K_M_night 55 [l0, l1, l2, l3, l4, l5] st (am_ex G d K_M_in [.long a0, .long a1, .long a2] M) := am_run_is (i := 128) (n := 3) (pl := 5200) (Bs := [.long a0, .long a1, .long a2]) (z := K_M_in) (v := 1) (by decide) (by decide) (by decide +kernel) h8 rfl (Nat.le_of_ble_eq_true rfl) rfl
theorem r_M_night_55 {G : Nat → Value} {d : Nat} {st : List Value} {M : am_M} {l0 l1 l2 l3 l4 l5 : Option Value} {a : Int32} : am_run G d K_M_night (55, [l0, l1, l2, l3, l4, l5], .int a :: st, M) = if ¬ a = 0 then am_run G d K_M_night (61, [l0, l1, l2, l3, l4, l5], st, M) else am_run G d K_M_night (58, [l0, l1, l2, l3, l4, l5], st, M) := by
  split
  · next h => exact am_run_next (x := (.ifCond .ne 6, 3, 0, 0, 0, 0)) (by decide +kernel) (am_br_t (decide_eq_true h) (by decide))
  · next h => exact am_run_next (x := (.ifCond .ne 6, 3, 0, 0, 0, 0)) (by decide +kernel) (am_br_f (decide_eq_false h) (by decide))
theorem r_M_night_58 {G : Nat → Value} {d : Nat} {st : List Value} {M : am_M} {l0 l1 l2 l3 l4 l5 : Option Value} : am_run G d K_M_night (58, [l0, l1, l2, l3, l4, l5], st, M) = am_run G d K_M_night (60, [l0, l1, l2, l3, l4, l5], .int (-2) :: st, M) := am_run_next (x := (.bipush (-2), 2, 0, 0, 0, 0)) (by decide +kernel) rfl
theorem r_M_night_60 {G : Nat → Value} {d : Nat} {M : am_M} {l0 l1 l2 l3 l4 l5 : Option Value} {a : Int32} : am_run G d K_M_night (60, [l0, l1, l2, l3, l4, l5], [.int a], M) = some (some (.int a), M) := am_run_ret (x := (.ireturn, 1, 0, 0, 0, 0)) (by decide +kernel) rfl
theorem r_M_night_61 {G : Nat → Value} {d : Nat} {st : List Value} {M : am_M} {l1 l2 l3 l4 l5 : Option Value} {v : Value} (hv : am_isr v = true) : am_run G d K_M_night (61, [some v, l1, l2, l3, l4, l5], st, M) = am_run G d K_M_night (62, [some v, l1, l2, l3, l4, l5], v :: st, M) := by
  rcases am_isr_cases hv with ⟨q, rfl⟩ | rfl
  · exact am_run_next (x := (.aload_n 0, 1, 0, 0, 0, 0)) (by decide +kernel) rfl
  · exact am_run_next (x := (.aload_n 0, 1, 0, 0, 0, 0)) (by decide +kernel) rfl
theorem r_M_night_62 {G : Nat → Value} {d : Nat} {st : List Value} {M : am_M} {l0 l1 l2 l3 l4 l5 : Option Value} {a : Nat} : am_run G d K_M_night (62, [l0, l1, l2, l3, l4, l5], .ref a :: st, M) = am_kf G d K_M_night 65 [l0, l1, l2, l3, l4, l5] st M (am_fld M a 10 27) := am_run_kf (x := (.getfield 177, 3, 10, 27, 5046, 0)) (by decide +kernel) rfl
theorem r_M_night_65 {G : Nat → Value} {d : Nat} {st : List Value} {M : am_M} {l0 l1 l2 l3 l4 l5 : Option Value} : am_run G d K_M_night (65, [l0, l1, l2, l3, l4, l5], st, M) = am_run G d K_M_night (67, [l0, l1, l2, l3, l4, l5], .int 40 :: st, M) := am_run_next (x := (.bipush 40, 2, 0, 0, 0, 0)) (by decide +kernel) rfl
theorem r_M_night_67 {G : Nat → Value} {d : Nat} {st : List Value} {M : am_M} {l0 l1 l2 l3 l4 l5 : Option Value} {a b : Int32} : am_run G d K_M_night (67, [l0, l1, l2, l3, l4, l5], .int b :: .int a :: st, M) = if ¬ a = b then am_run G d K_M_night (73, [l0, l1, l2, l3, l4, l5], st, M) else am_run G d K_M_night (70, [l0, l1, l2, l3, l4, l5], st, M) := by
  split
  · next h => exact am_run_next (x := (.if_icmp .ne 6, 3, 0, 0, 0, 0)) (by decide +kernel) (am_br_t (decide_eq_true h) (by decide))
  · next h => exact am_run_next (x := (.if_icmp .ne 6, 3, 0, 0, 0, 0)) (by decide +kernel) (am_br_f (decide_eq_false h) (by decide))
theorem r_M_night_70 {G : Nat → Value} {d : Nat} {st : List Value} {M : am_M} {l0 l1 l2 l3 l4 l5 : Option Value} : am_run G d K_M_night (70, [l0, l1, l2, l3, l4, l5], st, M) = am_run G d K_M_night (72, [l0, l1, l2, l3, l4, l5], .int (-4) :: st, M) := am_run_next (x := (.bipush (-4), 2, 0, 0, 0, 0)) (by decide +kernel) rfl
theorem r_M_night_72 {G : Nat → Value} {d : Nat} {M : am_M} {l0 l1 l2 l3 l4 l5 : Option Value} {a : Int32} : am_run G d K_M_night (72, [l0, l1, l2, l3, l4, l5], [.int a], M) = some (some (.int a), M) := am_run_ret (x := (.ireturn, 1, 0, 0, 0, 0)) (by decide +kernel) rfl
theorem r_M_night_73 {G : Nat → Value} {d : Nat} {st : List Value} {M : am_M} {l1 l2 l3 l4 l5 : Option Value} {v : Value} (hv : am_isr v = true) : am_run G d K_M_night (73, [some v, l1, l2, l3, l4, l5], st, M) = am_run G d K_M_night (74, [some v, l1, l2, l3, l4, l5], v :: st, M) := by
  rcases am_isr_cases hv with ⟨q, rfl⟩ | rfl
  · exact am_run_next (x := (.aload_n 0, 1, 0, 0, 0, 0)) (by decide +kernel) rfl
  · exact am_run_next (x := (.aload_n 0, 1, 0, 0, 0, 0)) (by decide +kernel) rfl
theorem r_M_night_74 {G : Nat → Value} {d : Nat} {st : List Value} {M : am_M} {l0 l1 l2 l3 l4 l5 : Option Value} {a : Nat} : am_run G d K_M_night (74, [l0, l1, l2, l3, l4, l5], .ref a :: st, M) = am_kf G d K_M_night 77 [l0, l1, l2, l3, l4, l5] st M (am_fld M a 10 21) := am_run_kf (x := (.getfield 47, 3, 10, 21, 5040, 0)) (by decide +kernel) rfl
theorem r_M_night_77 {G : Nat → Value} {d : Nat} {st : List Value} {M : am_M} {l1 l2 l3 l4 l5 : Option Value} {v : Value} (hv : am_isr v = true) : am_run G d K_M_night (77, [some v, l1, l2, l3, l4, l5], st, M) = am_run G d K_M_night (78, [some v, l1, l2, l3, l4, l5], v :: st, M) := by
  rcases am_isr_cases hv with ⟨q, rfl⟩ | rfl
  · exact am_run_next (x := (.aload_n 0, 1, 0, 0, 0, 0)) (by decide +kernel) rfl
  · exact am_run_next (x := (.aload_n 0, 1, 0, 0, 0, 0)) (by decide +kernel) rfl
theorem r_M_night_78 {G : Nat → Value} {d : Nat} {st : List Value} {M : am_M} {l0 l1 l2 l3 l4 l5 : Option Value} {a : Nat} : am_run G d K_M_night (78, [l0, l1, l2, l3, l4, l5], .ref a :: st, M) = am_kf G d K_M_night 81 [l0, l1, l2, l3, l4, l5] st M (am_fld M a 10 27) := am_run_kf (x := (.getfield 177, 3, 10, 27, 5046, 0)) (by decide +kernel) rfl
theorem r_M_night_81 {G : Nat → Value} {d : Nat} {st : List Value} {M : am_M} {l0 l2 l3 l4 l5 : Option Value} {v : Int32} : am_run G d K_M_night (81, [l0, some (.int v), l2, l3, l4, l5], st, M) = am_run G d K_M_night (82, [l0, some (.int v), l2, l3, l4, l5], .int v :: st, M) := am_run_next (x := (.iload_n 1, 1, 0, 0, 0, 0)) (by decide +kernel) rfl
theorem r_M_night_82 {G : Nat → Value} {d : Nat} {st : List Value} {M : am_M} {l0 l1 l2 l3 l4 l5 : Option Value} {a : Nat} {i x : Int32} : am_run G d K_M_night (82, [l0, l1, l2, l3, l4, l5], .int x :: .int i :: .ref a :: st, M) = am_km G d K_M_night 83 [l0, l1, l2, l3, l4, l5] st (am_pi M a i x) := am_run_km (x := (.iastore, 1, 0, 0, 0, 0)) (by decide +kernel) rfl
theorem r_M_night_83 {G : Nat → Value} {d : Nat} {st : List Value} {M : am_M} {l1 l2 l3 l4 l5 : Option Value} {v : Value} (hv : am_isr v = true) : am_run G d K_M_night (83, [some v, l1, l2, l3, l4, l5], st, M) = am_run G d K_M_night (84, [some v, l1, l2, l3, l4, l5], v :: st, M) := by
  rcases am_isr_cases hv with ⟨q, rfl⟩ | rfl
  · exact am_run_next (x := (.aload_n 0, 1, 0, 0, 0, 0)) (by decide +kernel) rfl
  · exact am_run_next (x := (.aload_n 0, 1, 0, 0, 0, 0)) (by decide +kernel) rfl
theorem r_M_night_84 {G : Nat → Value} {d : Nat} {st : List Value} {M : am_M} {l0 l1 l2 l3 l4 l5 : Option Value} {a : Nat} : am_run G d K_M_night (84, [l0, l1, l2, l3, l4, l5], .ref a :: st, M) = am_kf G d K_M_night 87 [l0, l1, l2, l3, l4, l5] st M (am_fld M a 10 22) := am_run_kf (x := (.getfield 50, 3, 10, 22, 5041, 0)) (by decide +kernel) rfl
theorem r_M_night_87 {G : Nat → Value} {d : Nat} {st : List Value} {M : am_M} {l1 l2 l3 l4 l5 : Option Value} {v : Value} (hv : am_isr v = true) : am_run G d K_M_night (87, [some v, l1, l2, l3, l4, l5], st, M) = am_run G d K_M_night (88, [some v, l1, l2, l3, l4, l5], v :: st, M) := by
  rcases am_isr_cases hv with ⟨q, rfl⟩ | rfl
  · exact am_run_next (x := (.aload_n 0, 1, 0, 0, 0, 0)) (by decide +kernel) rfl
  · exact am_run_next (x := (.aload_n 0, 1, 0, 0, 0, 0)) (by decide +kernel) rfl
theorem r_M_night_88 {G : Nat → Value} {d : Nat} {st : List Value} {M : am_M} {l0 l1 l2 l3 l4 l5 : Option Value} {a : Nat} : am_run G d K_M_night (88, [l0, l1, l2, l3, l4, l5], .ref a :: st, M) = am_kf G d K_M_night 91 [l0, l1, l2, l3, l4, l5] st M (am_fld M a 10 27) := am_run_kf (x := (.getfield 177, 3, 10, 27, 5046, 0)) (by decide +kernel) rfl
theorem r_M_night_91 {G : Nat → Value} {d : Nat} {st : List Value} {M : am_M} {l0 l1 l3 l4 l5 : Option Value} {v : Int32} : am_run G d K_M_night (91, [l0, l1, some (.int v), l3, l4, l5], st, M) = am_run G d K_M_night (92, [l0, l1, some (.int v), l3, l4, l5], .int v :: st, M) := am_run_next (x := (.iload_n 2, 1, 0, 0, 0, 0)) (by decide +kernel) rfl
theorem r_M_night_92 {G : Nat → Value} {d : Nat} {st : List Value} {M : am_M} {l0 l1 l2 l3 l4 l5 : Option Value} : am_run G d K_M_night (92, [l0, l1, l2, l3, l4, l5], st, M) = am_run G d K_M_night (94, [l0, l1, l2, l3, l4, l5], .int 10 :: st, M) := am_run_next (x := (.bipush 10, 2, 0, 0, 0, 0)) (by decide +kernel) rfl
theorem r_M_night_94 {G : Nat → Value} {d : Nat} {st : List Value} {M : am_M} {l0 l1 l2 l3 l4 l5 : Option Value} {a b : Int32} : am_run G d K_M_night (94, [l0, l1, l2, l3, l4, l5], .int b :: .int a :: st, M) = if b = 0 then none else am_run G d K_M_night (95, [l0, l1, l2, l3, l4, l5], .int (a / b) :: st, M) := by
  split
  · next h => exact am_run_stuck (x := (.idiv, 1, 0, 0, 0, 0)) (by decide +kernel) (if_pos h)
  · next h => exact am_run_next (x := (.idiv, 1, 0, 0, 0, 0)) (by decide +kernel) (if_neg h)
theorem r_M_night_95 {G : Nat → Value} {d : Nat} {st : List Value} {M : am_M} {l0 l1 l2 l3 l4 l5 : Option Value} {a : Nat} {i x : Int32} : am_run G d K_M_night (95, [l0, l1, l2, l3, l4, l5], .int x :: .int i :: .ref a :: st, M) = am_km G d K_M_night 96 [l0, l1, l2, l3, l4, l5] st (am_pi M a i x) := am_run_km (x := (.iastore, 1, 0, 0, 0, 0)) (by decide +kernel) rfl
theorem r_M_night_96 {G : Nat → Value} {d : Nat} {st : List Value} {M : am_M} {l1 l2 l3 l4 l5 : Option Value} {v : Value} (hv : am_isr v = true) : am_run G d K_M_night (96, [some v, l1, l2, l3, l4, l5], st, M) = am_run G d K_M_night (97, [some v, l1, l2, l3, l4, l5], v :: st, M) := by
  rcases am_isr_cases hv with ⟨q, rfl⟩ | rfl
  · exact am_run_next (x := (.aload_n 0, 1, 0, 0, 0, 0)) (by decide +kernel) rfl
  · exact am_run_next (x := (.aload_n 0, 1, 0, 0, 0, 0)) (by decide +kernel) rfl
theorem r_M_night_97 {G : Nat → Value} {d : Nat} {st : List Value} {M : am_M} {l0 l1 l2 l3 l4 l5 : Option Value} {a : Nat} : am_run G d K_M_night (97, [l0, l1, l2, l3, l4, l5], .ref a :: st, M) = am_kf G d K_M_night 100 [l0, l1, l2, l3, l4, l5] st M (am_fld M a 10 23) := am_run_kf (x := (.getfield 53, 3, 10, 23, 5042, 0)) (by decide +kernel) rfl
theorem r_M_night_100 {G : Nat → Value} {d : Nat} {st : List Value} {M : am_M} {l1 l2 l3 l4 l5 : Option Value} {v : Value} (hv : am_isr v = true) : am_run G d K_M_night (100, [some v, l1, l2, l3, l4, l5], st, M) = am_run G d K_M_night (101, [some v, l1, l2, l3, l4, l5], v :: st, M) := by
  rcases am_isr_cases hv with ⟨q, rfl⟩ | rfl
  · exact am_run_next (x := (.aload_n 0, 1, 0, 0, 0, 0)) (by decide +kernel) rfl
  · exact am_run_next (x := (.aload_n 0, 1, 0, 0, 0, 0)) (by decide +kernel) rfl
theorem r_M_night_101 {G : Nat → Value} {d : Nat} {st : List Value} {M : am_M} {l0 l1 l2 l3 l4 l5 : Option Value} {a : Nat} : am_run G d K_M_night (101, [l0, l1, l2, l3, l4, l5], .ref a :: st, M) = am_kf G d K_M_night 104 [l0, l1, l2, l3, l4, l5] st M (am_fld M a 10 27) := am_run_kf (x := (.getfield 177, 3, 10, 27, 5046, 0)) (by decide +kernel) rfl
theorem r_M_night_104 {G : Nat → Value} {d : Nat} {st : List Value} {M : am_M} {l0 l1 l3 l4 l5 : Option Value} {v : Int32} : am_run G d K_M_night (104, [l0, l1, some (.int v), l3, l4, l5], st, M) = am_run G d K_M_night (105, [l0, l1, some (.int v), l3, l4, l5], .int v :: st, M) := am_run_next (x := (.iload_n 2, 1, 0, 0, 0, 0)) (by decide +kernel) rfl
theorem r_M_night_105 {G : Nat → Value} {d : Nat} {st : List Value} {M : am_M} {l0 l1 l2 l3 l4 l5 : Option Value} : am_run G d K_M_night (105, [l0, l1, l2, l3, l4, l5], st, M) = am_run G d K_M_night (107, [l0, l1, l2, l3, l4, l5], .int 10 :: st, M) := am_run_next (x := (.bipush 10, 2, 0, 0, 0, 0)) (by decide +kernel) rfl
theorem r_M_night_107 {G : Nat → Value} {d : Nat} {st : List Value} {M : am_M} {l0 l1 l2 l3 l4 l5 : Option Value} {a b : Int32} : am_run G d K_M_night (107, [l0, l1, l2, l3, l4, l5], .int b :: .int a :: st, M) = if b = 0 then none else am_run G d K_M_night (108, [l0, l1, l2, l3, l4, l5], .int (a - a / b * b) :: st, M) := by
  split
  · next h => exact am_run_stuck (x := (.irem, 1, 0, 0, 0, 0)) (by decide +kernel) (if_pos h)
  · next h => exact am_run_next (x := (.irem, 1, 0, 0, 0, 0)) (by decide +kernel) (if_neg h)
theorem r_M_night_108 {G : Nat → Value} {d : Nat} {st : List Value} {M : am_M} {l0 l1 l2 l3 l4 l5 : Option Value} {a : Nat} {i x : Int32} : am_run G d K_M_night (108, [l0, l1, l2, l3, l4, l5], .int x :: .int i :: .ref a :: st, M) = am_km G d K_M_night 109 [l0, l1, l2, l3, l4, l5] st (am_pi M a i x) := am_run_km (x := (.iastore, 1, 0, 0, 0, 0)) (by decide +kernel) rfl
theorem r_M_night_109 {G : Nat → Value} {d : Nat} {st : List Value} {M : am_M} {l1 l2 l3 l4 l5 : Option Value} {v : Value} (hv : am_isr v = true) : am_run G d K_M_night (109, [some v, l1, l2, l3, l4, l5], st, M) = am_run G d K_M_night (110, [some v, l1, l2, l3, l4, l5], v :: st, M) := by
  rcases am_isr_cases hv with ⟨q, rfl⟩ | rfl
  · exact am_run_next (x := (.aload_n 0, 1, 0, 0, 0, 0)) (by decide +kernel) rfl
  · exact am_run_next (x := (.aload_n 0, 1, 0, 0, 0, 0)) (by decide +kernel) rfl
theorem r_M_night_110 {G : Nat → Value} {d : Nat} {st : List Value} {M : am_M} {l0 l1 l2 l3 l4 l5 : Option Value} {a : Nat} : am_run G d K_M_night (110, [l0, l1, l2, l3, l4, l5], .ref a :: st, M) = am_kf G d K_M_night 113 [l0, l1, l2, l3, l4, l5] st M (am_fld M a 10 24) := am_run_kf (x := (.getfield 56, 3, 10, 24, 5043, 0)) (by decide +kernel) rfl
theorem r_M_night_113 {G : Nat → Value} {d : Nat} {st : List Value} {M : am_M} {l1 l2 l3 l4 l5 : Option Value} {v : Value} (hv : am_isr v = true) : am_run G d K_M_night (113, [some v, l1, l2, l3, l4, l5], st, M) = am_run G d K_M_night (114, [some v, l1, l2, l3, l4, l5], v :: st, M) := by
  rcases am_isr_cases hv with ⟨q, rfl⟩ | rfl
  · exact am_run_next (x := (.aload_n 0, 1, 0, 0, 0, 0)) (by decide +kernel) rfl
  · exact am_run_next (x := (.aload_n 0, 1, 0, 0, 0, 0)) (by decide +kernel) rfl
theorem r_M_night_114 {G : Nat → Value} {d : Nat} {st : List Value} {M : am_M} {l0 l1 l2 l3 l4 l5 : Option Value} {a : Nat} : am_run G d K_M_night (114, [l0, l1, l2, l3, l4, l5], .ref a :: st, M) = am_kf G d K_M_night 117 [l0, l1, l2, l3, l4, l5] st M (am_fld M a 10 27) := am_run_kf (x := (.getfield 177, 3, 10, 27, 5046, 0)) (by decide +kernel) rfl
theorem r_M_night_117 {G : Nat → Value} {d : Nat} {st : List Value} {M : am_M} {l0 l1 l2 l4 l5 : Option Value} {v : Int32} : am_run G d K_M_night (117, [l0, l1, l2, some (.int v), l4, l5], st, M) = am_run G d K_M_night (118, [l0, l1, l2, some (.int v), l4, l5], .int v :: st, M) := am_run_next (x := (.iload_n 3, 1, 0, 0, 0, 0)) (by decide +kernel) rfl
theorem r_M_night_118 {G : Nat → Value} {d : Nat} {st : List Value} {M : am_M} {l0 l1 l2 l3 l4 l5 : Option Value} {a : Nat} {i x : Int32} : am_run G d K_M_night (118, [l0, l1, l2, l3, l4, l5], .int x :: .int i :: .ref a :: st, M) = am_km G d K_M_night 119 [l0, l1, l2, l3, l4, l5] st (am_pi M a i x) := am_run_km (x := (.iastore, 1, 0, 0, 0, 0)) (by decide +kernel) rfl
theorem r_M_night_119 {G : Nat → Value} {d : Nat} {st : List Value} {M : am_M} {l1 l2 l3 l4 l5 : Option Value} {v : Value} (hv : am_isr v = true) : am_run G d K_M_night (119, [some v, l1, l2, l3, l4, l5], st, M) = am_run G d K_M_night (120, [some v, l1, l2, l3, l4, l5], v :: st, M) := by
  rcases am_isr_cases hv with ⟨q, rfl⟩ | rfl
  · exact am_run_next (x := (.aload_n 0, 1, 0, 0, 0, 0)) (by decide +kernel) rfl
  · exact am_run_next (x := (.aload_n 0, 1, 0, 0, 0, 0)) (by decide +kernel) rfl
theorem r_M_night_120 {G : Nat → Value} {d : Nat} {st : List Value} {M : am_M} {l0 l1 l2 l3 l4 l5 : Option Value} {a : Nat} : am_run G d K_M_night (120, [l0, l1, l2, l3, l4, l5], .ref a :: st, M) = am_kf G d K_M_night 123 [l0, l1, l2, l3, l4, l5] st M (am_fld M a 10 25) := am_run_kf (x := (.getfield 59, 3, 10, 25, 5044, 0)) (by decide +kernel) rfl
theorem r_M_night_123 {G : Nat → Value} {d : Nat} {st : List Value} {M : am_M} {l1 l2 l3 l4 l5 : Option Value} {v : Value} (hv : am_isr v = true) : am_run G d K_M_night (123, [some v, l1, l2, l3, l4, l5], st, M) = am_run G d K_M_night (124, [some v, l1, l2, l3, l4, l5], v :: st, M) := by
  rcases am_isr_cases hv with ⟨q, rfl⟩ | rfl
  · exact am_run_next (x := (.aload_n 0, 1, 0, 0, 0, 0)) (by decide +kernel) rfl
  · exact am_run_next (x := (.aload_n 0, 1, 0, 0, 0, 0)) (by decide +kernel) rfl
theorem r_M_night_124 {G : Nat → Value} {d : Nat} {st : List Value} {M : am_M} {l0 l1 l2 l3 l4 l5 : Option Value} {a : Nat} : am_run G d K_M_night (124, [l0, l1, l2, l3, l4, l5], .ref a :: st, M) = am_kf G d K_M_night 127 [l0, l1, l2, l3, l4, l5] st M (am_fld M a 10 27) := am_run_kf (x := (.getfield 177, 3, 10, 27, 5046, 0)) (by decide +kernel) rfl
theorem r_M_night_127 {G : Nat → Value} {d : Nat} {st : List Value} {M : am_M} {l0 l1 l2 l3 l5 : Option Value} {v : Int32} : am_run G d K_M_night (127, [l0, l1, l2, l3, some (.int v), l5], st, M) = am_run G d K_M_night (129, [l0, l1, l2, l3, some (.int v), l5], .int v :: st, M) := am_run_next (x := (.iload 4, 2, 0, 0, 0, 0)) (by decide +kernel) rfl
theorem r_M_night_129 {G : Nat → Value} {d : Nat} {st : List Value} {M : am_M} {l0 l1 l2 l3 l4 l5 : Option Value} {a : Nat} {i x : Int32} : am_run G d K_M_night (129, [l0, l1, l2, l3, l4, l5], .int x :: .int i :: .ref a :: st, M) = am_km G d K_M_night 130 [l0, l1, l2, l3, l4, l5] st (am_pi M a i x) := am_run_km (x := (.iastore, 1, 0, 0, 0, 0)) (by decide +kernel) rfl
theorem r_M_night_130 {G : Nat → Value} {d : Nat} {st : List Value} {M : am_M} {l1 l2 l3 l4 l5 : Option Value} {v : Value} (hv : am_isr v = true) : am_run G d K_M_night (130, [some v, l1, l2, l3, l4, l5], st, M) = am_run G d K_M_night (131, [some v, l1, l2, l3, l4, l5], v :: st, M) := by
  rcases am_isr_cases hv with ⟨q, rfl⟩ | rfl
  · exact am_run_next (x := (.aload_n 0, 1, 0, 0, 0, 0)) (by decide +kernel) rfl
  · exact am_run_next (x := (.aload_n 0, 1, 0, 0, 0, 0)) (by decide +kernel) rfl
theorem r_M_night_131 {G : Nat → Value} {d : Nat} {st : List Value} {M : am_M} {l0 l1 l2 l3 l4 l5 : Option Value} {a : Nat} : am_run G d K_M_night (131, [l0, l1, l2, l3, l4, l5], .ref a :: st, M) = am_kf G d K_M_night 134 [l0, l1, l2, l3, l4, l5] st M (am_fld M a 10 26) := am_run_kf (x := (.getfield 62, 3, 10, 26, 5045, 0)) (by decide +kernel) rfl
theorem r_M_night_134 {G : Nat → Value} {d : Nat} {st : List Value} {M : am_M} {l1 l2 l3 l4 l5 : Option Value} {v : Value} (hv : am_isr v = true) : am_run G d K_M_night (134, [some v, l1, l2, l3, l4, l5], st, M) = am_run G d K_M_night (135, [some v, l1, l2, l3, l4, l5], v :: st, M) := by
  rcases am_isr_cases hv with ⟨q, rfl⟩ | rfl
  · exact am_run_next (x := (.aload_n 0, 1, 0, 0, 0, 0)) (by decide +kernel) rfl
  · exact am_run_next (x := (.aload_n 0, 1, 0, 0, 0, 0)) (by decide +kernel) rfl
theorem r_M_night_135 {G : Nat → Value} {d : Nat} {st : List Value} {M : am_M} {l0 l1 l2 l3 l4 l5 : Option Value} {a : Nat} : am_run G d K_M_night (135, [l0, l1, l2, l3, l4, l5], .ref a :: st, M) = am_kf G d K_M_night 138 [l0, l1, l2, l3, l4, l5] st M (am_fld M a 10 27) := am_run_kf (x := (.getfield 177, 3, 10, 27, 5046, 0)) (by decide +kernel) rfl
theorem r_M_night_138 {G : Nat → Value} {d : Nat} {st : List Value} {M : am_M} {l0 l1 l2 l3 l4 : Option Value} {v : Int32} : am_run G d K_M_night (138, [l0, l1, l2, l3, l4, some (.int v)], st, M) = am_run G d K_M_night (140, [l0, l1, l2, l3, l4, some (.int v)], .int v :: st, M) := am_run_next (x := (.iload 5, 2, 0, 0, 0, 0)) (by decide +kernel) rfl
theorem r_M_night_140 {G : Nat → Value} {d : Nat} {st : List Value} {M : am_M} {l0 l1 l2 l3 l4 l5 : Option Value} {a : Nat} {i x : Int32} : am_run G d K_M_night (140, [l0, l1, l2, l3, l4, l5], .int x :: .int i :: .ref a :: st, M) = am_km G d K_M_night 141 [l0, l1, l2, l3, l4, l5] st (am_pi M a i x) := am_run_km (x := (.iastore, 1, 0, 0, 0, 0)) (by decide +kernel) rfl
theorem r_M_night_141 {G : Nat → Value} {d : Nat} {st : List Value} {M : am_M} {l1 l2 l3 l4 l5 : Option Value} {v : Value} (hv : am_isr v = true) : am_run G d K_M_night (141, [some v, l1, l2, l3, l4, l5], st, M) = am_run G d K_M_night (142, [some v, l1, l2, l3, l4, l5], v :: st, M) := by
  rcases am_isr_cases hv with ⟨q, rfl⟩ | rfl
  · exact am_run_next (x := (.aload_n 0, 1, 0, 0, 0, 0)) (by decide +kernel) rfl
  · exact am_run_next (x := (.aload_n 0, 1, 0, 0, 0, 0)) (by decide +kernel) rfl
theorem r_M_night_142 {G : Nat → Value} {d : Nat} {st : List Value} {M : am_M} {l0 l1 l2 l3 l4 l5 : Option Value} {v : Value} (hv : v.category = 1) : am_run G d K_M_night (142, [l0, l1, l2, l3, l4, l5], v :: st, M) = am_run G d K_M_night (143, [l0, l1, l2, l3, l4, l5], v :: v :: st, M) := am_run_next (x := (.dup, 1, 0, 0, 0, 0)) (by decide +kernel) (if_pos hv)
theorem r_M_night_143 {G : Nat → Value} {d : Nat} {st : List Value} {M : am_M} {l0 l1 l2 l3 l4 l5 : Option Value} {a : Nat} : am_run G d K_M_night (143, [l0, l1, l2, l3, l4, l5], .ref a :: st, M) = am_kf G d K_M_night 146 [l0, l1, l2, l3, l4, l5] st M (am_fld M a 10 27) := am_run_kf (x := (.getfield 177, 3, 10, 27, 5046, 0)) (by decide +kernel) rfl
theorem r_M_night_146 {G : Nat → Value} {d : Nat} {st : List Value} {M : am_M} {l0 l1 l2 l3 l4 l5 : Option Value} : am_run G d K_M_night (146, [l0, l1, l2, l3, l4, l5], st, M) = am_run G d K_M_night (147, [l0, l1, l2, l3, l4, l5], .int 1 :: st, M) := am_run_next (x := (.iconst 1, 1, 0, 0, 0, 0)) (by decide +kernel) rfl
theorem r_M_night_147 {G : Nat → Value} {d : Nat} {st : List Value} {M : am_M} {l0 l1 l2 l3 l4 l5 : Option Value} {a b : Int32} : am_run G d K_M_night (147, [l0, l1, l2, l3, l4, l5], .int b :: .int a :: st, M) = am_run G d K_M_night (148, [l0, l1, l2, l3, l4, l5], .int (a + b) :: st, M) := am_run_next (x := (.iadd, 1, 0, 0, 0, 0)) (by decide +kernel) rfl
theorem r_M_night_148 {G : Nat → Value} {d : Nat} {st : List Value} {M : am_M} {l0 l1 l2 l3 l4 l5 : Option Value} {a : Nat} {v : Value} : am_run G d K_M_night (148, [l0, l1, l2, l3, l4, l5], v :: .ref a :: st, M) = am_km G d K_M_night 151 [l0, l1, l2, l3, l4, l5] st (am_pf M a 10 27 .int v) := am_run_km (x := (.putfield 177, 3, 10, 27, 5046, 0)) (by decide +kernel) rfl
theorem r_M_night_151 {G : Nat → Value} {d : Nat} {st : List Value} {M : am_M} {l1 l2 l3 l4 l5 : Option Value} {v : Value} (hv : am_isr v = true) : am_run G d K_M_night (151, [some v, l1, l2, l3, l4, l5], st, M) = am_run G d K_M_night (152, [some v, l1, l2, l3, l4, l5], v :: st, M) := by
  rcases am_isr_cases hv with ⟨q, rfl⟩ | rfl
  · exact am_run_next (x := (.aload_n 0, 1, 0, 0, 0, 0)) (by decide +kernel) rfl
  · exact am_run_next (x := (.aload_n 0, 1, 0, 0, 0, 0)) (by decide +kernel) rfl
theorem r_M_night_152 {G : Nat → Value} {d : Nat} {st : List Value} {M : am_M} {l0 l1 l2 l3 l4 l5 : Option Value} {a : Nat} : am_run G d K_M_night (152, [l0, l1, l2, l3, l4, l5], .ref a :: st, M) = am_kf G d K_M_night 155 [l0, l1, l2, l3, l4, l5] st M (am_fld M a 10 27) := am_run_kf (x := (.getfield 177, 3, 10, 27, 5046, 0)) (by decide +kernel) rfl
theorem r_M_night_155 {G : Nat → Value} {d : Nat} {st : List Value} {M : am_M} {l0 l1 l2 l3 l4 l5 : Option Value} : am_run G d K_M_night (155, [l0, l1, l2, l3, l4, l5], st, M) = am_run G d K_M_night (156, [l0, l1, l2, l3, l4, l5], .int 1 :: st, M) := am_run_next (x := (.iconst 1, 1, 0, 0, 0, 0)) (by decide +kernel) rfl
theorem r_M_night_156 {G : Nat → Value} {d : Nat} {st : List Value} {M : am_M} {l0 l1 l2 l3 l4 l5 : Option Value} {a b : Int32} : am_run G d K_M_night (156, [l0, l1, l2, l3, l4, l5], .int b :: .int a :: st, M) = am_run G d K_M_night (157, [l0, l1, l2, l3, l4, l5], .int (a - b) :: st, M) := am_run_next (x := (.isub, 1, 0, 0, 0, 0)) (by decide +kernel) rfl
theorem r_M_night_157 {G : Nat → Value} {d : Nat} {M : am_M} {l0 l1 l2 l3 l4 l5 : Option Value} {a : Int32} : am_run G d K_M_night (157, [l0, l1, l2, l3, l4, l5], [.int a], M) = some (some (.int a), M) := am_run_ret (x := (.ireturn, 1, 0, 0, 0, 0)) (by decide +kernel) rfl
theorem r_M_isWhere_0 {G : Nat → Value} {d : Nat} {st : List Value} {M : am_M} {l0 : Option Value} {v : Int32} : am_run G d K_M_isWhere (0, [l0, some (.int v)], st, M) = am_run G d K_M_isWhere (1, [l0, some (.int v)], .int v :: st, M) := am_run_next (x := (.iload_n 1, 1, 0, 0, 0, 0)) (by decide +kernel) rfl
theorem r_M_isWhere_1 {G : Nat → Value} {d : Nat} {st : List Value} {M : am_M} {l0 l1 : Option Value} {a : Int32} : am_run G d K_M_isWhere (1, [l0, l1], .int a :: st, M) = if a < 0 then am_run G d K_M_isWhere (27, [l0, l1], st, M) else am_run G d K_M_isWhere (4, [l0, l1], st, M) := by
  split
  · next h => exact am_run_next (x := (.ifCond .lt 26, 3, 0, 0, 0, 0)) (by decide +kernel) (am_br_t (decide_eq_true h) (by decide))
  · next h => exact am_run_next (x := (.ifCond .lt 26, 3, 0, 0, 0, 0)) (by decide +kernel) (am_br_f (decide_eq_false h) (by decide))
theorem r_M_isWhere_4 {G : Nat → Value} {d : Nat} {st : List Value} {M : am_M} {l1 : Option Value} {v : Value} (hv : am_isr v = true) : am_run G d K_M_isWhere (4, [some v, l1], st, M) = am_run G d K_M_isWhere (5, [some v, l1], v :: st, M) := by
  rcases am_isr_cases hv with ⟨q, rfl⟩ | rfl
  · exact am_run_next (x := (.aload_n 0, 1, 0, 0, 0, 0)) (by decide +kernel) rfl
  · exact am_run_next (x := (.aload_n 0, 1, 0, 0, 0, 0)) (by decide +kernel) rfl
theorem r_M_isWhere_5 {G : Nat → Value} {d : Nat} {st : List Value} {M : am_M} {l0 : Option Value} {v : Int32} : am_run G d K_M_isWhere (5, [l0, some (.int v)], st, M) = am_run G d K_M_isWhere (6, [l0, some (.int v)], .int v :: st, M) := am_run_next (x := (.iload_n 1, 1, 0, 0, 0, 0)) (by decide +kernel) rfl
theorem r_M_isWhere_6 {G : Nat → Value} {d : Nat} {st : List Value} {M : am_M} {l0 l1 : Option Value} : am_run G d K_M_isWhere (6, [l0, l1], st, M) = am_run G d K_M_isWhere (8, [l0, l1], .int 10 :: st, M) := am_run_next (x := (.bipush 10, 2, 0, 0, 0, 0)) (by decide +kernel) rfl
theorem r_M_isWhere_8 {G : Nat → Value} {d : Nat} {st : List Value} {M : am_M} {l0 l1 : Option Value} {a b : Int32} : am_run G d K_M_isWhere (8, [l0, l1], .int b :: .int a :: st, M) = if b = 0 then none else am_run G d K_M_isWhere (9, [l0, l1], .int (a / b) :: st, M) := by
  split
  · next h => exact am_run_stuck (x := (.idiv, 1, 0, 0, 0, 0)) (by decide +kernel) (if_pos h)
  · next h => exact am_run_next (x := (.idiv, 1, 0, 0, 0, 0)) (by decide +kernel) (if_neg h)
theorem r_M_isWhere_9 {G : Nat → Value} {d : Nat} {st : List Value} {M : am_M} {l0 l1 : Option Value} {q : Nat} {a0 : Int32} (hq : am_cls M q = some 10) (h8 : am_sw st ≤ 8) : am_run G d K_M_isWhere (9, [l0, l1], .int a0 :: .ref q :: st, M) = am_k G d K_M_isWhere 12 [l0, l1] st (am_ex G d K_M_isHall [.ref q, .int a0] M) := am_run_iv (i := 135) (n := 1) (pl := 5215) (Bs := [.int a0]) (z := K_M_isHall) (by decide +kernel) hq h8 rfl (Nat.le_of_ble_eq_true rfl) rfl
theorem r_M_isWhere_12 {G : Nat → Value} {d : Nat} {st : List Value} {M : am_M} {l0 l1 : Option Value} {a : Int32} : am_run G d K_M_isWhere (12, [l0, l1], .int a :: st, M) = if a = 0 then am_run G d K_M_isWhere (27, [l0, l1], st, M) else am_run G d K_M_isWhere (15, [l0, l1], st, M) := by
  split
  · next h => exact am_run_next (x := (.ifCond .eq 15, 3, 0, 0, 0, 0)) (by decide +kernel) (am_br_t (decide_eq_true h) (by decide))
  · next h => exact am_run_next (x := (.ifCond .eq 15, 3, 0, 0, 0, 0)) (by decide +kernel) (am_br_f (decide_eq_false h) (by decide))
theorem r_M_isWhere_15 {G : Nat → Value} {d : Nat} {st : List Value} {M : am_M} {l0 : Option Value} {v : Int32} : am_run G d K_M_isWhere (15, [l0, some (.int v)], st, M) = am_run G d K_M_isWhere (16, [l0, some (.int v)], .int v :: st, M) := am_run_next (x := (.iload_n 1, 1, 0, 0, 0, 0)) (by decide +kernel) rfl
theorem r_M_isWhere_16 {G : Nat → Value} {d : Nat} {st : List Value} {M : am_M} {l0 l1 : Option Value} : am_run G d K_M_isWhere (16, [l0, l1], st, M) = am_run G d K_M_isWhere (18, [l0, l1], .int 10 :: st, M) := am_run_next (x := (.bipush 10, 2, 0, 0, 0, 0)) (by decide +kernel) rfl
theorem r_M_isWhere_18 {G : Nat → Value} {d : Nat} {st : List Value} {M : am_M} {l0 l1 : Option Value} {a b : Int32} : am_run G d K_M_isWhere (18, [l0, l1], .int b :: .int a :: st, M) = if b = 0 then none else am_run G d K_M_isWhere (19, [l0, l1], .int (a - a / b * b) :: st, M) := by
  split
  · next h => exact am_run_stuck (x := (.irem, 1, 0, 0, 0, 0)) (by decide +kernel) (if_pos h)
  · next h => exact am_run_next (x := (.irem, 1, 0, 0, 0, 0)) (by decide +kernel) (if_neg h)
theorem r_M_isWhere_19 {G : Nat → Value} {d : Nat} {st : List Value} {M : am_M} {l0 l1 : Option Value} : am_run G d K_M_isWhere (19, [l0, l1], st, M) = am_run G d K_M_isWhere (20, [l0, l1], .int 3 :: st, M) := am_run_next (x := (.iconst 3, 1, 0, 0, 0, 0)) (by decide +kernel) rfl
theorem r_M_isWhere_20 {G : Nat → Value} {d : Nat} {st : List Value} {M : am_M} {l0 l1 : Option Value} {a b : Int32} : am_run G d K_M_isWhere (20, [l0, l1], .int b :: .int a :: st, M) = if b ≤ a then am_run G d K_M_isWhere (27, [l0, l1], st, M) else am_run G d K_M_isWhere (23, [l0, l1], st, M) := by
  split
  · next h => exact am_run_next (x := (.if_icmp .ge 7, 3, 0, 0, 0, 0)) (by decide +kernel) (am_br_t (decide_eq_true h) (by decide))
  · next h => exact am_run_next (x := (.if_icmp .ge 7, 3, 0, 0, 0, 0)) (by decide +kernel) (am_br_f (decide_eq_false h) (by decide))
theorem r_M_isWhere_23 {G : Nat → Value} {d : Nat} {st : List Value} {M : am_M} {l0 l1 : Option Value} : am_run G d K_M_isWhere (23, [l0, l1], st, M) = am_run G d K_M_isWhere (24, [l0, l1], .int 1 :: st, M) := am_run_next (x := (.iconst 1, 1, 0, 0, 0, 0)) (by decide +kernel) rfl
theorem r_M_isWhere_24 {G : Nat → Value} {d : Nat} {st : List Value} {M : am_M} {l0 l1 : Option Value} : am_run G d K_M_isWhere (24, [l0, l1], st, M) = am_run G d K_M_isWhere (28, [l0, l1], st, M) := am_run_next (x := (.goto 4, 3, 0, 0, 0, 0)) (by decide +kernel) rfl
theorem r_M_isWhere_27 {G : Nat → Value} {d : Nat} {st : List Value} {M : am_M} {l0 l1 : Option Value} : am_run G d K_M_isWhere (27, [l0, l1], st, M) = am_run G d K_M_isWhere (28, [l0, l1], .int 0 :: st, M) := am_run_next (x := (.iconst 0, 1, 0, 0, 0, 0)) (by decide +kernel) rfl
theorem r_M_isWhere_28 {G : Nat → Value} {d : Nat} {M : am_M} {l0 l1 : Option Value} {a : Int32} (ha : a = 0 ∨ a = 1) : am_run G d K_M_isWhere (28, [l0, l1], [.int a], M) = some (some (.int a), M) := am_run_ret (x := (.ireturn, 1, 0, 0, 0, 0)) (by decide +kernel) (if_pos (decide_eq_true ha))
theorem r_M_told_0 {G : Nat → Value} {d : Nat} {st : List Value} {M : am_M} {l1 l2 : Option Value} {v : Value} (hv : am_isr v = true) : am_run G d K_M_told (0, [some v, l1, l2], st, M) = am_run G d K_M_told (1, [some v, l1, l2], v :: st, M) := by
  rcases am_isr_cases hv with ⟨q, rfl⟩ | rfl
  · exact am_run_next (x := (.aload_n 0, 1, 0, 0, 0, 0)) (by decide +kernel) rfl
  · exact am_run_next (x := (.aload_n 0, 1, 0, 0, 0, 0)) (by decide +kernel) rfl
theorem r_M_told_1 {G : Nat → Value} {d : Nat} {st : List Value} {M : am_M} {l0 l2 : Option Value} {v : Int32} : am_run G d K_M_told (1, [l0, some (.int v), l2], st, M) = am_run G d K_M_told (2, [l0, some (.int v), l2], .int v :: st, M) := am_run_next (x := (.iload_n 1, 1, 0, 0, 0, 0)) (by decide +kernel) rfl
theorem r_M_told_2 {G : Nat → Value} {d : Nat} {st : List Value} {M : am_M} {l0 l1 l2 : Option Value} {q : Nat} {a0 : Int32} (hq : am_cls M q = some 10) (h8 : am_sw st ≤ 8) : am_run G d K_M_told (2, [l0, l1, l2], .int a0 :: .ref q :: st, M) = am_k G d K_M_told 5 [l0, l1, l2] st (am_ex G d K_M_isNight [.ref q, .int a0] M) := am_run_iv (i := 194) (n := 1) (pl := 6021) (Bs := [.int a0]) (z := K_M_isNight) (by decide +kernel) hq h8 rfl (Nat.le_of_ble_eq_true rfl) rfl
theorem r_M_told_5 {G : Nat → Value} {d : Nat} {st : List Value} {M : am_M} {l0 l1 l2 : Option Value} {a : Int32} : am_run G d K_M_told (5, [l0, l1, l2], .int a :: st, M) = if ¬ a = 0 then am_run G d K_M_told (12, [l0, l1, l2], st, M) else am_run G d K_M_told (8, [l0, l1, l2], st, M) := by
  split
  · next h => exact am_run_next (x := (.ifCond .ne 7, 3, 0, 0, 0, 0)) (by decide +kernel) (am_br_t (decide_eq_true h) (by decide))
  · next h => exact am_run_next (x := (.ifCond .ne 7, 3, 0, 0, 0, 0)) (by decide +kernel) (am_br_f (decide_eq_false h) (by decide))
theorem r_M_told_8 {G : Nat → Value} {d : Nat} {st : List Value} {M : am_M} {l0 l1 l2 : Option Value} : am_run G d K_M_told (8, [l0, l1, l2], st, M) = am_run G d K_M_told (11, [l0, l1, l2], .long (-4611686018427387904) :: st, M) := am_run_next (x := (.ldc2_w 160, 3, 0, 0, 5238, (-4611686018427387904))) (by decide +kernel) rfl
theorem r_M_told_11 {G : Nat → Value} {d : Nat} {M : am_M} {l0 l1 l2 : Option Value} {a : Int64} : am_run G d K_M_told (11, [l0, l1, l2], [.long a], M) = some (some (.long a), M) := am_run_ret (x := (.lreturn, 1, 0, 0, 0, 0)) (by decide +kernel) rfl
theorem r_M_told_12 {G : Nat → Value} {d : Nat} {st : List Value} {M : am_M} {l0 l1 : Option Value} {v : Int32} : am_run G d K_M_told (12, [l0, l1, some (.int v)], st, M) = am_run G d K_M_told (13, [l0, l1, some (.int v)], .int v :: st, M) := am_run_next (x := (.iload_n 2, 1, 0, 0, 0, 0)) (by decide +kernel) rfl
theorem r_M_told_13 {G : Nat → Value} {d : Nat} {st : List Value} {M : am_M} {l0 l1 l2 : Option Value} {a : Int32} : am_run G d K_M_told (13, [l0, l1, l2], .int a :: st, M) = if a = 0 then am_run G d K_M_told (72, [l0, l1, l2], st, M) else if a = 1 then am_run G d K_M_told (80, [l0, l1, l2], st, M) else if a = 2 then am_run G d K_M_told (88, [l0, l1, l2], st, M) else if a = 3 then am_run G d K_M_told (96, [l0, l1, l2], st, M) else if a = 4 then am_run G d K_M_told (104, [l0, l1, l2], st, M) else if a = 5 then am_run G d K_M_told (112, [l0, l1, l2], st, M) else if a = 6 then am_run G d K_M_told (120, [l0, l1, l2], st, M) else if a = 7 then am_run G d K_M_told (130, [l0, l1, l2], st, M) else if a = 8 then am_run G d K_M_told (137, [l0, l1, l2], st, M) else if a = 9 then am_run G d K_M_told (143, [l0, l1, l2], st, M) else if a = 10 then am_run G d K_M_told (157, [l0, l1, l2], st, M) else am_run G d K_M_told (171, [l0, l1, l2], st, M) := by
  by_cases h0 : a = 0
  · rw [if_pos h0]
    subst h0
    exact am_run_next (x := (.tableswitch 158 0 10 #[59, 67, 75, 83, 91, 99, 107, 117, 124, 130, 144], 59, 0, 0, 0, 0)) (by decide +kernel) rfl
  rw [if_neg h0]
  by_cases h1 : a = 1
  · rw [if_pos h1]
    subst h1
    exact am_run_next (x := (.tableswitch 158 0 10 #[59, 67, 75, 83, 91, 99, 107, 117, 124, 130, 144], 59, 0, 0, 0, 0)) (by decide +kernel) rfl
  rw [if_neg h1]
  by_cases h2 : a = 2
  · rw [if_pos h2]
    subst h2
    exact am_run_next (x := (.tableswitch 158 0 10 #[59, 67, 75, 83, 91, 99, 107, 117, 124, 130, 144], 59, 0, 0, 0, 0)) (by decide +kernel) rfl
  rw [if_neg h2]
  by_cases h3 : a = 3
  · rw [if_pos h3]
    subst h3
    exact am_run_next (x := (.tableswitch 158 0 10 #[59, 67, 75, 83, 91, 99, 107, 117, 124, 130, 144], 59, 0, 0, 0, 0)) (by decide +kernel) rfl
  rw [if_neg h3]
  by_cases h4 : a = 4
  · rw [if_pos h4]
    subst h4
    exact am_run_next (x := (.tableswitch 158 0 10 #[59, 67, 75, 83, 91, 99, 107, 117, 124, 130, 144], 59, 0, 0, 0, 0)) (by decide +kernel) rfl
  rw [if_neg h4]
  by_cases h5 : a = 5
  · rw [if_pos h5]
    subst h5
    exact am_run_next (x := (.tableswitch 158 0 10 #[59, 67, 75, 83, 91, 99, 107, 117, 124, 130, 144], 59, 0, 0, 0, 0)) (by decide +kernel) rfl
  rw [if_neg h5]
  by_cases h6 : a = 6
  · rw [if_pos h6]
    subst h6
    exact am_run_next (x := (.tableswitch 158 0 10 #[59, 67, 75, 83, 91, 99, 107, 117, 124, 130, 144], 59, 0, 0, 0, 0)) (by decide +kernel) rfl
  rw [if_neg h6]
  by_cases h7 : a = 7
  · rw [if_pos h7]
    subst h7
    exact am_run_next (x := (.tableswitch 158 0 10 #[59, 67, 75, 83, 91, 99, 107, 117, 124, 130, 144], 59, 0, 0, 0, 0)) (by decide +kernel) rfl
  rw [if_neg h7]
  by_cases h8 : a = 8
  · rw [if_pos h8]
    subst h8
    exact am_run_next (x := (.tableswitch 158 0 10 #[59, 67, 75, 83, 91, 99, 107, 117, 124, 130, 144], 59, 0, 0, 0, 0)) (by decide +kernel) rfl
  rw [if_neg h8]
  by_cases h9 : a = 9
  · rw [if_pos h9]
    subst h9
    exact am_run_next (x := (.tableswitch 158 0 10 #[59, 67, 75, 83, 91, 99, 107, 117, 124, 130, 144], 59, 0, 0, 0, 0)) (by decide +kernel) rfl
  rw [if_neg h9]
  by_cases h10 : a = 10
  · rw [if_pos h10]
    subst h10
    exact am_run_next (x := (.tableswitch 158 0 10 #[59, 67, 75, 83, 91, 99, 107, 117, 124, 130, 144], 59, 0, 0, 0, 0)) (by decide +kernel) rfl
  rw [if_neg h10]
  have g0 := am_ne_i h0 (n := 0) (by decide)
  have g1 := am_ne_i h1 (n := 1) (by decide)
  have g2 := am_ne_i h2 (n := 2) (by decide)
  have g3 := am_ne_i h3 (n := 3) (by decide)
  have g4 := am_ne_i h4 (n := 4) (by decide)
  have g5 := am_ne_i h5 (n := 5) (by decide)
  have g6 := am_ne_i h6 (n := 6) (by decide)
  have g7 := am_ne_i h7 (n := 7) (by decide)
  have g8 := am_ne_i h8 (n := 8) (by decide)
  have g9 := am_ne_i h9 (n := 9) (by decide)
  have g10 := am_ne_i h10 (n := 10) (by decide)
  exact am_run_next (x := (.tableswitch 158 0 10 #[59, 67, 75, 83, 91, 99, 107, 117, 124, 130, 144], 59, 0, 0, 0, 0)) (by decide +kernel) (if_pos (by omega))
theorem r_M_told_72 {G : Nat → Value} {d : Nat} {st : List Value} {M : am_M} {l1 l2 : Option Value} {v : Value} (hv : am_isr v = true) : am_run G d K_M_told (72, [some v, l1, l2], st, M) = am_run G d K_M_told (73, [some v, l1, l2], v :: st, M) := by
  rcases am_isr_cases hv with ⟨q, rfl⟩ | rfl
  · exact am_run_next (x := (.aload_n 0, 1, 0, 0, 0, 0)) (by decide +kernel) rfl
  · exact am_run_next (x := (.aload_n 0, 1, 0, 0, 0, 0)) (by decide +kernel) rfl
theorem r_M_told_73 {G : Nat → Value} {d : Nat} {st : List Value} {M : am_M} {l0 l1 l2 : Option Value} {a : Nat} : am_run G d K_M_told (73, [l0, l1, l2], .ref a :: st, M) = am_kf G d K_M_told 76 [l0, l1, l2] st M (am_fld M a 10 21) := am_run_kf (x := (.getfield 47, 3, 10, 21, 5040, 0)) (by decide +kernel) rfl
theorem r_M_told_76 {G : Nat → Value} {d : Nat} {st : List Value} {M : am_M} {l0 l2 : Option Value} {v : Int32} : am_run G d K_M_told (76, [l0, some (.int v), l2], st, M) = am_run G d K_M_told (77, [l0, some (.int v), l2], .int v :: st, M) := am_run_next (x := (.iload_n 1, 1, 0, 0, 0, 0)) (by decide +kernel) rfl
theorem r_M_told_77 {G : Nat → Value} {d : Nat} {st : List Value} {M : am_M} {l0 l1 l2 : Option Value} {a : Nat} {i : Int32} : am_run G d K_M_told (77, [l0, l1, l2], .int i :: .ref a :: st, M) = am_kf G d K_M_told 78 [l0, l1, l2] st M (am_ag 0 M a i) := am_run_kf (x := (.iaload, 1, 0, 0, 0, 0)) (by decide +kernel) rfl
theorem r_M_told_78 {G : Nat → Value} {d : Nat} {st : List Value} {M : am_M} {l0 l1 l2 : Option Value} {a : Int32} : am_run G d K_M_told (78, [l0, l1, l2], .int a :: st, M) = am_run G d K_M_told (79, [l0, l1, l2], .long a.toInt64 :: st, M) := am_run_next (x := (.i2l, 1, 0, 0, 0, 0)) (by decide +kernel) rfl
theorem r_M_told_79 {G : Nat → Value} {d : Nat} {M : am_M} {l0 l1 l2 : Option Value} {a : Int64} : am_run G d K_M_told (79, [l0, l1, l2], [.long a], M) = some (some (.long a), M) := am_run_ret (x := (.lreturn, 1, 0, 0, 0, 0)) (by decide +kernel) rfl
theorem r_M_told_80 {G : Nat → Value} {d : Nat} {st : List Value} {M : am_M} {l1 l2 : Option Value} {v : Value} (hv : am_isr v = true) : am_run G d K_M_told (80, [some v, l1, l2], st, M) = am_run G d K_M_told (81, [some v, l1, l2], v :: st, M) := by
  rcases am_isr_cases hv with ⟨q, rfl⟩ | rfl
  · exact am_run_next (x := (.aload_n 0, 1, 0, 0, 0, 0)) (by decide +kernel) rfl
  · exact am_run_next (x := (.aload_n 0, 1, 0, 0, 0, 0)) (by decide +kernel) rfl
theorem r_M_told_81 {G : Nat → Value} {d : Nat} {st : List Value} {M : am_M} {l0 l1 l2 : Option Value} {a : Nat} : am_run G d K_M_told (81, [l0, l1, l2], .ref a :: st, M) = am_kf G d K_M_told 84 [l0, l1, l2] st M (am_fld M a 10 22) := am_run_kf (x := (.getfield 50, 3, 10, 22, 5041, 0)) (by decide +kernel) rfl
theorem r_M_told_84 {G : Nat → Value} {d : Nat} {st : List Value} {M : am_M} {l0 l2 : Option Value} {v : Int32} : am_run G d K_M_told (84, [l0, some (.int v), l2], st, M) = am_run G d K_M_told (85, [l0, some (.int v), l2], .int v :: st, M) := am_run_next (x := (.iload_n 1, 1, 0, 0, 0, 0)) (by decide +kernel) rfl
theorem r_M_told_85 {G : Nat → Value} {d : Nat} {st : List Value} {M : am_M} {l0 l1 l2 : Option Value} {a : Nat} {i : Int32} : am_run G d K_M_told (85, [l0, l1, l2], .int i :: .ref a :: st, M) = am_kf G d K_M_told 86 [l0, l1, l2] st M (am_ag 0 M a i) := am_run_kf (x := (.iaload, 1, 0, 0, 0, 0)) (by decide +kernel) rfl
theorem r_M_told_86 {G : Nat → Value} {d : Nat} {st : List Value} {M : am_M} {l0 l1 l2 : Option Value} {a : Int32} : am_run G d K_M_told (86, [l0, l1, l2], .int a :: st, M) = am_run G d K_M_told (87, [l0, l1, l2], .long a.toInt64 :: st, M) := am_run_next (x := (.i2l, 1, 0, 0, 0, 0)) (by decide +kernel) rfl
theorem r_M_told_87 {G : Nat → Value} {d : Nat} {M : am_M} {l0 l1 l2 : Option Value} {a : Int64} : am_run G d K_M_told (87, [l0, l1, l2], [.long a], M) = some (some (.long a), M) := am_run_ret (x := (.lreturn, 1, 0, 0, 0, 0)) (by decide +kernel) rfl
theorem r_M_told_88 {G : Nat → Value} {d : Nat} {st : List Value} {M : am_M} {l1 l2 : Option Value} {v : Value} (hv : am_isr v = true) : am_run G d K_M_told (88, [some v, l1, l2], st, M) = am_run G d K_M_told (89, [some v, l1, l2], v :: st, M) := by
  rcases am_isr_cases hv with ⟨q, rfl⟩ | rfl
  · exact am_run_next (x := (.aload_n 0, 1, 0, 0, 0, 0)) (by decide +kernel) rfl
  · exact am_run_next (x := (.aload_n 0, 1, 0, 0, 0, 0)) (by decide +kernel) rfl
theorem r_M_told_89 {G : Nat → Value} {d : Nat} {st : List Value} {M : am_M} {l0 l1 l2 : Option Value} {a : Nat} : am_run G d K_M_told (89, [l0, l1, l2], .ref a :: st, M) = am_kf G d K_M_told 92 [l0, l1, l2] st M (am_fld M a 10 23) := am_run_kf (x := (.getfield 53, 3, 10, 23, 5042, 0)) (by decide +kernel) rfl
theorem r_M_told_92 {G : Nat → Value} {d : Nat} {st : List Value} {M : am_M} {l0 l2 : Option Value} {v : Int32} : am_run G d K_M_told (92, [l0, some (.int v), l2], st, M) = am_run G d K_M_told (93, [l0, some (.int v), l2], .int v :: st, M) := am_run_next (x := (.iload_n 1, 1, 0, 0, 0, 0)) (by decide +kernel) rfl
theorem r_M_told_93 {G : Nat → Value} {d : Nat} {st : List Value} {M : am_M} {l0 l1 l2 : Option Value} {a : Nat} {i : Int32} : am_run G d K_M_told (93, [l0, l1, l2], .int i :: .ref a :: st, M) = am_kf G d K_M_told 94 [l0, l1, l2] st M (am_ag 0 M a i) := am_run_kf (x := (.iaload, 1, 0, 0, 0, 0)) (by decide +kernel) rfl
theorem r_M_told_94 {G : Nat → Value} {d : Nat} {st : List Value} {M : am_M} {l0 l1 l2 : Option Value} {a : Int32} : am_run G d K_M_told (94, [l0, l1, l2], .int a :: st, M) = am_run G d K_M_told (95, [l0, l1, l2], .long a.toInt64 :: st, M) := am_run_next (x := (.i2l, 1, 0, 0, 0, 0)) (by decide +kernel) rfl
theorem r_M_told_95 {G : Nat → Value} {d : Nat} {M : am_M} {l0 l1 l2 : Option Value} {a : Int64} : am_run G d K_M_told (95, [l0, l1, l2], [.long a], M) = some (some (.long a), M) := am_run_ret (x := (.lreturn, 1, 0, 0, 0, 0)) (by decide +kernel) rfl
theorem r_M_told_96 {G : Nat → Value} {d : Nat} {st : List Value} {M : am_M} {l1 l2 : Option Value} {v : Value} (hv : am_isr v = true) : am_run G d K_M_told (96, [some v, l1, l2], st, M) = am_run G d K_M_told (97, [some v, l1, l2], v :: st, M) := by
  rcases am_isr_cases hv with ⟨q, rfl⟩ | rfl
  · exact am_run_next (x := (.aload_n 0, 1, 0, 0, 0, 0)) (by decide +kernel) rfl
  · exact am_run_next (x := (.aload_n 0, 1, 0, 0, 0, 0)) (by decide +kernel) rfl
theorem r_M_told_97 {G : Nat → Value} {d : Nat} {st : List Value} {M : am_M} {l0 l1 l2 : Option Value} {a : Nat} : am_run G d K_M_told (97, [l0, l1, l2], .ref a :: st, M) = am_kf G d K_M_told 100 [l0, l1, l2] st M (am_fld M a 10 24) := am_run_kf (x := (.getfield 56, 3, 10, 24, 5043, 0)) (by decide +kernel) rfl
theorem r_M_told_100 {G : Nat → Value} {d : Nat} {st : List Value} {M : am_M} {l0 l2 : Option Value} {v : Int32} : am_run G d K_M_told (100, [l0, some (.int v), l2], st, M) = am_run G d K_M_told (101, [l0, some (.int v), l2], .int v :: st, M) := am_run_next (x := (.iload_n 1, 1, 0, 0, 0, 0)) (by decide +kernel) rfl
theorem r_M_told_101 {G : Nat → Value} {d : Nat} {st : List Value} {M : am_M} {l0 l1 l2 : Option Value} {a : Nat} {i : Int32} : am_run G d K_M_told (101, [l0, l1, l2], .int i :: .ref a :: st, M) = am_kf G d K_M_told 102 [l0, l1, l2] st M (am_ag 0 M a i) := am_run_kf (x := (.iaload, 1, 0, 0, 0, 0)) (by decide +kernel) rfl
theorem r_M_told_102 {G : Nat → Value} {d : Nat} {st : List Value} {M : am_M} {l0 l1 l2 : Option Value} {a : Int32} : am_run G d K_M_told (102, [l0, l1, l2], .int a :: st, M) = am_run G d K_M_told (103, [l0, l1, l2], .long a.toInt64 :: st, M) := am_run_next (x := (.i2l, 1, 0, 0, 0, 0)) (by decide +kernel) rfl
theorem r_M_told_103 {G : Nat → Value} {d : Nat} {M : am_M} {l0 l1 l2 : Option Value} {a : Int64} : am_run G d K_M_told (103, [l0, l1, l2], [.long a], M) = some (some (.long a), M) := am_run_ret (x := (.lreturn, 1, 0, 0, 0, 0)) (by decide +kernel) rfl
theorem r_M_told_104 {G : Nat → Value} {d : Nat} {st : List Value} {M : am_M} {l1 l2 : Option Value} {v : Value} (hv : am_isr v = true) : am_run G d K_M_told (104, [some v, l1, l2], st, M) = am_run G d K_M_told (105, [some v, l1, l2], v :: st, M) := by
  rcases am_isr_cases hv with ⟨q, rfl⟩ | rfl
  · exact am_run_next (x := (.aload_n 0, 1, 0, 0, 0, 0)) (by decide +kernel) rfl
  · exact am_run_next (x := (.aload_n 0, 1, 0, 0, 0, 0)) (by decide +kernel) rfl
theorem r_M_told_105 {G : Nat → Value} {d : Nat} {st : List Value} {M : am_M} {l0 l1 l2 : Option Value} {a : Nat} : am_run G d K_M_told (105, [l0, l1, l2], .ref a :: st, M) = am_kf G d K_M_told 108 [l0, l1, l2] st M (am_fld M a 10 25) := am_run_kf (x := (.getfield 59, 3, 10, 25, 5044, 0)) (by decide +kernel) rfl
theorem r_M_told_108 {G : Nat → Value} {d : Nat} {st : List Value} {M : am_M} {l0 l2 : Option Value} {v : Int32} : am_run G d K_M_told (108, [l0, some (.int v), l2], st, M) = am_run G d K_M_told (109, [l0, some (.int v), l2], .int v :: st, M) := am_run_next (x := (.iload_n 1, 1, 0, 0, 0, 0)) (by decide +kernel) rfl
theorem r_M_told_109 {G : Nat → Value} {d : Nat} {st : List Value} {M : am_M} {l0 l1 l2 : Option Value} {a : Nat} {i : Int32} : am_run G d K_M_told (109, [l0, l1, l2], .int i :: .ref a :: st, M) = am_kf G d K_M_told 110 [l0, l1, l2] st M (am_ag 0 M a i) := am_run_kf (x := (.iaload, 1, 0, 0, 0, 0)) (by decide +kernel) rfl
theorem r_M_told_110 {G : Nat → Value} {d : Nat} {st : List Value} {M : am_M} {l0 l1 l2 : Option Value} {a : Int32} : am_run G d K_M_told (110, [l0, l1, l2], .int a :: st, M) = am_run G d K_M_told (111, [l0, l1, l2], .long a.toInt64 :: st, M) := am_run_next (x := (.i2l, 1, 0, 0, 0, 0)) (by decide +kernel) rfl
theorem r_M_told_111 {G : Nat → Value} {d : Nat} {M : am_M} {l0 l1 l2 : Option Value} {a : Int64} : am_run G d K_M_told (111, [l0, l1, l2], [.long a], M) = some (some (.long a), M) := am_run_ret (x := (.lreturn, 1, 0, 0, 0, 0)) (by decide +kernel) rfl
theorem r_M_told_112 {G : Nat → Value} {d : Nat} {st : List Value} {M : am_M} {l1 l2 : Option Value} {v : Value} (hv : am_isr v = true) : am_run G d K_M_told (112, [some v, l1, l2], st, M) = am_run G d K_M_told (113, [some v, l1, l2], v :: st, M) := by
  rcases am_isr_cases hv with ⟨q, rfl⟩ | rfl
  · exact am_run_next (x := (.aload_n 0, 1, 0, 0, 0, 0)) (by decide +kernel) rfl
  · exact am_run_next (x := (.aload_n 0, 1, 0, 0, 0, 0)) (by decide +kernel) rfl
theorem r_M_told_113 {G : Nat → Value} {d : Nat} {st : List Value} {M : am_M} {l0 l1 l2 : Option Value} {a : Nat} : am_run G d K_M_told (113, [l0, l1, l2], .ref a :: st, M) = am_kf G d K_M_told 116 [l0, l1, l2] st M (am_fld M a 10 26) := am_run_kf (x := (.getfield 62, 3, 10, 26, 5045, 0)) (by decide +kernel) rfl
theorem r_M_told_116 {G : Nat → Value} {d : Nat} {st : List Value} {M : am_M} {l0 l2 : Option Value} {v : Int32} : am_run G d K_M_told (116, [l0, some (.int v), l2], st, M) = am_run G d K_M_told (117, [l0, some (.int v), l2], .int v :: st, M) := am_run_next (x := (.iload_n 1, 1, 0, 0, 0, 0)) (by decide +kernel) rfl
theorem r_M_told_117 {G : Nat → Value} {d : Nat} {st : List Value} {M : am_M} {l0 l1 l2 : Option Value} {a : Nat} {i : Int32} : am_run G d K_M_told (117, [l0, l1, l2], .int i :: .ref a :: st, M) = am_kf G d K_M_told 118 [l0, l1, l2] st M (am_ag 0 M a i) := am_run_kf (x := (.iaload, 1, 0, 0, 0, 0)) (by decide +kernel) rfl
theorem r_M_told_118 {G : Nat → Value} {d : Nat} {st : List Value} {M : am_M} {l0 l1 l2 : Option Value} {a : Int32} : am_run G d K_M_told (118, [l0, l1, l2], .int a :: st, M) = am_run G d K_M_told (119, [l0, l1, l2], .long a.toInt64 :: st, M) := am_run_next (x := (.i2l, 1, 0, 0, 0, 0)) (by decide +kernel) rfl
theorem r_M_told_119 {G : Nat → Value} {d : Nat} {M : am_M} {l0 l1 l2 : Option Value} {a : Int64} : am_run G d K_M_told (119, [l0, l1, l2], [.long a], M) = some (some (.long a), M) := am_run_ret (x := (.lreturn, 1, 0, 0, 0, 0)) (by decide +kernel) rfl
theorem r_M_told_120 {G : Nat → Value} {d : Nat} {st : List Value} {M : am_M} {l1 l2 : Option Value} {v : Value} (hv : am_isr v = true) : am_run G d K_M_told (120, [some v, l1, l2], st, M) = am_run G d K_M_told (121, [some v, l1, l2], v :: st, M) := by
  rcases am_isr_cases hv with ⟨q, rfl⟩ | rfl
  · exact am_run_next (x := (.aload_n 0, 1, 0, 0, 0, 0)) (by decide +kernel) rfl
  · exact am_run_next (x := (.aload_n 0, 1, 0, 0, 0, 0)) (by decide +kernel) rfl
theorem r_M_told_121 {G : Nat → Value} {d : Nat} {st : List Value} {M : am_M} {l0 l2 : Option Value} {v : Int32} : am_run G d K_M_told (121, [l0, some (.int v), l2], st, M) = am_run G d K_M_told (122, [l0, some (.int v), l2], .int v :: st, M) := am_run_next (x := (.iload_n 1, 1, 0, 0, 0, 0)) (by decide +kernel) rfl
theorem r_M_told_122 {G : Nat → Value} {d : Nat} {st : List Value} {M : am_M} {l1 l2 : Option Value} {v : Value} (hv : am_isr v = true) : am_run G d K_M_told (122, [some v, l1, l2], st, M) = am_run G d K_M_told (123, [some v, l1, l2], v :: st, M) := by
  rcases am_isr_cases hv with ⟨q, rfl⟩ | rfl
  · exact am_run_next (x := (.aload_n 0, 1, 0, 0, 0, 0)) (by decide +kernel) rfl
  · exact am_run_next (x := (.aload_n 0, 1, 0, 0, 0, 0)) (by decide +kernel) rfl
theorem r_M_told_123 {G : Nat → Value} {d : Nat} {st : List Value} {M : am_M} {l0 l1 l2 : Option Value} {a : Nat} : am_run G d K_M_told (123, [l0, l1, l2], .ref a :: st, M) = am_kf G d K_M_told 126 [l0, l1, l2] st M (am_fld M a 10 8) := am_run_kf (x := (.getfield 114, 3, 10, 8, 5027, 0)) (by decide +kernel) rfl
theorem r_M_told_126 {G : Nat → Value} {d : Nat} {st : List Value} {M : am_M} {l0 l1 l2 : Option Value} {q : Nat} {a0 : Int32} {a1 : Int32} (hq : am_cls M q = some 10) (h8 : am_sw st ≤ 8) : am_run G d K_M_told (126, [l0, l1, l2], .int a1 :: .int a0 :: .ref q :: st, M) = am_k G d K_M_told 129 [l0, l1, l2] st (am_ex G d K_M_moreBy [.ref q, .int a0, .int a1] M) := am_run_iv (i := 187) (n := 2) (pl := 6025) (Bs := [.int a0, .int a1]) (z := K_M_moreBy) (by decide +kernel) hq h8 rfl (Nat.le_of_ble_eq_true rfl) rfl
theorem r_M_told_129 {G : Nat → Value} {d : Nat} {M : am_M} {l0 l1 l2 : Option Value} {a : Int64} : am_run G d K_M_told (129, [l0, l1, l2], [.long a], M) = some (some (.long a), M) := am_run_ret (x := (.lreturn, 1, 0, 0, 0, 0)) (by decide +kernel) rfl
theorem r_M_told_130 {G : Nat → Value} {d : Nat} {st : List Value} {M : am_M} {l1 l2 : Option Value} {v : Value} (hv : am_isr v = true) : am_run G d K_M_told (130, [some v, l1, l2], st, M) = am_run G d K_M_told (131, [some v, l1, l2], v :: st, M) := by
  rcases am_isr_cases hv with ⟨q, rfl⟩ | rfl
  · exact am_run_next (x := (.aload_n 0, 1, 0, 0, 0, 0)) (by decide +kernel) rfl
  · exact am_run_next (x := (.aload_n 0, 1, 0, 0, 0, 0)) (by decide +kernel) rfl
theorem r_M_told_131 {G : Nat → Value} {d : Nat} {st : List Value} {M : am_M} {l0 l2 : Option Value} {v : Int32} : am_run G d K_M_told (131, [l0, some (.int v), l2], st, M) = am_run G d K_M_told (132, [l0, some (.int v), l2], .int v :: st, M) := am_run_next (x := (.iload_n 1, 1, 0, 0, 0, 0)) (by decide +kernel) rfl
theorem r_M_told_132 {G : Nat → Value} {d : Nat} {st : List Value} {M : am_M} {l0 l1 l2 : Option Value} {q : Nat} {a0 : Int32} (hq : am_cls M q = some 10) (h8 : am_sw st ≤ 8) : am_run G d K_M_told (132, [l0, l1, l2], .int a0 :: .ref q :: st, M) = am_k G d K_M_told 135 [l0, l1, l2] st (am_ex G d K_M_lateOf [.ref q, .int a0] M) := am_run_iv (i := 190) (n := 1) (pl := 6029) (Bs := [.int a0]) (z := K_M_lateOf) (by decide +kernel) hq h8 rfl (Nat.le_of_ble_eq_true rfl) rfl
theorem r_M_told_135 {G : Nat → Value} {d : Nat} {st : List Value} {M : am_M} {l0 l1 l2 : Option Value} {a : Int32} : am_run G d K_M_told (135, [l0, l1, l2], .int a :: st, M) = am_run G d K_M_told (136, [l0, l1, l2], .long a.toInt64 :: st, M) := am_run_next (x := (.i2l, 1, 0, 0, 0, 0)) (by decide +kernel) rfl
theorem r_M_told_136 {G : Nat → Value} {d : Nat} {M : am_M} {l0 l1 l2 : Option Value} {a : Int64} : am_run G d K_M_told (136, [l0, l1, l2], [.long a], M) = some (some (.long a), M) := am_run_ret (x := (.lreturn, 1, 0, 0, 0, 0)) (by decide +kernel) rfl
theorem r_M_told_137 {G : Nat → Value} {d : Nat} {st : List Value} {M : am_M} {l1 l2 : Option Value} {v : Value} (hv : am_isr v = true) : am_run G d K_M_told (137, [some v, l1, l2], st, M) = am_run G d K_M_told (138, [some v, l1, l2], v :: st, M) := by
  rcases am_isr_cases hv with ⟨q, rfl⟩ | rfl
  · exact am_run_next (x := (.aload_n 0, 1, 0, 0, 0, 0)) (by decide +kernel) rfl
  · exact am_run_next (x := (.aload_n 0, 1, 0, 0, 0, 0)) (by decide +kernel) rfl
theorem r_M_told_138 {G : Nat → Value} {d : Nat} {st : List Value} {M : am_M} {l0 l2 : Option Value} {v : Int32} : am_run G d K_M_told (138, [l0, some (.int v), l2], st, M) = am_run G d K_M_told (139, [l0, some (.int v), l2], .int v :: st, M) := am_run_next (x := (.iload_n 1, 1, 0, 0, 0, 0)) (by decide +kernel) rfl
theorem r_M_told_139 {G : Nat → Value} {d : Nat} {st : List Value} {M : am_M} {l0 l1 l2 : Option Value} {q : Nat} {a0 : Int32} (hq : am_cls M q = some 10) (h8 : am_sw st ≤ 8) : am_run G d K_M_told (139, [l0, l1, l2], .int a0 :: .ref q :: st, M) = am_k G d K_M_told 142 [l0, l1, l2] st (am_ex G d K_M_dueOf [.ref q, .int a0] M) := am_run_iv (i := 197) (n := 1) (pl := 6114) (Bs := [.int a0]) (z := K_M_dueOf) (by decide +kernel) hq h8 rfl (Nat.le_of_ble_eq_true rfl) rfl
theorem r_M_told_142 {G : Nat → Value} {d : Nat} {M : am_M} {l0 l1 l2 : Option Value} {a : Int64} : am_run G d K_M_told (142, [l0, l1, l2], [.long a], M) = some (some (.long a), M) := am_run_ret (x := (.lreturn, 1, 0, 0, 0, 0)) (by decide +kernel) rfl
theorem r_M_told_143 {G : Nat → Value} {d : Nat} {st : List Value} {M : am_M} {l1 l2 : Option Value} {v : Value} (hv : am_isr v = true) : am_run G d K_M_told (143, [some v, l1, l2], st, M) = am_run G d K_M_told (144, [some v, l1, l2], v :: st, M) := by
  rcases am_isr_cases hv with ⟨q, rfl⟩ | rfl
  · exact am_run_next (x := (.aload_n 0, 1, 0, 0, 0, 0)) (by decide +kernel) rfl
  · exact am_run_next (x := (.aload_n 0, 1, 0, 0, 0, 0)) (by decide +kernel) rfl
theorem r_M_told_144 {G : Nat → Value} {d : Nat} {st : List Value} {M : am_M} {l0 l1 l2 : Option Value} {a : Nat} : am_run G d K_M_told (144, [l0, l1, l2], .ref a :: st, M) = am_kf G d K_M_told 147 [l0, l1, l2] st M (am_fld M a 10 25) := am_run_kf (x := (.getfield 59, 3, 10, 25, 5044, 0)) (by decide +kernel) rfl
theorem r_M_told_147 {G : Nat → Value} {d : Nat} {st : List Value} {M : am_M} {l0 l2 : Option Value} {v : Int32} : am_run G d K_M_told (147, [l0, some (.int v), l2], st, M) = am_run G d K_M_told (148, [l0, some (.int v), l2], .int v :: st, M) := am_run_next (x := (.iload_n 1, 1, 0, 0, 0, 0)) (by decide +kernel) rfl
theorem r_M_told_148 {G : Nat → Value} {d : Nat} {st : List Value} {M : am_M} {l0 l1 l2 : Option Value} {a : Nat} {i : Int32} : am_run G d K_M_told (148, [l0, l1, l2], .int i :: .ref a :: st, M) = am_kf G d K_M_told 149 [l0, l1, l2] st M (am_ag 0 M a i) := am_run_kf (x := (.iaload, 1, 0, 0, 0, 0)) (by decide +kernel) rfl
theorem r_M_told_149 {G : Nat → Value} {d : Nat} {st : List Value} {M : am_M} {l0 l1 l2 : Option Value} {a : Int32} : am_run G d K_M_told (149, [l0, l1, l2], .int a :: st, M) = am_run G d K_M_told (150, [l0, l1, l2], .long a.toInt64 :: st, M) := am_run_next (x := (.i2l, 1, 0, 0, 0, 0)) (by decide +kernel) rfl
theorem r_M_told_150 {G : Nat → Value} {d : Nat} {st : List Value} {M : am_M} {l1 l2 : Option Value} {v : Value} (hv : am_isr v = true) : am_run G d K_M_told (150, [some v, l1, l2], st, M) = am_run G d K_M_told (151, [some v, l1, l2], v :: st, M) := by
  rcases am_isr_cases hv with ⟨q, rfl⟩ | rfl
  · exact am_run_next (x := (.aload_n 0, 1, 0, 0, 0, 0)) (by decide +kernel) rfl
  · exact am_run_next (x := (.aload_n 0, 1, 0, 0, 0, 0)) (by decide +kernel) rfl
theorem r_M_told_151 {G : Nat → Value} {d : Nat} {st : List Value} {M : am_M} {l0 l2 : Option Value} {v : Int32} : am_run G d K_M_told (151, [l0, some (.int v), l2], st, M) = am_run G d K_M_told (152, [l0, some (.int v), l2], .int v :: st, M) := am_run_next (x := (.iload_n 1, 1, 0, 0, 0, 0)) (by decide +kernel) rfl
theorem r_M_told_152 {G : Nat → Value} {d : Nat} {st : List Value} {M : am_M} {l0 l1 l2 : Option Value} {q : Nat} {a0 : Int32} (hq : am_cls M q = some 10) (h8 : am_sw st ≤ 8) : am_run G d K_M_told (152, [l0, l1, l2], .int a0 :: .ref q :: st, M) = am_k G d K_M_told 155 [l0, l1, l2] st (am_ex G d K_M_dueOf [.ref q, .int a0] M) := am_run_iv (i := 197) (n := 1) (pl := 6114) (Bs := [.int a0]) (z := K_M_dueOf) (by decide +kernel) hq h8 rfl (Nat.le_of_ble_eq_true rfl) rfl
theorem r_M_told_155 {G : Nat → Value} {d : Nat} {st : List Value} {M : am_M} {l0 l1 l2 : Option Value} {a b : Int64} : am_run G d K_M_told (155, [l0, l1, l2], .long b :: .long a :: st, M) = am_run G d K_M_told (156, [l0, l1, l2], .long (a - b) :: st, M) := am_run_next (x := (.lsub, 1, 0, 0, 0, 0)) (by decide +kernel) rfl
theorem r_M_told_156 {G : Nat → Value} {d : Nat} {M : am_M} {l0 l1 l2 : Option Value} {a : Int64} : am_run G d K_M_told (156, [l0, l1, l2], [.long a], M) = some (some (.long a), M) := am_run_ret (x := (.lreturn, 1, 0, 0, 0, 0)) (by decide +kernel) rfl
theorem r_M_told_157 {G : Nat → Value} {d : Nat} {st : List Value} {M : am_M} {l1 l2 : Option Value} {v : Value} (hv : am_isr v = true) : am_run G d K_M_told (157, [some v, l1, l2], st, M) = am_run G d K_M_told (158, [some v, l1, l2], v :: st, M) := by
  rcases am_isr_cases hv with ⟨q, rfl⟩ | rfl
  · exact am_run_next (x := (.aload_n 0, 1, 0, 0, 0, 0)) (by decide +kernel) rfl
  · exact am_run_next (x := (.aload_n 0, 1, 0, 0, 0, 0)) (by decide +kernel) rfl
theorem r_M_told_158 {G : Nat → Value} {d : Nat} {st : List Value} {M : am_M} {l0 l2 : Option Value} {v : Int32} : am_run G d K_M_told (158, [l0, some (.int v), l2], st, M) = am_run G d K_M_told (159, [l0, some (.int v), l2], .int v :: st, M) := am_run_next (x := (.iload_n 1, 1, 0, 0, 0, 0)) (by decide +kernel) rfl
theorem r_M_told_159 {G : Nat → Value} {d : Nat} {st : List Value} {M : am_M} {l0 l1 l2 : Option Value} {q : Nat} {a0 : Int32} (hq : am_cls M q = some 10) (h8 : am_sw st ≤ 8) : am_run G d K_M_told (159, [l0, l1, l2], .int a0 :: .ref q :: st, M) = am_k G d K_M_told 162 [l0, l1, l2] st (am_ex G d K_M_isLeft [.ref q, .int a0] M) := am_run_iv (i := 201) (n := 1) (pl := 6118) (Bs := [.int a0]) (z := K_M_isLeft) (by decide +kernel) hq h8 rfl (Nat.le_of_ble_eq_true rfl) rfl
theorem r_M_told_162 {G : Nat → Value} {d : Nat} {st : List Value} {M : am_M} {l0 l1 l2 : Option Value} {a : Int32} : am_run G d K_M_told (162, [l0, l1, l2], .int a :: st, M) = if a = 0 then am_run G d K_M_told (169, [l0, l1, l2], st, M) else am_run G d K_M_told (165, [l0, l1, l2], st, M) := by
  split
  · next h => exact am_run_next (x := (.ifCond .eq 7, 3, 0, 0, 0, 0)) (by decide +kernel) (am_br_t (decide_eq_true h) (by decide))
  · next h => exact am_run_next (x := (.ifCond .eq 7, 3, 0, 0, 0, 0)) (by decide +kernel) (am_br_f (decide_eq_false h) (by decide))
theorem r_M_told_165 {G : Nat → Value} {d : Nat} {st : List Value} {M : am_M} {l0 l1 l2 : Option Value} : am_run G d K_M_told (165, [l0, l1, l2], st, M) = am_run G d K_M_told (166, [l0, l1, l2], .long 1 :: st, M) := am_run_next (x := (.lconst 1, 1, 0, 0, 0, 0)) (by decide +kernel) rfl
theorem r_M_told_166 {G : Nat → Value} {d : Nat} {st : List Value} {M : am_M} {l0 l1 l2 : Option Value} : am_run G d K_M_told (166, [l0, l1, l2], st, M) = am_run G d K_M_told (170, [l0, l1, l2], st, M) := am_run_next (x := (.goto 4, 3, 0, 0, 0, 0)) (by decide +kernel) rfl
theorem r_M_told_169 {G : Nat → Value} {d : Nat} {st : List Value} {M : am_M} {l0 l1 l2 : Option Value} : am_run G d K_M_told (169, [l0, l1, l2], st, M) = am_run G d K_M_told (170, [l0, l1, l2], .long 0 :: st, M) := am_run_next (x := (.lconst 0, 1, 0, 0, 0, 0)) (by decide +kernel) rfl
theorem r_M_told_170 {G : Nat → Value} {d : Nat} {M : am_M} {l0 l1 l2 : Option Value} {a : Int64} : am_run G d K_M_told (170, [l0, l1, l2], [.long a], M) = some (some (.long a), M) := am_run_ret (x := (.lreturn, 1, 0, 0, 0, 0)) (by decide +kernel) rfl
theorem r_M_told_171 {G : Nat → Value} {d : Nat} {st : List Value} {M : am_M} {l0 l1 l2 : Option Value} : am_run G d K_M_told (171, [l0, l1, l2], st, M) = am_run G d K_M_told (174, [l0, l1, l2], .long (-4611686018427387904) :: st, M) := am_run_next (x := (.ldc2_w 160, 3, 0, 0, 5238, (-4611686018427387904))) (by decide +kernel) rfl
theorem r_M_told_174 {G : Nat → Value} {d : Nat} {M : am_M} {l0 l1 l2 : Option Value} {a : Int64} : am_run G d K_M_told (174, [l0, l1, l2], [.long a], M) = some (some (.long a), M) := am_run_ret (x := (.lreturn, 1, 0, 0, 0, 0)) (by decide +kernel) rfl
theorem r_M_isNight_0 {G : Nat → Value} {d : Nat} {st : List Value} {M : am_M} {l0 : Option Value} {v : Int32} : am_run G d K_M_isNight (0, [l0, some (.int v)], st, M) = am_run G d K_M_isNight (1, [l0, some (.int v)], .int v :: st, M) := am_run_next (x := (.iload_n 1, 1, 0, 0, 0, 0)) (by decide +kernel) rfl
theorem r_M_isNight_1 {G : Nat → Value} {d : Nat} {st : List Value} {M : am_M} {l0 l1 : Option Value} {a : Int32} : am_run G d K_M_isNight (1, [l0, l1], .int a :: st, M) = am_run G d K_M_isNight (2, [l0, l1], .long a.toInt64 :: st, M) := am_run_next (x := (.i2l, 1, 0, 0, 0, 0)) (by decide +kernel) rfl
theorem r_M_isNight_2 {G : Nat → Value} {d : Nat} {st : List Value} {M : am_M} {l0 l1 : Option Value} : am_run G d K_M_isNight (2, [l0, l1], st, M) = am_run G d K_M_isNight (3, [l0, l1], .long 0 :: st, M) := am_run_next (x := (.lconst 0, 1, 0, 0, 0, 0)) (by decide +kernel) rfl
theorem r_M_isNight_3 {G : Nat → Value} {d : Nat} {st : List Value} {M : am_M} {l1 : Option Value} {v : Value} (hv : am_isr v = true) : am_run G d K_M_isNight (3, [some v, l1], st, M) = am_run G d K_M_isNight (4, [some v, l1], v :: st, M) := by
  rcases am_isr_cases hv with ⟨q, rfl⟩ | rfl
  · exact am_run_next (x := (.aload_n 0, 1, 0, 0, 0, 0)) (by decide +kernel) rfl
  · exact am_run_next (x := (.aload_n 0, 1, 0, 0, 0, 0)) (by decide +kernel) rfl
theorem r_M_isNight_4 {G : Nat → Value} {d : Nat} {st : List Value} {M : am_M} {l0 l1 : Option Value} {a : Nat} : am_run G d K_M_isNight (4, [l0, l1], .ref a :: st, M) = am_kf G d K_M_isNight 7 [l0, l1] st M (am_fld M a 10 27) := am_run_kf (x := (.getfield 177, 3, 10, 27, 5046, 0)) (by decide +kernel) rfl
theorem r_M_isNight_7 {G : Nat → Value} {d : Nat} {st : List Value} {M : am_M} {l0 l1 : Option Value} : am_run G d K_M_isNight (7, [l0, l1], st, M) = am_run G d K_M_isNight (8, [l0, l1], .int 1 :: st, M) := am_run_next (x := (.iconst 1, 1, 0, 0, 0, 0)) (by decide +kernel) rfl
theorem r_M_isNight_8 {G : Nat → Value} {d : Nat} {st : List Value} {M : am_M} {l0 l1 : Option Value} {a b : Int32} : am_run G d K_M_isNight (8, [l0, l1], .int b :: .int a :: st, M) = am_run G d K_M_isNight (9, [l0, l1], .int (a - b) :: st, M) := am_run_next (x := (.isub, 1, 0, 0, 0, 0)) (by decide +kernel) rfl
theorem r_M_isNight_9 {G : Nat → Value} {d : Nat} {st : List Value} {M : am_M} {l0 l1 : Option Value} {a : Int32} : am_run G d K_M_isNight (9, [l0, l1], .int a :: st, M) = am_run G d K_M_isNight (10, [l0, l1], .long a.toInt64 :: st, M) := am_run_next (x := (.i2l, 1, 0, 0, 0, 0)) (by decide +kernel) rfl
theorem r_M_isNight_10 {G : Nat → Value} {d : Nat} {st : List Value} {M : am_M} {l0 l1 : Option Value} {a0 : Int64} {a1 : Int64} {a2 : Int64} (h8 : am_sw st ≤ 8) : am_run G d K_M_isNight (10, [l0, l1], .long a2 :: .long a1 :: .long a0 :: st, M) = am_k G d K_M_isNight 13 [l0, l1] st (am_ex G d K_M_in [.long a0, .long a1, .long a2] M) := am_run_is (i := 128) (n := 3) (pl := 5200) (Bs := [.long a0, .long a1, .long a2]) (z := K_M_in) (v := 1) (by decide) (by decide) (by decide +kernel) h8 rfl (Nat.le_of_ble_eq_true rfl) rfl
theorem r_M_isNight_13 {G : Nat → Value} {d : Nat} {M : am_M} {l0 l1 : Option Value} {a : Int32} (ha : a = 0 ∨ a = 1) : am_run G d K_M_isNight (13, [l0, l1], [.int a], M) = some (some (.int a), M) := am_run_ret (x := (.ireturn, 1, 0, 0, 0, 0)) (by decide +kernel) (if_pos (decide_eq_true ha))
theorem r_M_moreBy_0 {G : Nat → Value} {d : Nat} {st : List Value} {M : am_M} {l1 l2 l3 l4 : Option Value} {v : Value} (hv : am_isr v = true) : am_run G d K_M_moreBy (0, [some v, l1, l2, l3, l4], st, M) = am_run G d K_M_moreBy (1, [some v, l1, l2, l3, l4], v :: st, M) := by
  rcases am_isr_cases hv with ⟨q, rfl⟩ | rfl
  · exact am_run_next (x := (.aload_n 0, 1, 0, 0, 0, 0)) (by decide +kernel) rfl
  · exact am_run_next (x := (.aload_n 0, 1, 0, 0, 0, 0)) (by decide +kernel) rfl
theorem r_M_moreBy_1 {G : Nat → Value} {d : Nat} {st : List Value} {M : am_M} {l0 l1 l2 l3 l4 : Option Value} {a : Nat} : am_run G d K_M_moreBy (1, [l0, l1, l2, l3, l4], .ref a :: st, M) = am_kf G d K_M_moreBy 4 [l0, l1, l2, l3, l4] st M (am_fld M a 10 24) := am_run_kf (x := (.getfield 56, 3, 10, 24, 5043, 0)) (by decide +kernel) rfl
theorem r_M_moreBy_4 {G : Nat → Value} {d : Nat} {st : List Value} {M : am_M} {l0 l2 l3 l4 : Option Value} {v : Int32} : am_run G d K_M_moreBy (4, [l0, some (.int v), l2, l3, l4], st, M) = am_run G d K_M_moreBy (5, [l0, some (.int v), l2, l3, l4], .int v :: st, M) := am_run_next (x := (.iload_n 1, 1, 0, 0, 0, 0)) (by decide +kernel) rfl
theorem r_M_moreBy_5 {G : Nat → Value} {d : Nat} {st : List Value} {M : am_M} {l0 l1 l2 l3 l4 : Option Value} {a : Nat} {i : Int32} : am_run G d K_M_moreBy (5, [l0, l1, l2, l3, l4], .int i :: .ref a :: st, M) = am_kf G d K_M_moreBy 6 [l0, l1, l2, l3, l4] st M (am_ag 0 M a i) := am_run_kf (x := (.iaload, 1, 0, 0, 0, 0)) (by decide +kernel) rfl
theorem r_M_moreBy_6 {G : Nat → Value} {d : Nat} {st : List Value} {M : am_M} {l0 l1 l2 l3 l4 : Option Value} {a : Int32} : am_run G d K_M_moreBy (6, [l0, l1, l2, l3, l4], .int a :: st, M) = am_run G d K_M_moreBy (7, [l0, l1, l2, l3, l4], .long a.toInt64 :: st, M) := am_run_next (x := (.i2l, 1, 0, 0, 0, 0)) (by decide +kernel) rfl
theorem r_M_moreBy_7 {G : Nat → Value} {d : Nat} {st : List Value} {M : am_M} {l0 l1 l3 l4 : Option Value} {v : Int32} : am_run G d K_M_moreBy (7, [l0, l1, some (.int v), l3, l4], st, M) = am_run G d K_M_moreBy (8, [l0, l1, some (.int v), l3, l4], .int v :: st, M) := am_run_next (x := (.iload_n 2, 1, 0, 0, 0, 0)) (by decide +kernel) rfl
theorem r_M_moreBy_8 {G : Nat → Value} {d : Nat} {st : List Value} {M : am_M} {l0 l1 l2 l3 l4 : Option Value} {a : Int32} : am_run G d K_M_moreBy (8, [l0, l1, l2, l3, l4], .int a :: st, M) = am_run G d K_M_moreBy (9, [l0, l1, l2, l3, l4], .long a.toInt64 :: st, M) := am_run_next (x := (.i2l, 1, 0, 0, 0, 0)) (by decide +kernel) rfl
theorem r_M_moreBy_9 {G : Nat → Value} {d : Nat} {st : List Value} {M : am_M} {l0 l1 l2 l3 l4 : Option Value} {a b : Int64} : am_run G d K_M_moreBy (9, [l0, l1, l2, l3, l4], .long b :: .long a :: st, M) = am_run G d K_M_moreBy (10, [l0, l1, l2, l3, l4], .long (a * b) :: st, M) := am_run_next (x := (.lmul, 1, 0, 0, 0, 0)) (by decide +kernel) rfl
theorem r_M_moreBy_10 {G : Nat → Value} {d : Nat} {st : List Value} {M : am_M} {l0 l1 l2 l3 l4 : Option Value} {v : Int64} (hc : am_c1 l2 = true) : am_run G d K_M_moreBy (10, [l0, l1, l2, l3, l4], .long v :: st, M) = am_run G d K_M_moreBy (11, [l0, l1, l2, some (.long v), none], st, M) := by
  rcases am_c1_cases hc with rfl | ⟨q, rfl⟩ | ⟨q, rfl⟩ | rfl
  · exact am_run_next (x := (.lstore_n 3, 1, 0, 0, 0, 0)) (by decide +kernel) rfl
  · exact am_run_next (x := (.lstore_n 3, 1, 0, 0, 0, 0)) (by decide +kernel) rfl
  · exact am_run_next (x := (.lstore_n 3, 1, 0, 0, 0, 0)) (by decide +kernel) rfl
  · exact am_run_next (x := (.lstore_n 3, 1, 0, 0, 0, 0)) (by decide +kernel) rfl
theorem r_M_moreBy_10_k {G : Nat → Value} {d : Nat} {st : List Value} {M : am_M} {l0 l1 l3 l4 : Option Value} {v : Int64} {z : Int64} : am_run G d K_M_moreBy (10, [l0, l1, some (.long z), l3, l4], .long v :: st, M) = am_run G d K_M_moreBy (11, [l0, l1, none, some (.long v), none], st, M) := am_run_next (x := (.lstore_n 3, 1, 0, 0, 0, 0)) (by decide +kernel) rfl
theorem r_M_moreBy_11 {G : Nat → Value} {d : Nat} {st : List Value} {M : am_M} {l1 l2 l3 l4 : Option Value} {v : Value} (hv : am_isr v = true) : am_run G d K_M_moreBy (11, [some v, l1, l2, l3, l4], st, M) = am_run G d K_M_moreBy (12, [some v, l1, l2, l3, l4], v :: st, M) := by
  rcases am_isr_cases hv with ⟨q, rfl⟩ | rfl
  · exact am_run_next (x := (.aload_n 0, 1, 0, 0, 0, 0)) (by decide +kernel) rfl
  · exact am_run_next (x := (.aload_n 0, 1, 0, 0, 0, 0)) (by decide +kernel) rfl
theorem r_M_moreBy_12 {G : Nat → Value} {d : Nat} {st : List Value} {M : am_M} {l0 l1 l2 l3 l4 : Option Value} {a : Nat} : am_run G d K_M_moreBy (12, [l0, l1, l2, l3, l4], .ref a :: st, M) = am_kf G d K_M_moreBy 15 [l0, l1, l2, l3, l4] st M (am_fld M a 10 21) := am_run_kf (x := (.getfield 47, 3, 10, 21, 5040, 0)) (by decide +kernel) rfl
theorem r_M_moreBy_15 {G : Nat → Value} {d : Nat} {st : List Value} {M : am_M} {l0 l2 l3 l4 : Option Value} {v : Int32} : am_run G d K_M_moreBy (15, [l0, some (.int v), l2, l3, l4], st, M) = am_run G d K_M_moreBy (16, [l0, some (.int v), l2, l3, l4], .int v :: st, M) := am_run_next (x := (.iload_n 1, 1, 0, 0, 0, 0)) (by decide +kernel) rfl
theorem r_M_moreBy_16 {G : Nat → Value} {d : Nat} {st : List Value} {M : am_M} {l0 l1 l2 l3 l4 : Option Value} {a : Nat} {i : Int32} : am_run G d K_M_moreBy (16, [l0, l1, l2, l3, l4], .int i :: .ref a :: st, M) = am_kf G d K_M_moreBy 17 [l0, l1, l2, l3, l4] st M (am_ag 0 M a i) := am_run_kf (x := (.iaload, 1, 0, 0, 0, 0)) (by decide +kernel) rfl
theorem r_M_moreBy_17 {G : Nat → Value} {d : Nat} {st : List Value} {M : am_M} {l0 l1 l2 l3 l4 : Option Value} {a : Int32} : am_run G d K_M_moreBy (17, [l0, l1, l2, l3, l4], .int a :: st, M) = if a = 1 then am_run G d K_M_moreBy (52, [l0, l1, l2, l3, l4], st, M) else if a = 2 then am_run G d K_M_moreBy (54, [l0, l1, l2, l3, l4], st, M) else if a = 3 then am_run G d K_M_moreBy (66, [l0, l1, l2, l3, l4], st, M) else if a = 4 then am_run G d K_M_moreBy (86, [l0, l1, l2, l3, l4], st, M) else if a = 5 then am_run G d K_M_moreBy (94, [l0, l1, l2, l3, l4], st, M) else am_run G d K_M_moreBy (110, [l0, l1, l2, l3, l4], st, M) := by
  by_cases h0 : a = 1
  · rw [if_pos h0]
    subst h0
    exact am_run_next (x := (.tableswitch 93 1 5 #[35, 37, 49, 69, 77], 35, 0, 0, 0, 0)) (by decide +kernel) rfl
  rw [if_neg h0]
  by_cases h1 : a = 2
  · rw [if_pos h1]
    subst h1
    exact am_run_next (x := (.tableswitch 93 1 5 #[35, 37, 49, 69, 77], 35, 0, 0, 0, 0)) (by decide +kernel) rfl
  rw [if_neg h1]
  by_cases h2 : a = 3
  · rw [if_pos h2]
    subst h2
    exact am_run_next (x := (.tableswitch 93 1 5 #[35, 37, 49, 69, 77], 35, 0, 0, 0, 0)) (by decide +kernel) rfl
  rw [if_neg h2]
  by_cases h3 : a = 4
  · rw [if_pos h3]
    subst h3
    exact am_run_next (x := (.tableswitch 93 1 5 #[35, 37, 49, 69, 77], 35, 0, 0, 0, 0)) (by decide +kernel) rfl
  rw [if_neg h3]
  by_cases h4 : a = 5
  · rw [if_pos h4]
    subst h4
    exact am_run_next (x := (.tableswitch 93 1 5 #[35, 37, 49, 69, 77], 35, 0, 0, 0, 0)) (by decide +kernel) rfl
  rw [if_neg h4]
  have g0 := am_ne_i h0 (n := 1) (by decide)
  have g1 := am_ne_i h1 (n := 2) (by decide)
  have g2 := am_ne_i h2 (n := 3) (by decide)
  have g3 := am_ne_i h3 (n := 4) (by decide)
  have g4 := am_ne_i h4 (n := 5) (by decide)
  exact am_run_next (x := (.tableswitch 93 1 5 #[35, 37, 49, 69, 77], 35, 0, 0, 0, 0)) (by decide +kernel) (if_pos (by omega))
theorem r_M_moreBy_52 {G : Nat → Value} {d : Nat} {st : List Value} {M : am_M} {l0 l1 l2 l4 : Option Value} {v : Int64} : am_run G d K_M_moreBy (52, [l0, l1, l2, some (.long v), l4], st, M) = am_run G d K_M_moreBy (53, [l0, l1, l2, some (.long v), l4], .long v :: st, M) := am_run_next (x := (.lload_n 3, 1, 0, 0, 0, 0)) (by decide +kernel) rfl
theorem r_M_moreBy_53 {G : Nat → Value} {d : Nat} {M : am_M} {l0 l1 l2 l3 l4 : Option Value} {a : Int64} : am_run G d K_M_moreBy (53, [l0, l1, l2, l3, l4], [.long a], M) = some (some (.long a), M) := am_run_ret (x := (.lreturn, 1, 0, 0, 0, 0)) (by decide +kernel) rfl
theorem r_M_moreBy_54 {G : Nat → Value} {d : Nat} {st : List Value} {M : am_M} {l1 l2 l3 l4 : Option Value} {v : Value} (hv : am_isr v = true) : am_run G d K_M_moreBy (54, [some v, l1, l2, l3, l4], st, M) = am_run G d K_M_moreBy (55, [some v, l1, l2, l3, l4], v :: st, M) := by
  rcases am_isr_cases hv with ⟨q, rfl⟩ | rfl
  · exact am_run_next (x := (.aload_n 0, 1, 0, 0, 0, 0)) (by decide +kernel) rfl
  · exact am_run_next (x := (.aload_n 0, 1, 0, 0, 0, 0)) (by decide +kernel) rfl
theorem r_M_moreBy_55 {G : Nat → Value} {d : Nat} {st : List Value} {M : am_M} {l0 l1 l2 l3 l4 : Option Value} {a : Nat} : am_run G d K_M_moreBy (55, [l0, l1, l2, l3, l4], .ref a :: st, M) = am_kf G d K_M_moreBy 58 [l0, l1, l2, l3, l4] st M (am_fld M a 10 24) := am_run_kf (x := (.getfield 56, 3, 10, 24, 5043, 0)) (by decide +kernel) rfl
theorem r_M_moreBy_58 {G : Nat → Value} {d : Nat} {st : List Value} {M : am_M} {l0 l2 l3 l4 : Option Value} {v : Int32} : am_run G d K_M_moreBy (58, [l0, some (.int v), l2, l3, l4], st, M) = am_run G d K_M_moreBy (59, [l0, some (.int v), l2, l3, l4], .int v :: st, M) := am_run_next (x := (.iload_n 1, 1, 0, 0, 0, 0)) (by decide +kernel) rfl
theorem r_M_moreBy_59 {G : Nat → Value} {d : Nat} {st : List Value} {M : am_M} {l0 l1 l2 l3 l4 : Option Value} {a : Nat} {i : Int32} : am_run G d K_M_moreBy (59, [l0, l1, l2, l3, l4], .int i :: .ref a :: st, M) = am_kf G d K_M_moreBy 60 [l0, l1, l2, l3, l4] st M (am_ag 0 M a i) := am_run_kf (x := (.iaload, 1, 0, 0, 0, 0)) (by decide +kernel) rfl
theorem r_M_moreBy_60 {G : Nat → Value} {d : Nat} {st : List Value} {M : am_M} {l0 l1 l2 l3 l4 : Option Value} {a : Int32} : am_run G d K_M_moreBy (60, [l0, l1, l2, l3, l4], .int a :: st, M) = am_run G d K_M_moreBy (61, [l0, l1, l2, l3, l4], .long a.toInt64 :: st, M) := am_run_next (x := (.i2l, 1, 0, 0, 0, 0)) (by decide +kernel) rfl
theorem r_M_moreBy_61 {G : Nat → Value} {d : Nat} {st : List Value} {M : am_M} {l0 l1 l2 l3 l4 : Option Value} : am_run G d K_M_moreBy (61, [l0, l1, l2, l3, l4], st, M) = am_run G d K_M_moreBy (64, [l0, l1, l2, l3, l4], .long 100 :: st, M) := am_run_next (x := (.ldc2_w 158, 3, 0, 0, 6003, 100)) (by decide +kernel) rfl
theorem r_M_moreBy_64 {G : Nat → Value} {d : Nat} {st : List Value} {M : am_M} {l0 l1 l2 l3 l4 : Option Value} {a b : Int64} : am_run G d K_M_moreBy (64, [l0, l1, l2, l3, l4], .long b :: .long a :: st, M) = am_run G d K_M_moreBy (65, [l0, l1, l2, l3, l4], .long (a * b) :: st, M) := am_run_next (x := (.lmul, 1, 0, 0, 0, 0)) (by decide +kernel) rfl
theorem r_M_moreBy_65 {G : Nat → Value} {d : Nat} {M : am_M} {l0 l1 l2 l3 l4 : Option Value} {a : Int64} : am_run G d K_M_moreBy (65, [l0, l1, l2, l3, l4], [.long a], M) = some (some (.long a), M) := am_run_ret (x := (.lreturn, 1, 0, 0, 0, 0)) (by decide +kernel) rfl
theorem r_M_moreBy_66 {G : Nat → Value} {d : Nat} {st : List Value} {M : am_M} {l1 l2 l3 l4 : Option Value} {v : Value} (hv : am_isr v = true) : am_run G d K_M_moreBy (66, [some v, l1, l2, l3, l4], st, M) = am_run G d K_M_moreBy (67, [some v, l1, l2, l3, l4], v :: st, M) := by
  rcases am_isr_cases hv with ⟨q, rfl⟩ | rfl
  · exact am_run_next (x := (.aload_n 0, 1, 0, 0, 0, 0)) (by decide +kernel) rfl
  · exact am_run_next (x := (.aload_n 0, 1, 0, 0, 0, 0)) (by decide +kernel) rfl
theorem r_M_moreBy_67 {G : Nat → Value} {d : Nat} {st : List Value} {M : am_M} {l0 l1 l2 l3 l4 : Option Value} {a : Nat} : am_run G d K_M_moreBy (67, [l0, l1, l2, l3, l4], .ref a :: st, M) = am_kf G d K_M_moreBy 70 [l0, l1, l2, l3, l4] st M (am_fld M a 10 24) := am_run_kf (x := (.getfield 56, 3, 10, 24, 5043, 0)) (by decide +kernel) rfl
theorem r_M_moreBy_70 {G : Nat → Value} {d : Nat} {st : List Value} {M : am_M} {l0 l2 l3 l4 : Option Value} {v : Int32} : am_run G d K_M_moreBy (70, [l0, some (.int v), l2, l3, l4], st, M) = am_run G d K_M_moreBy (71, [l0, some (.int v), l2, l3, l4], .int v :: st, M) := am_run_next (x := (.iload_n 1, 1, 0, 0, 0, 0)) (by decide +kernel) rfl
theorem r_M_moreBy_71 {G : Nat → Value} {d : Nat} {st : List Value} {M : am_M} {l0 l1 l2 l3 l4 : Option Value} {a : Nat} {i : Int32} : am_run G d K_M_moreBy (71, [l0, l1, l2, l3, l4], .int i :: .ref a :: st, M) = am_kf G d K_M_moreBy 72 [l0, l1, l2, l3, l4] st M (am_ag 0 M a i) := am_run_kf (x := (.iaload, 1, 0, 0, 0, 0)) (by decide +kernel) rfl
theorem r_M_moreBy_72 {G : Nat → Value} {d : Nat} {st : List Value} {M : am_M} {l0 l1 l2 l3 l4 : Option Value} {a : Int32} : am_run G d K_M_moreBy (72, [l0, l1, l2, l3, l4], .int a :: st, M) = am_run G d K_M_moreBy (73, [l0, l1, l2, l3, l4], .long a.toInt64 :: st, M) := am_run_next (x := (.i2l, 1, 0, 0, 0, 0)) (by decide +kernel) rfl
theorem r_M_moreBy_73 {G : Nat → Value} {d : Nat} {st : List Value} {M : am_M} {l1 l2 l3 l4 : Option Value} {v : Value} (hv : am_isr v = true) : am_run G d K_M_moreBy (73, [some v, l1, l2, l3, l4], st, M) = am_run G d K_M_moreBy (74, [some v, l1, l2, l3, l4], v :: st, M) := by
  rcases am_isr_cases hv with ⟨q, rfl⟩ | rfl
  · exact am_run_next (x := (.aload_n 0, 1, 0, 0, 0, 0)) (by decide +kernel) rfl
  · exact am_run_next (x := (.aload_n 0, 1, 0, 0, 0, 0)) (by decide +kernel) rfl
theorem r_M_moreBy_74 {G : Nat → Value} {d : Nat} {st : List Value} {M : am_M} {l0 l1 l2 l3 l4 : Option Value} {a : Nat} : am_run G d K_M_moreBy (74, [l0, l1, l2, l3, l4], .ref a :: st, M) = am_kf G d K_M_moreBy 77 [l0, l1, l2, l3, l4] st M (am_fld M a 10 9) := am_run_kf (x := (.getfield 117, 3, 10, 9, 5028, 0)) (by decide +kernel) rfl
theorem r_M_moreBy_77 {G : Nat → Value} {d : Nat} {st : List Value} {M : am_M} {l0 l1 l2 l3 l4 : Option Value} {a : Int32} : am_run G d K_M_moreBy (77, [l0, l1, l2, l3, l4], .int a :: st, M) = am_run G d K_M_moreBy (78, [l0, l1, l2, l3, l4], .long a.toInt64 :: st, M) := am_run_next (x := (.i2l, 1, 0, 0, 0, 0)) (by decide +kernel) rfl
theorem r_M_moreBy_78 {G : Nat → Value} {d : Nat} {st : List Value} {M : am_M} {l0 l1 l2 l3 l4 : Option Value} {a b : Int64} : am_run G d K_M_moreBy (78, [l0, l1, l2, l3, l4], .long b :: .long a :: st, M) = am_run G d K_M_moreBy (79, [l0, l1, l2, l3, l4], .long (a * b) :: st, M) := am_run_next (x := (.lmul, 1, 0, 0, 0, 0)) (by decide +kernel) rfl
theorem r_M_moreBy_79 {G : Nat → Value} {d : Nat} {st : List Value} {M : am_M} {l0 l1 l2 l4 : Option Value} {v : Int64} : am_run G d K_M_moreBy (79, [l0, l1, l2, some (.long v), l4], st, M) = am_run G d K_M_moreBy (80, [l0, l1, l2, some (.long v), l4], .long v :: st, M) := am_run_next (x := (.lload_n 3, 1, 0, 0, 0, 0)) (by decide +kernel) rfl
theorem r_M_moreBy_80 {G : Nat → Value} {d : Nat} {st : List Value} {M : am_M} {l0 l1 l2 l3 l4 : Option Value} : am_run G d K_M_moreBy (80, [l0, l1, l2, l3, l4], st, M) = am_run G d K_M_moreBy (83, [l0, l1, l2, l3, l4], .long 2 :: st, M) := am_run_next (x := (.ldc2_w 145, 3, 0, 0, 5209, 2)) (by decide +kernel) rfl
theorem r_M_moreBy_83 {G : Nat → Value} {d : Nat} {st : List Value} {M : am_M} {l0 l1 l2 l3 l4 : Option Value} {a b : Int64} : am_run G d K_M_moreBy (83, [l0, l1, l2, l3, l4], .long b :: .long a :: st, M) = if b = 0 then none else am_run G d K_M_moreBy (84, [l0, l1, l2, l3, l4], .long (a / b) :: st, M) := by
  split
  · next h => exact am_run_stuck (x := (.ldiv, 1, 0, 0, 0, 0)) (by decide +kernel) (if_pos h)
  · next h => exact am_run_next (x := (.ldiv, 1, 0, 0, 0, 0)) (by decide +kernel) (if_neg h)
theorem r_M_moreBy_84 {G : Nat → Value} {d : Nat} {st : List Value} {M : am_M} {l0 l1 l2 l3 l4 : Option Value} {a b : Int64} : am_run G d K_M_moreBy (84, [l0, l1, l2, l3, l4], .long b :: .long a :: st, M) = am_run G d K_M_moreBy (85, [l0, l1, l2, l3, l4], .long (a + b) :: st, M) := am_run_next (x := (.ladd, 1, 0, 0, 0, 0)) (by decide +kernel) rfl
theorem r_M_moreBy_85 {G : Nat → Value} {d : Nat} {M : am_M} {l0 l1 l2 l3 l4 : Option Value} {a : Int64} : am_run G d K_M_moreBy (85, [l0, l1, l2, l3, l4], [.long a], M) = some (some (.long a), M) := am_run_ret (x := (.lreturn, 1, 0, 0, 0, 0)) (by decide +kernel) rfl
theorem r_M_moreBy_86 {G : Nat → Value} {d : Nat} {st : List Value} {M : am_M} {l0 l1 l2 l4 : Option Value} {v : Int64} : am_run G d K_M_moreBy (86, [l0, l1, l2, some (.long v), l4], st, M) = am_run G d K_M_moreBy (87, [l0, l1, l2, some (.long v), l4], .long v :: st, M) := am_run_next (x := (.lload_n 3, 1, 0, 0, 0, 0)) (by decide +kernel) rfl
theorem r_M_moreBy_87 {G : Nat → Value} {d : Nat} {st : List Value} {M : am_M} {l1 l2 l3 l4 : Option Value} {v : Value} (hv : am_isr v = true) : am_run G d K_M_moreBy (87, [some v, l1, l2, l3, l4], st, M) = am_run G d K_M_moreBy (88, [some v, l1, l2, l3, l4], v :: st, M) := by
  rcases am_isr_cases hv with ⟨q, rfl⟩ | rfl
  · exact am_run_next (x := (.aload_n 0, 1, 0, 0, 0, 0)) (by decide +kernel) rfl
  · exact am_run_next (x := (.aload_n 0, 1, 0, 0, 0, 0)) (by decide +kernel) rfl
theorem r_M_moreBy_88 {G : Nat → Value} {d : Nat} {st : List Value} {M : am_M} {l0 l1 l2 l3 l4 : Option Value} {a : Nat} : am_run G d K_M_moreBy (88, [l0, l1, l2, l3, l4], .ref a :: st, M) = am_kf G d K_M_moreBy 91 [l0, l1, l2, l3, l4] st M (am_fld M a 10 10) := am_run_kf (x := (.getfield 120, 3, 10, 10, 5029, 0)) (by decide +kernel) rfl
theorem r_M_moreBy_91 {G : Nat → Value} {d : Nat} {st : List Value} {M : am_M} {l0 l1 l2 l3 l4 : Option Value} {a : Int32} : am_run G d K_M_moreBy (91, [l0, l1, l2, l3, l4], .int a :: st, M) = am_run G d K_M_moreBy (92, [l0, l1, l2, l3, l4], .long a.toInt64 :: st, M) := am_run_next (x := (.i2l, 1, 0, 0, 0, 0)) (by decide +kernel) rfl
theorem r_M_moreBy_92 {G : Nat → Value} {d : Nat} {st : List Value} {M : am_M} {l0 l1 l2 l3 l4 : Option Value} {a b : Int64} : am_run G d K_M_moreBy (92, [l0, l1, l2, l3, l4], .long b :: .long a :: st, M) = am_run G d K_M_moreBy (93, [l0, l1, l2, l3, l4], .long (a + b) :: st, M) := am_run_next (x := (.ladd, 1, 0, 0, 0, 0)) (by decide +kernel) rfl
theorem r_M_moreBy_93 {G : Nat → Value} {d : Nat} {M : am_M} {l0 l1 l2 l3 l4 : Option Value} {a : Int64} : am_run G d K_M_moreBy (93, [l0, l1, l2, l3, l4], [.long a], M) = some (some (.long a), M) := am_run_ret (x := (.lreturn, 1, 0, 0, 0, 0)) (by decide +kernel) rfl
theorem r_M_moreBy_94 {G : Nat → Value} {d : Nat} {st : List Value} {M : am_M} {l1 l2 l3 l4 : Option Value} {v : Value} (hv : am_isr v = true) : am_run G d K_M_moreBy (94, [some v, l1, l2, l3, l4], st, M) = am_run G d K_M_moreBy (95, [some v, l1, l2, l3, l4], v :: st, M) := by
  rcases am_isr_cases hv with ⟨q, rfl⟩ | rfl
  · exact am_run_next (x := (.aload_n 0, 1, 0, 0, 0, 0)) (by decide +kernel) rfl
  · exact am_run_next (x := (.aload_n 0, 1, 0, 0, 0, 0)) (by decide +kernel) rfl
theorem r_M_moreBy_95 {G : Nat → Value} {d : Nat} {st : List Value} {M : am_M} {l0 l1 l2 l3 l4 : Option Value} {a : Nat} : am_run G d K_M_moreBy (95, [l0, l1, l2, l3, l4], .ref a :: st, M) = am_kf G d K_M_moreBy 98 [l0, l1, l2, l3, l4] st M (am_fld M a 10 24) := am_run_kf (x := (.getfield 56, 3, 10, 24, 5043, 0)) (by decide +kernel) rfl
theorem r_M_moreBy_98 {G : Nat → Value} {d : Nat} {st : List Value} {M : am_M} {l0 l2 l3 l4 : Option Value} {v : Int32} : am_run G d K_M_moreBy (98, [l0, some (.int v), l2, l3, l4], st, M) = am_run G d K_M_moreBy (99, [l0, some (.int v), l2, l3, l4], .int v :: st, M) := am_run_next (x := (.iload_n 1, 1, 0, 0, 0, 0)) (by decide +kernel) rfl
theorem r_M_moreBy_99 {G : Nat → Value} {d : Nat} {st : List Value} {M : am_M} {l0 l1 l2 l3 l4 : Option Value} {a : Nat} {i : Int32} : am_run G d K_M_moreBy (99, [l0, l1, l2, l3, l4], .int i :: .ref a :: st, M) = am_kf G d K_M_moreBy 100 [l0, l1, l2, l3, l4] st M (am_ag 0 M a i) := am_run_kf (x := (.iaload, 1, 0, 0, 0, 0)) (by decide +kernel) rfl
theorem r_M_moreBy_100 {G : Nat → Value} {d : Nat} {st : List Value} {M : am_M} {l0 l1 l2 l3 l4 : Option Value} {a : Int32} : am_run G d K_M_moreBy (100, [l0, l1, l2, l3, l4], .int a :: st, M) = am_run G d K_M_moreBy (101, [l0, l1, l2, l3, l4], .long a.toInt64 :: st, M) := am_run_next (x := (.i2l, 1, 0, 0, 0, 0)) (by decide +kernel) rfl
theorem r_M_moreBy_101 {G : Nat → Value} {d : Nat} {st : List Value} {M : am_M} {l0 l1 l2 l3 l4 : Option Value} : am_run G d K_M_moreBy (101, [l0, l1, l2, l3, l4], st, M) = am_run G d K_M_moreBy (104, [l0, l1, l2, l3, l4], .long 100 :: st, M) := am_run_next (x := (.ldc2_w 158, 3, 0, 0, 6003, 100)) (by decide +kernel) rfl
theorem r_M_moreBy_104 {G : Nat → Value} {d : Nat} {st : List Value} {M : am_M} {l0 l1 l2 l3 l4 : Option Value} {a b : Int64} : am_run G d K_M_moreBy (104, [l0, l1, l2, l3, l4], .long b :: .long a :: st, M) = am_run G d K_M_moreBy (105, [l0, l1, l2, l3, l4], .long (a * b) :: st, M) := am_run_next (x := (.lmul, 1, 0, 0, 0, 0)) (by decide +kernel) rfl
theorem r_M_moreBy_105 {G : Nat → Value} {d : Nat} {st : List Value} {M : am_M} {l0 l1 l2 l3 l4 : Option Value} : am_run G d K_M_moreBy (105, [l0, l1, l2, l3, l4], st, M) = am_run G d K_M_moreBy (108, [l0, l1, l2, l3, l4], .long 3 :: st, M) := am_run_next (x := (.ldc2_w 154, 3, 0, 0, 5232, 3)) (by decide +kernel) rfl
theorem r_M_moreBy_108 {G : Nat → Value} {d : Nat} {st : List Value} {M : am_M} {l0 l1 l2 l3 l4 : Option Value} {a b : Int64} : am_run G d K_M_moreBy (108, [l0, l1, l2, l3, l4], .long b :: .long a :: st, M) = if b = 0 then none else am_run G d K_M_moreBy (109, [l0, l1, l2, l3, l4], .long (a / b) :: st, M) := by
  split
  · next h => exact am_run_stuck (x := (.ldiv, 1, 0, 0, 0, 0)) (by decide +kernel) (if_pos h)
  · next h => exact am_run_next (x := (.ldiv, 1, 0, 0, 0, 0)) (by decide +kernel) (if_neg h)
theorem r_M_moreBy_109 {G : Nat → Value} {d : Nat} {M : am_M} {l0 l1 l2 l3 l4 : Option Value} {a : Int64} : am_run G d K_M_moreBy (109, [l0, l1, l2, l3, l4], [.long a], M) = some (some (.long a), M) := am_run_ret (x := (.lreturn, 1, 0, 0, 0, 0)) (by decide +kernel) rfl
theorem r_M_moreBy_110 {G : Nat → Value} {d : Nat} {st : List Value} {M : am_M} {l0 l1 l2 l3 l4 : Option Value} : am_run G d K_M_moreBy (110, [l0, l1, l2, l3, l4], st, M) = am_run G d K_M_moreBy (111, [l0, l1, l2, l3, l4], .long 0 :: st, M) := am_run_next (x := (.lconst 0, 1, 0, 0, 0, 0)) (by decide +kernel) rfl
theorem r_M_moreBy_111 {G : Nat → Value} {d : Nat} {M : am_M} {l0 l1 l2 l3 l4 : Option Value} {a : Int64} : am_run G d K_M_moreBy (111, [l0, l1, l2, l3, l4], [.long a], M) = some (some (.long a), M) := am_run_ret (x := (.lreturn, 1, 0, 0, 0, 0)) (by decide +kernel) rfl
theorem r_M_lateOf_0 {G : Nat → Value} {d : Nat} {st : List Value} {M : am_M} {l1 l2 : Option Value} {v : Value} (hv : am_isr v = true) : am_run G d K_M_lateOf (0, [some v, l1, l2], st, M) = am_run G d K_M_lateOf (1, [some v, l1, l2], v :: st, M) := by
  rcases am_isr_cases hv with ⟨q, rfl⟩ | rfl
  · exact am_run_next (x := (.aload_n 0, 1, 0, 0, 0, 0)) (by decide +kernel) rfl
  · exact am_run_next (x := (.aload_n 0, 1, 0, 0, 0, 0)) (by decide +kernel) rfl
theorem r_M_lateOf_1 {G : Nat → Value} {d : Nat} {st : List Value} {M : am_M} {l1 l2 : Option Value} {v : Value} (hv : am_isr v = true) : am_run G d K_M_lateOf (1, [some v, l1, l2], st, M) = am_run G d K_M_lateOf (2, [some v, l1, l2], v :: st, M) := by
  rcases am_isr_cases hv with ⟨q, rfl⟩ | rfl
  · exact am_run_next (x := (.aload_n 0, 1, 0, 0, 0, 0)) (by decide +kernel) rfl
  · exact am_run_next (x := (.aload_n 0, 1, 0, 0, 0, 0)) (by decide +kernel) rfl
theorem r_M_lateOf_2 {G : Nat → Value} {d : Nat} {st : List Value} {M : am_M} {l0 l1 l2 : Option Value} {a : Nat} : am_run G d K_M_lateOf (2, [l0, l1, l2], .ref a :: st, M) = am_kf G d K_M_lateOf 5 [l0, l1, l2] st M (am_fld M a 10 4) := am_run_kf (x := (.getfield 180, 3, 10, 4, 5023, 0)) (by decide +kernel) rfl
theorem r_M_lateOf_5 {G : Nat → Value} {d : Nat} {st : List Value} {M : am_M} {l0 l2 : Option Value} {v : Int32} : am_run G d K_M_lateOf (5, [l0, some (.int v), l2], st, M) = am_run G d K_M_lateOf (6, [l0, some (.int v), l2], .int v :: st, M) := am_run_next (x := (.iload_n 1, 1, 0, 0, 0, 0)) (by decide +kernel) rfl
theorem r_M_lateOf_6 {G : Nat → Value} {d : Nat} {st : List Value} {M : am_M} {l0 l1 l2 : Option Value} : am_run G d K_M_lateOf (6, [l0, l1, l2], st, M) = am_run G d K_M_lateOf (7, [l0, l1, l2], .int 0 :: st, M) := am_run_next (x := (.iconst 0, 1, 0, 0, 0, 0)) (by decide +kernel) rfl
theorem r_M_lateOf_7 {G : Nat → Value} {d : Nat} {st : List Value} {M : am_M} {l0 l1 l2 : Option Value} {q : Nat} {a0 : Int32} {a1 : Int32} {a2 : Int32} (hq : am_cls M q = some 10) (h8 : am_sw st ≤ 8) : am_run G d K_M_lateOf (7, [l0, l1, l2], .int a2 :: .int a1 :: .int a0 :: .ref q :: st, M) = am_k G d K_M_lateOf 10 [l0, l1, l2] st (am_ex G d K_M_read [.ref q, .int a0, .int a1, .int a2] M) := am_run_iv (i := 183) (n := 3) (pl := 6033) (Bs := [.int a0, .int a1, .int a2]) (z := K_M_read) (by decide +kernel) hq h8 rfl (Nat.le_of_ble_eq_true rfl) rfl
theorem r_M_lateOf_10 {G : Nat → Value} {d : Nat} {st : List Value} {M : am_M} {l0 l1 l2 : Option Value} {v : Int32} (hc : am_c1 l1 = true) : am_run G d K_M_lateOf (10, [l0, l1, l2], .int v :: st, M) = am_run G d K_M_lateOf (11, [l0, l1, some (.int v)], st, M) := by
  rcases am_c1_cases hc with rfl | ⟨q, rfl⟩ | ⟨q, rfl⟩ | rfl
  · exact am_run_next (x := (.istore_n 2, 1, 0, 0, 0, 0)) (by decide +kernel) rfl
  · exact am_run_next (x := (.istore_n 2, 1, 0, 0, 0, 0)) (by decide +kernel) rfl
  · exact am_run_next (x := (.istore_n 2, 1, 0, 0, 0, 0)) (by decide +kernel) rfl
  · exact am_run_next (x := (.istore_n 2, 1, 0, 0, 0, 0)) (by decide +kernel) rfl
theorem r_M_lateOf_10_k {G : Nat → Value} {d : Nat} {st : List Value} {M : am_M} {l0 l2 : Option Value} {v : Int32} {z : Int64} : am_run G d K_M_lateOf (10, [l0, some (.long z), l2], .int v :: st, M) = am_run G d K_M_lateOf (11, [l0, none, some (.int v)], st, M) := am_run_next (x := (.istore_n 2, 1, 0, 0, 0, 0)) (by decide +kernel) rfl
theorem r_M_lateOf_11 {G : Nat → Value} {d : Nat} {st : List Value} {M : am_M} {l0 l1 : Option Value} {v : Int32} : am_run G d K_M_lateOf (11, [l0, l1, some (.int v)], st, M) = am_run G d K_M_lateOf (12, [l0, l1, some (.int v)], .int v :: st, M) := am_run_next (x := (.iload_n 2, 1, 0, 0, 0, 0)) (by decide +kernel) rfl
theorem r_M_lateOf_12 {G : Nat → Value} {d : Nat} {st : List Value} {M : am_M} {l0 l1 l2 : Option Value} {a : Int32} : am_run G d K_M_lateOf (12, [l0, l1, l2], .int a :: st, M) = if 0 ≤ a then am_run G d K_M_lateOf (19, [l0, l1, l2], st, M) else am_run G d K_M_lateOf (15, [l0, l1, l2], st, M) := by
  split
  · next h => exact am_run_next (x := (.ifCond .ge 7, 3, 0, 0, 0, 0)) (by decide +kernel) (am_br_t (decide_eq_true h) (by decide))
  · next h => exact am_run_next (x := (.ifCond .ge 7, 3, 0, 0, 0, 0)) (by decide +kernel) (am_br_f (decide_eq_false h) (by decide))
theorem r_M_lateOf_15 {G : Nat → Value} {d : Nat} {st : List Value} {M : am_M} {l0 l1 l2 : Option Value} : am_run G d K_M_lateOf (15, [l0, l1, l2], st, M) = am_run G d K_M_lateOf (16, [l0, l1, l2], .int 0 :: st, M) := am_run_next (x := (.iconst 0, 1, 0, 0, 0, 0)) (by decide +kernel) rfl
theorem r_M_lateOf_16 {G : Nat → Value} {d : Nat} {st : List Value} {M : am_M} {l0 l1 l2 : Option Value} : am_run G d K_M_lateOf (16, [l0, l1, l2], st, M) = am_run G d K_M_lateOf (33, [l0, l1, l2], st, M) := am_run_next (x := (.goto 17, 3, 0, 0, 0, 0)) (by decide +kernel) rfl
theorem r_M_lateOf_19 {G : Nat → Value} {d : Nat} {st : List Value} {M : am_M} {l0 l1 : Option Value} {v : Int32} : am_run G d K_M_lateOf (19, [l0, l1, some (.int v)], st, M) = am_run G d K_M_lateOf (20, [l0, l1, some (.int v)], .int v :: st, M) := am_run_next (x := (.iload_n 2, 1, 0, 0, 0, 0)) (by decide +kernel) rfl
theorem r_M_lateOf_20 {G : Nat → Value} {d : Nat} {st : List Value} {M : am_M} {l0 l1 l2 : Option Value} : am_run G d K_M_lateOf (20, [l0, l1, l2], st, M) = am_run G d K_M_lateOf (23, [l0, l1, l2], .int 999 :: st, M) := am_run_next (x := (.sipush 999, 3, 0, 0, 0, 0)) (by decide +kernel) rfl
theorem r_M_lateOf_23 {G : Nat → Value} {d : Nat} {st : List Value} {M : am_M} {l0 l1 l2 : Option Value} {a b : Int32} : am_run G d K_M_lateOf (23, [l0, l1, l2], .int b :: .int a :: st, M) = if a ≤ b then am_run G d K_M_lateOf (32, [l0, l1, l2], st, M) else am_run G d K_M_lateOf (26, [l0, l1, l2], st, M) := by
  split
  · next h => exact am_run_next (x := (.if_icmp .le 9, 3, 0, 0, 0, 0)) (by decide +kernel) (am_br_t (decide_eq_true h) (by decide))
  · next h => exact am_run_next (x := (.if_icmp .le 9, 3, 0, 0, 0, 0)) (by decide +kernel) (am_br_f (decide_eq_false h) (by decide))
theorem r_M_lateOf_26 {G : Nat → Value} {d : Nat} {st : List Value} {M : am_M} {l0 l1 l2 : Option Value} : am_run G d K_M_lateOf (26, [l0, l1, l2], st, M) = am_run G d K_M_lateOf (29, [l0, l1, l2], .int 999 :: st, M) := am_run_next (x := (.sipush 999, 3, 0, 0, 0, 0)) (by decide +kernel) rfl
theorem r_M_lateOf_29 {G : Nat → Value} {d : Nat} {st : List Value} {M : am_M} {l0 l1 l2 : Option Value} : am_run G d K_M_lateOf (29, [l0, l1, l2], st, M) = am_run G d K_M_lateOf (33, [l0, l1, l2], st, M) := am_run_next (x := (.goto 4, 3, 0, 0, 0, 0)) (by decide +kernel) rfl
theorem r_M_lateOf_32 {G : Nat → Value} {d : Nat} {st : List Value} {M : am_M} {l0 l1 : Option Value} {v : Int32} : am_run G d K_M_lateOf (32, [l0, l1, some (.int v)], st, M) = am_run G d K_M_lateOf (33, [l0, l1, some (.int v)], .int v :: st, M) := am_run_next (x := (.iload_n 2, 1, 0, 0, 0, 0)) (by decide +kernel) rfl
theorem r_M_lateOf_33 {G : Nat → Value} {d : Nat} {st : List Value} {M : am_M} {l0 l1 l2 : Option Value} {v : Int32} (hc : am_c1 l1 = true) : am_run G d K_M_lateOf (33, [l0, l1, l2], .int v :: st, M) = am_run G d K_M_lateOf (34, [l0, l1, some (.int v)], st, M) := by
  rcases am_c1_cases hc with rfl | ⟨q, rfl⟩ | ⟨q, rfl⟩ | rfl
  · exact am_run_next (x := (.istore_n 2, 1, 0, 0, 0, 0)) (by decide +kernel) rfl
  · exact am_run_next (x := (.istore_n 2, 1, 0, 0, 0, 0)) (by decide +kernel) rfl
  · exact am_run_next (x := (.istore_n 2, 1, 0, 0, 0, 0)) (by decide +kernel) rfl
  · exact am_run_next (x := (.istore_n 2, 1, 0, 0, 0, 0)) (by decide +kernel) rfl
theorem r_M_lateOf_33_k {G : Nat → Value} {d : Nat} {st : List Value} {M : am_M} {l0 l2 : Option Value} {v : Int32} {z : Int64} : am_run G d K_M_lateOf (33, [l0, some (.long z), l2], .int v :: st, M) = am_run G d K_M_lateOf (34, [l0, none, some (.int v)], st, M) := am_run_next (x := (.istore_n 2, 1, 0, 0, 0, 0)) (by decide +kernel) rfl
theorem r_M_lateOf_34 {G : Nat → Value} {d : Nat} {st : List Value} {M : am_M} {l1 l2 : Option Value} {v : Value} (hv : am_isr v = true) : am_run G d K_M_lateOf (34, [some v, l1, l2], st, M) = am_run G d K_M_lateOf (35, [some v, l1, l2], v :: st, M) := by
  rcases am_isr_cases hv with ⟨q, rfl⟩ | rfl
  · exact am_run_next (x := (.aload_n 0, 1, 0, 0, 0, 0)) (by decide +kernel) rfl
  · exact am_run_next (x := (.aload_n 0, 1, 0, 0, 0, 0)) (by decide +kernel) rfl
theorem r_M_lateOf_35 {G : Nat → Value} {d : Nat} {st : List Value} {M : am_M} {l0 l1 l2 : Option Value} {a : Nat} : am_run G d K_M_lateOf (35, [l0, l1, l2], .ref a :: st, M) = am_kf G d K_M_lateOf 38 [l0, l1, l2] st M (am_fld M a 10 21) := am_run_kf (x := (.getfield 47, 3, 10, 21, 5040, 0)) (by decide +kernel) rfl
theorem r_M_lateOf_38 {G : Nat → Value} {d : Nat} {st : List Value} {M : am_M} {l0 l2 : Option Value} {v : Int32} : am_run G d K_M_lateOf (38, [l0, some (.int v), l2], st, M) = am_run G d K_M_lateOf (39, [l0, some (.int v), l2], .int v :: st, M) := am_run_next (x := (.iload_n 1, 1, 0, 0, 0, 0)) (by decide +kernel) rfl
theorem r_M_lateOf_39 {G : Nat → Value} {d : Nat} {st : List Value} {M : am_M} {l0 l1 l2 : Option Value} {a : Nat} {i : Int32} : am_run G d K_M_lateOf (39, [l0, l1, l2], .int i :: .ref a :: st, M) = am_kf G d K_M_lateOf 40 [l0, l1, l2] st M (am_ag 0 M a i) := am_run_kf (x := (.iaload, 1, 0, 0, 0, 0)) (by decide +kernel) rfl
theorem r_M_lateOf_40 {G : Nat → Value} {d : Nat} {st : List Value} {M : am_M} {l0 l1 l2 : Option Value} {a : Int32} : am_run G d K_M_lateOf (40, [l0, l1, l2], .int a :: st, M) = if a = 1 then am_run G d K_M_lateOf (76, [l0, l1, l2], st, M) else if a = 2 then am_run G d K_M_lateOf (97, [l0, l1, l2], st, M) else if a = 3 then am_run G d K_M_lateOf (80, [l0, l1, l2], st, M) else if a = 4 then am_run G d K_M_lateOf (76, [l0, l1, l2], st, M) else if a = 5 then am_run G d K_M_lateOf (93, [l0, l1, l2], st, M) else am_run G d K_M_lateOf (97, [l0, l1, l2], st, M) := by
  by_cases h0 : a = 1
  · rw [if_pos h0]
    subst h0
    exact am_run_next (x := (.tableswitch 57 1 5 #[36, 57, 40, 36, 53], 36, 0, 0, 0, 0)) (by decide +kernel) rfl
  rw [if_neg h0]
  by_cases h1 : a = 2
  · rw [if_pos h1]
    subst h1
    exact am_run_next (x := (.tableswitch 57 1 5 #[36, 57, 40, 36, 53], 36, 0, 0, 0, 0)) (by decide +kernel) rfl
  rw [if_neg h1]
  by_cases h2 : a = 3
  · rw [if_pos h2]
    subst h2
    exact am_run_next (x := (.tableswitch 57 1 5 #[36, 57, 40, 36, 53], 36, 0, 0, 0, 0)) (by decide +kernel) rfl
  rw [if_neg h2]
  by_cases h3 : a = 4
  · rw [if_pos h3]
    subst h3
    exact am_run_next (x := (.tableswitch 57 1 5 #[36, 57, 40, 36, 53], 36, 0, 0, 0, 0)) (by decide +kernel) rfl
  rw [if_neg h3]
  by_cases h4 : a = 5
  · rw [if_pos h4]
    subst h4
    exact am_run_next (x := (.tableswitch 57 1 5 #[36, 57, 40, 36, 53], 36, 0, 0, 0, 0)) (by decide +kernel) rfl
  rw [if_neg h4]
  have g0 := am_ne_i h0 (n := 1) (by decide)
  have g1 := am_ne_i h1 (n := 2) (by decide)
  have g2 := am_ne_i h2 (n := 3) (by decide)
  have g3 := am_ne_i h3 (n := 4) (by decide)
  have g4 := am_ne_i h4 (n := 5) (by decide)
  exact am_run_next (x := (.tableswitch 57 1 5 #[36, 57, 40, 36, 53], 36, 0, 0, 0, 0)) (by decide +kernel) (if_pos (by omega))
theorem r_M_lateOf_76 {G : Nat → Value} {d : Nat} {st : List Value} {M : am_M} {l0 l1 : Option Value} {v : Int32} : am_run G d K_M_lateOf (76, [l0, l1, some (.int v)], st, M) = am_run G d K_M_lateOf (77, [l0, l1, some (.int v)], .int v :: st, M) := am_run_next (x := (.iload_n 2, 1, 0, 0, 0, 0)) (by decide +kernel) rfl
theorem r_M_lateOf_77 {G : Nat → Value} {d : Nat} {st : List Value} {M : am_M} {l0 l1 l2 : Option Value} : am_run G d K_M_lateOf (77, [l0, l1, l2], st, M) = am_run G d K_M_lateOf (78, [l0, l1, l2], .int 1 :: st, M) := am_run_next (x := (.iconst 1, 1, 0, 0, 0, 0)) (by decide +kernel) rfl
theorem r_M_lateOf_78 {G : Nat → Value} {d : Nat} {st : List Value} {M : am_M} {l0 l1 l2 : Option Value} {a b : Int32} : am_run G d K_M_lateOf (78, [l0, l1, l2], .int b :: .int a :: st, M) = am_run G d K_M_lateOf (79, [l0, l1, l2], .int (a + b) :: st, M) := am_run_next (x := (.iadd, 1, 0, 0, 0, 0)) (by decide +kernel) rfl
theorem r_M_lateOf_79 {G : Nat → Value} {d : Nat} {M : am_M} {l0 l1 l2 : Option Value} {a : Int32} : am_run G d K_M_lateOf (79, [l0, l1, l2], [.int a], M) = some (some (.int a), M) := am_run_ret (x := (.ireturn, 1, 0, 0, 0, 0)) (by decide +kernel) rfl
theorem r_M_lateOf_80 {G : Nat → Value} {d : Nat} {st : List Value} {M : am_M} {l0 l1 : Option Value} {v : Int32} : am_run G d K_M_lateOf (80, [l0, l1, some (.int v)], st, M) = am_run G d K_M_lateOf (81, [l0, l1, some (.int v)], .int v :: st, M) := am_run_next (x := (.iload_n 2, 1, 0, 0, 0, 0)) (by decide +kernel) rfl
theorem r_M_lateOf_81 {G : Nat → Value} {d : Nat} {st : List Value} {M : am_M} {l0 l1 l2 : Option Value} : am_run G d K_M_lateOf (81, [l0, l1, l2], st, M) = am_run G d K_M_lateOf (82, [l0, l1, l2], .int 3 :: st, M) := am_run_next (x := (.iconst 3, 1, 0, 0, 0, 0)) (by decide +kernel) rfl
theorem r_M_lateOf_82 {G : Nat → Value} {d : Nat} {st : List Value} {M : am_M} {l0 l1 l2 : Option Value} {a b : Int32} : am_run G d K_M_lateOf (82, [l0, l1, l2], .int b :: .int a :: st, M) = if a ≤ b then am_run G d K_M_lateOf (91, [l0, l1, l2], st, M) else am_run G d K_M_lateOf (85, [l0, l1, l2], st, M) := by
  split
  · next h => exact am_run_next (x := (.if_icmp .le 9, 3, 0, 0, 0, 0)) (by decide +kernel) (am_br_t (decide_eq_true h) (by decide))
  · next h => exact am_run_next (x := (.if_icmp .le 9, 3, 0, 0, 0, 0)) (by decide +kernel) (am_br_f (decide_eq_false h) (by decide))
theorem r_M_lateOf_85 {G : Nat → Value} {d : Nat} {st : List Value} {M : am_M} {l0 l1 : Option Value} {v : Int32} : am_run G d K_M_lateOf (85, [l0, l1, some (.int v)], st, M) = am_run G d K_M_lateOf (86, [l0, l1, some (.int v)], .int v :: st, M) := am_run_next (x := (.iload_n 2, 1, 0, 0, 0, 0)) (by decide +kernel) rfl
theorem r_M_lateOf_86 {G : Nat → Value} {d : Nat} {st : List Value} {M : am_M} {l0 l1 l2 : Option Value} : am_run G d K_M_lateOf (86, [l0, l1, l2], st, M) = am_run G d K_M_lateOf (87, [l0, l1, l2], .int 3 :: st, M) := am_run_next (x := (.iconst 3, 1, 0, 0, 0, 0)) (by decide +kernel) rfl
theorem r_M_lateOf_87 {G : Nat → Value} {d : Nat} {st : List Value} {M : am_M} {l0 l1 l2 : Option Value} {a b : Int32} : am_run G d K_M_lateOf (87, [l0, l1, l2], .int b :: .int a :: st, M) = am_run G d K_M_lateOf (88, [l0, l1, l2], .int (a - b) :: st, M) := am_run_next (x := (.isub, 1, 0, 0, 0, 0)) (by decide +kernel) rfl
theorem r_M_lateOf_88 {G : Nat → Value} {d : Nat} {st : List Value} {M : am_M} {l0 l1 l2 : Option Value} : am_run G d K_M_lateOf (88, [l0, l1, l2], st, M) = am_run G d K_M_lateOf (92, [l0, l1, l2], st, M) := am_run_next (x := (.goto 4, 3, 0, 0, 0, 0)) (by decide +kernel) rfl
theorem r_M_lateOf_91 {G : Nat → Value} {d : Nat} {st : List Value} {M : am_M} {l0 l1 l2 : Option Value} : am_run G d K_M_lateOf (91, [l0, l1, l2], st, M) = am_run G d K_M_lateOf (92, [l0, l1, l2], .int 0 :: st, M) := am_run_next (x := (.iconst 0, 1, 0, 0, 0, 0)) (by decide +kernel) rfl
theorem r_M_lateOf_92 {G : Nat → Value} {d : Nat} {M : am_M} {l0 l1 l2 : Option Value} {a : Int32} : am_run G d K_M_lateOf (92, [l0, l1, l2], [.int a], M) = some (some (.int a), M) := am_run_ret (x := (.ireturn, 1, 0, 0, 0, 0)) (by decide +kernel) rfl
theorem r_M_lateOf_93 {G : Nat → Value} {d : Nat} {st : List Value} {M : am_M} {l0 l1 l2 : Option Value} : am_run G d K_M_lateOf (93, [l0, l1, l2], st, M) = am_run G d K_M_lateOf (94, [l0, l1, l2], .int 2 :: st, M) := am_run_next (x := (.iconst 2, 1, 0, 0, 0, 0)) (by decide +kernel) rfl
theorem r_M_lateOf_94 {G : Nat → Value} {d : Nat} {st : List Value} {M : am_M} {l0 l1 : Option Value} {v : Int32} : am_run G d K_M_lateOf (94, [l0, l1, some (.int v)], st, M) = am_run G d K_M_lateOf (95, [l0, l1, some (.int v)], .int v :: st, M) := am_run_next (x := (.iload_n 2, 1, 0, 0, 0, 0)) (by decide +kernel) rfl
theorem r_M_lateOf_95 {G : Nat → Value} {d : Nat} {st : List Value} {M : am_M} {l0 l1 l2 : Option Value} {a b : Int32} : am_run G d K_M_lateOf (95, [l0, l1, l2], .int b :: .int a :: st, M) = am_run G d K_M_lateOf (96, [l0, l1, l2], .int (a * b) :: st, M) := am_run_next (x := (.imul, 1, 0, 0, 0, 0)) (by decide +kernel) rfl
theorem r_M_lateOf_96 {G : Nat → Value} {d : Nat} {M : am_M} {l0 l1 l2 : Option Value} {a : Int32} : am_run G d K_M_lateOf (96, [l0, l1, l2], [.int a], M) = some (some (.int a), M) := am_run_ret (x := (.ireturn, 1, 0, 0, 0, 0)) (by decide +kernel) rfl
theorem r_M_lateOf_97 {G : Nat → Value} {d : Nat} {st : List Value} {M : am_M} {l0 l1 : Option Value} {v : Int32} : am_run G d K_M_lateOf (97, [l0, l1, some (.int v)], st, M) = am_run G d K_M_lateOf (98, [l0, l1, some (.int v)], .int v :: st, M) := am_run_next (x := (.iload_n 2, 1, 0, 0, 0, 0)) (by decide +kernel) rfl
theorem r_M_lateOf_98 {G : Nat → Value} {d : Nat} {M : am_M} {l0 l1 l2 : Option Value} {a : Int32} : am_run G d K_M_lateOf (98, [l0, l1, l2], [.int a], M) = some (some (.int a), M) := am_run_ret (x := (.ireturn, 1, 0, 0, 0, 0)) (by decide +kernel) rfl
theorem r_M_read_0 {G : Nat → Value} {d : Nat} {st : List Value} {M : am_M} {l1 l2 l3 l4 l5 : Option Value} {v : Value} (hv : am_isr v = true) : am_run G d K_M_read (0, [some v, l1, l2, l3, l4, l5], st, M) = am_run G d K_M_read (1, [some v, l1, l2, l3, l4, l5], v :: st, M) := by
  rcases am_isr_cases hv with ⟨q, rfl⟩ | rfl
  · exact am_run_next (x := (.aload_n 0, 1, 0, 0, 0, 0)) (by decide +kernel) rfl
  · exact am_run_next (x := (.aload_n 0, 1, 0, 0, 0, 0)) (by decide +kernel) rfl
theorem r_M_read_1 {G : Nat → Value} {d : Nat} {st : List Value} {M : am_M} {l0 l1 l3 l4 l5 : Option Value} {v : Int32} : am_run G d K_M_read (1, [l0, l1, some (.int v), l3, l4, l5], st, M) = am_run G d K_M_read (2, [l0, l1, some (.int v), l3, l4, l5], .int v :: st, M) := am_run_next (x := (.iload_n 2, 1, 0, 0, 0, 0)) (by decide +kernel) rfl
theorem r_M_read_2 {G : Nat → Value} {d : Nat} {st : List Value} {M : am_M} {l0 l1 l2 l3 l4 l5 : Option Value} {a : Nat} {v : Value} : am_run G d K_M_read (2, [l0, l1, l2, l3, l4, l5], v :: .ref a :: st, M) = am_km G d K_M_read 5 [l0, l1, l2, l3, l4, l5] st (am_pf M a 10 37 .int v) := am_run_km (x := (.putfield 269, 3, 10, 37, 5056, 0)) (by decide +kernel) rfl
theorem r_M_read_5 {G : Nat → Value} {d : Nat} {st : List Value} {M : am_M} {l1 l2 l3 l4 l5 : Option Value} {v : Value} (hv : am_isr v = true) : am_run G d K_M_read (5, [some v, l1, l2, l3, l4, l5], st, M) = am_run G d K_M_read (6, [some v, l1, l2, l3, l4, l5], v :: st, M) := by
  rcases am_isr_cases hv with ⟨q, rfl⟩ | rfl
  · exact am_run_next (x := (.aload_n 0, 1, 0, 0, 0, 0)) (by decide +kernel) rfl
  · exact am_run_next (x := (.aload_n 0, 1, 0, 0, 0, 0)) (by decide +kernel) rfl
theorem r_M_read_6 {G : Nat → Value} {d : Nat} {st : List Value} {M : am_M} {l0 l1 l2 l3 l4 l5 : Option Value} : am_run G d K_M_read (6, [l0, l1, l2, l3, l4, l5], st, M) = am_run G d K_M_read (9, [l0, l1, l2, l3, l4, l5], .int 160 :: st, M) := am_run_next (x := (.sipush 160, 3, 0, 0, 0, 0)) (by decide +kernel) rfl
theorem r_M_read_9 {G : Nat → Value} {d : Nat} {st : List Value} {M : am_M} {l0 l2 l3 l4 l5 : Option Value} {v : Int32} : am_run G d K_M_read (9, [l0, some (.int v), l2, l3, l4, l5], st, M) = am_run G d K_M_read (10, [l0, some (.int v), l2, l3, l4, l5], .int v :: st, M) := am_run_next (x := (.iload_n 1, 1, 0, 0, 0, 0)) (by decide +kernel) rfl
theorem r_M_read_10 {G : Nat → Value} {d : Nat} {st : List Value} {M : am_M} {l0 l1 l2 l3 l4 l5 : Option Value} {a b : Int32} : am_run G d K_M_read (10, [l0, l1, l2, l3, l4, l5], .int b :: .int a :: st, M) = am_run G d K_M_read (11, [l0, l1, l2, l3, l4, l5], .int (a * b) :: st, M) := am_run_next (x := (.imul, 1, 0, 0, 0, 0)) (by decide +kernel) rfl
theorem r_M_read_11 {G : Nat → Value} {d : Nat} {st : List Value} {M : am_M} {l0 l1 l2 l3 l4 l5 : Option Value} {a : Nat} {v : Value} : am_run G d K_M_read (11, [l0, l1, l2, l3, l4, l5], v :: .ref a :: st, M) = am_km G d K_M_read 14 [l0, l1, l2, l3, l4, l5] st (am_pf M a 10 28 .int v) := am_run_km (x := (.putfield 212, 3, 10, 28, 5047, 0)) (by decide +kernel) rfl
theorem r_M_read_14 {G : Nat → Value} {d : Nat} {st : List Value} {M : am_M} {l1 l2 l3 l4 l5 : Option Value} {v : Value} (hv : am_isr v = true) : am_run G d K_M_read (14, [some v, l1, l2, l3, l4, l5], st, M) = am_run G d K_M_read (15, [some v, l1, l2, l3, l4, l5], v :: st, M) := by
  rcases am_isr_cases hv with ⟨q, rfl⟩ | rfl
  · exact am_run_next (x := (.aload_n 0, 1, 0, 0, 0, 0)) (by decide +kernel) rfl
  · exact am_run_next (x := (.aload_n 0, 1, 0, 0, 0, 0)) (by decide +kernel) rfl
theorem r_M_read_15 {G : Nat → Value} {d : Nat} {st : List Value} {M : am_M} {l1 l2 l3 l4 l5 : Option Value} {v : Value} (hv : am_isr v = true) : am_run G d K_M_read (15, [some v, l1, l2, l3, l4, l5], st, M) = am_run G d K_M_read (16, [some v, l1, l2, l3, l4, l5], v :: st, M) := by
  rcases am_isr_cases hv with ⟨q, rfl⟩ | rfl
  · exact am_run_next (x := (.aload_n 0, 1, 0, 0, 0, 0)) (by decide +kernel) rfl
  · exact am_run_next (x := (.aload_n 0, 1, 0, 0, 0, 0)) (by decide +kernel) rfl
theorem r_M_read_16 {G : Nat → Value} {d : Nat} {st : List Value} {M : am_M} {l0 l1 l2 l3 l4 l5 : Option Value} {a : Nat} : am_run G d K_M_read (16, [l0, l1, l2, l3, l4, l5], .ref a :: st, M) = am_kf G d K_M_read 19 [l0, l1, l2, l3, l4, l5] st M (am_fld M a 10 2) := am_run_kf (x := (.getfield 17, 3, 10, 2, 5021, 0)) (by decide +kernel) rfl
theorem r_M_read_19 {G : Nat → Value} {d : Nat} {st : List Value} {M : am_M} {l0 l2 l3 l4 l5 : Option Value} {v : Int32} : am_run G d K_M_read (19, [l0, some (.int v), l2, l3, l4, l5], st, M) = am_run G d K_M_read (20, [l0, some (.int v), l2, l3, l4, l5], .int v :: st, M) := am_run_next (x := (.iload_n 1, 1, 0, 0, 0, 0)) (by decide +kernel) rfl
theorem r_M_read_20 {G : Nat → Value} {d : Nat} {st : List Value} {M : am_M} {l0 l1 l2 l3 l4 l5 : Option Value} {a : Nat} {i : Int32} : am_run G d K_M_read (20, [l0, l1, l2, l3, l4, l5], .int i :: .ref a :: st, M) = am_kf G d K_M_read 21 [l0, l1, l2, l3, l4, l5] st M (am_ag 0 M a i) := am_run_kf (x := (.iaload, 1, 0, 0, 0, 0)) (by decide +kernel) rfl
theorem r_M_read_21 {G : Nat → Value} {d : Nat} {st : List Value} {M : am_M} {l0 l1 l2 l3 l4 l5 : Option Value} {a : Nat} {v : Value} : am_run G d K_M_read (21, [l0, l1, l2, l3, l4, l5], v :: .ref a :: st, M) = am_km G d K_M_read 24 [l0, l1, l2, l3, l4, l5] st (am_pf M a 10 29 .int v) := am_run_km (x := (.putfield 209, 3, 10, 29, 5048, 0)) (by decide +kernel) rfl
theorem r_M_read_24 {G : Nat → Value} {d : Nat} {st : List Value} {M : am_M} {l1 l2 l3 l4 l5 : Option Value} {v : Value} (hv : am_isr v = true) : am_run G d K_M_read (24, [some v, l1, l2, l3, l4, l5], st, M) = am_run G d K_M_read (25, [some v, l1, l2, l3, l4, l5], v :: st, M) := by
  rcases am_isr_cases hv with ⟨q, rfl⟩ | rfl
  · exact am_run_next (x := (.aload_n 0, 1, 0, 0, 0, 0)) (by decide +kernel) rfl
  · exact am_run_next (x := (.aload_n 0, 1, 0, 0, 0, 0)) (by decide +kernel) rfl
theorem r_M_read_25 {G : Nat → Value} {d : Nat} {st : List Value} {M : am_M} {l0 l1 l2 l3 l4 l5 : Option Value} : am_run G d K_M_read (25, [l0, l1, l2, l3, l4, l5], st, M) = am_run G d K_M_read (26, [l0, l1, l2, l3, l4, l5], .int 0 :: st, M) := am_run_next (x := (.iconst 0, 1, 0, 0, 0, 0)) (by decide +kernel) rfl
theorem r_M_read_26 {G : Nat → Value} {d : Nat} {st : List Value} {M : am_M} {l0 l1 l2 l3 l4 l5 : Option Value} {a : Nat} {v : Value} : am_run G d K_M_read (26, [l0, l1, l2, l3, l4, l5], v :: .ref a :: st, M) = am_km G d K_M_read 29 [l0, l1, l2, l3, l4, l5] st (am_pf M a 10 33 .int v) := am_run_km (x := (.putfield 215, 3, 10, 33, 5052, 0)) (by decide +kernel) rfl
theorem r_M_read_29 {G : Nat → Value} {d : Nat} {st : List Value} {M : am_M} {l1 l2 l3 l4 l5 : Option Value} {v : Value} (hv : am_isr v = true) : am_run G d K_M_read (29, [some v, l1, l2, l3, l4, l5], st, M) = am_run G d K_M_read (30, [some v, l1, l2, l3, l4, l5], v :: st, M) := by
  rcases am_isr_cases hv with ⟨q, rfl⟩ | rfl
  · exact am_run_next (x := (.aload_n 0, 1, 0, 0, 0, 0)) (by decide +kernel) rfl
  · exact am_run_next (x := (.aload_n 0, 1, 0, 0, 0, 0)) (by decide +kernel) rfl
theorem r_M_read_30 {G : Nat → Value} {d : Nat} {st : List Value} {M : am_M} {l0 l1 l2 l3 l4 l5 : Option Value} : am_run G d K_M_read (30, [l0, l1, l2, l3, l4, l5], st, M) = am_run G d K_M_read (31, [l0, l1, l2, l3, l4, l5], .int 0 :: st, M) := am_run_next (x := (.iconst 0, 1, 0, 0, 0, 0)) (by decide +kernel) rfl
theorem r_M_read_31 {G : Nat → Value} {d : Nat} {st : List Value} {M : am_M} {l0 l1 l2 l3 l4 l5 : Option Value} {a : Nat} {v : Value} : am_run G d K_M_read (31, [l0, l1, l2, l3, l4, l5], v :: .ref a :: st, M) = am_km G d K_M_read 34 [l0, l1, l2, l3, l4, l5] st (am_pf M a 10 34 .int v) := am_run_km (x := (.putfield 254, 3, 10, 34, 5053, 0)) (by decide +kernel) rfl
theorem r_M_read_34 {G : Nat → Value} {d : Nat} {st : List Value} {M : am_M} {l1 l2 l3 l4 l5 : Option Value} {v : Value} (hv : am_isr v = true) : am_run G d K_M_read (34, [some v, l1, l2, l3, l4, l5], st, M) = am_run G d K_M_read (35, [some v, l1, l2, l3, l4, l5], v :: st, M) := by
  rcases am_isr_cases hv with ⟨q, rfl⟩ | rfl
  · exact am_run_next (x := (.aload_n 0, 1, 0, 0, 0, 0)) (by decide +kernel) rfl
  · exact am_run_next (x := (.aload_n 0, 1, 0, 0, 0, 0)) (by decide +kernel) rfl
theorem r_M_read_35 {G : Nat → Value} {d : Nat} {st : List Value} {M : am_M} {l0 l1 l2 l3 l4 l5 : Option Value} : am_run G d K_M_read (35, [l0, l1, l2, l3, l4, l5], st, M) = am_run G d K_M_read (36, [l0, l1, l2, l3, l4, l5], .int 0 :: st, M) := am_run_next (x := (.iconst 0, 1, 0, 0, 0, 0)) (by decide +kernel) rfl
theorem r_M_read_36 {G : Nat → Value} {d : Nat} {st : List Value} {M : am_M} {l0 l1 l2 l3 l4 l5 : Option Value} {a : Nat} {v : Value} : am_run G d K_M_read (36, [l0, l1, l2, l3, l4, l5], v :: .ref a :: st, M) = am_km G d K_M_read 39 [l0, l1, l2, l3, l4, l5] st (am_pf M a 10 35 .boolean v) := am_run_km (x := (.putfield 247, 3, 10, 35, 5054, 0)) (by decide +kernel) rfl
theorem r_M_read_39 {G : Nat → Value} {d : Nat} {st : List Value} {M : am_M} {l1 l2 l3 l4 l5 : Option Value} {v : Value} (hv : am_isr v = true) : am_run G d K_M_read (39, [some v, l1, l2, l3, l4, l5], st, M) = am_run G d K_M_read (40, [some v, l1, l2, l3, l4, l5], v :: st, M) := by
  rcases am_isr_cases hv with ⟨q, rfl⟩ | rfl
  · exact am_run_next (x := (.aload_n 0, 1, 0, 0, 0, 0)) (by decide +kernel) rfl
  · exact am_run_next (x := (.aload_n 0, 1, 0, 0, 0, 0)) (by decide +kernel) rfl
theorem r_M_read_40 {G : Nat → Value} {d : Nat} {st : List Value} {M : am_M} {l0 l1 l2 l3 l4 l5 : Option Value} {q : Nat} (hq : am_cls M q = some 10) (h8 : am_sw st ≤ 8) : am_run G d K_M_read (40, [l0, l1, l2, l3, l4, l5], .ref q :: st, M) = am_k G d K_M_read 43 [l0, l1, l2, l3, l4, l5] st (am_ex G d K_M_next [.ref q] M) := am_run_iv (i := 260) (n := 0) (pl := 6037) (Bs := []) (z := K_M_next) (by decide +kernel) hq h8 rfl (Nat.le_of_ble_eq_true rfl) rfl
theorem r_M_read_43 {G : Nat → Value} {d : Nat} {st : List Value} {M : am_M} {l1 l2 l3 l4 l5 : Option Value} {v : Value} (hv : am_isr v = true) : am_run G d K_M_read (43, [some v, l1, l2, l3, l4, l5], st, M) = am_run G d K_M_read (44, [some v, l1, l2, l3, l4, l5], v :: st, M) := by
  rcases am_isr_cases hv with ⟨q, rfl⟩ | rfl
  · exact am_run_next (x := (.aload_n 0, 1, 0, 0, 0, 0)) (by decide +kernel) rfl
  · exact am_run_next (x := (.aload_n 0, 1, 0, 0, 0, 0)) (by decide +kernel) rfl
theorem r_M_read_44 {G : Nat → Value} {d : Nat} {st : List Value} {M : am_M} {l0 l1 l2 l3 l4 l5 : Option Value} : am_run G d K_M_read (44, [l0, l1, l2, l3, l4, l5], st, M) = am_run G d K_M_read (47, [l0, l1, l2, l3, l4, l5], .long 237470 :: st, M) := am_run_next (x := (.ldc2_w 321, 3, 0, 0, 6053, 237470)) (by decide +kernel) rfl
theorem r_M_read_47 {G : Nat → Value} {d : Nat} {st : List Value} {M : am_M} {l0 l1 l2 l3 l4 l5 : Option Value} {q : Nat} {a0 : Int64} (hq : am_cls M q = some 10) (h8 : am_sw st ≤ 8) : am_run G d K_M_read (47, [l0, l1, l2, l3, l4, l5], .long a0 :: .ref q :: st, M) = am_k G d K_M_read 50 [l0, l1, l2, l3, l4, l5] st (am_ex G d K_M_part [.ref q, .long a0] M) := am_run_iv (i := 323) (n := 1) (pl := 6054) (Bs := [.long a0]) (z := K_M_part) (by decide +kernel) hq h8 rfl (Nat.le_of_ble_eq_true rfl) rfl
theorem r_M_read_50 {G : Nat → Value} {d : Nat} {st : List Value} {M : am_M} {l0 l1 l2 l3 l4 l5 : Option Value} {v : Int32} (hc : am_c1 l3 = true) : am_run G d K_M_read (50, [l0, l1, l2, l3, l4, l5], .int v :: st, M) = am_run G d K_M_read (52, [l0, l1, l2, l3, some (.int v), l5], st, M) := by
  rcases am_c1_cases hc with rfl | ⟨q, rfl⟩ | ⟨q, rfl⟩ | rfl
  · exact am_run_next (x := (.istore 4, 2, 0, 0, 0, 0)) (by decide +kernel) rfl
  · exact am_run_next (x := (.istore 4, 2, 0, 0, 0, 0)) (by decide +kernel) rfl
  · exact am_run_next (x := (.istore 4, 2, 0, 0, 0, 0)) (by decide +kernel) rfl
  · exact am_run_next (x := (.istore 4, 2, 0, 0, 0, 0)) (by decide +kernel) rfl
theorem r_M_read_50_k {G : Nat → Value} {d : Nat} {st : List Value} {M : am_M} {l0 l1 l2 l4 l5 : Option Value} {v : Int32} {z : Int64} : am_run G d K_M_read (50, [l0, l1, l2, some (.long z), l4, l5], .int v :: st, M) = am_run G d K_M_read (52, [l0, l1, l2, none, some (.int v), l5], st, M) := am_run_next (x := (.istore 4, 2, 0, 0, 0, 0)) (by decide +kernel) rfl
theorem r_M_read_52 {G : Nat → Value} {d : Nat} {st : List Value} {M : am_M} {l1 l2 l3 l4 l5 : Option Value} {v : Value} (hv : am_isr v = true) : am_run G d K_M_read (52, [some v, l1, l2, l3, l4, l5], st, M) = am_run G d K_M_read (53, [some v, l1, l2, l3, l4, l5], v :: st, M) := by
  rcases am_isr_cases hv with ⟨q, rfl⟩ | rfl
  · exact am_run_next (x := (.aload_n 0, 1, 0, 0, 0, 0)) (by decide +kernel) rfl
  · exact am_run_next (x := (.aload_n 0, 1, 0, 0, 0, 0)) (by decide +kernel) rfl
theorem r_M_read_53 {G : Nat → Value} {d : Nat} {st : List Value} {M : am_M} {l0 l1 l2 l3 l4 l5 : Option Value} {a : Nat} : am_run G d K_M_read (53, [l0, l1, l2, l3, l4, l5], .ref a :: st, M) = am_kf G d K_M_read 56 [l0, l1, l2, l3, l4, l5] st M (am_fld M a 10 35) := am_run_kf (x := (.getfield 247, 3, 10, 35, 5054, 0)) (by decide +kernel) rfl
theorem r_M_read_56 {G : Nat → Value} {d : Nat} {st : List Value} {M : am_M} {l0 l1 l2 l3 l4 l5 : Option Value} {a : Int32} : am_run G d K_M_read (56, [l0, l1, l2, l3, l4, l5], .int a :: st, M) = if a = 0 then am_run G d K_M_read (63, [l0, l1, l2, l3, l4, l5], st, M) else am_run G d K_M_read (59, [l0, l1, l2, l3, l4, l5], st, M) := by
  split
  · next h => exact am_run_next (x := (.ifCond .eq 7, 3, 0, 0, 0, 0)) (by decide +kernel) (am_br_t (decide_eq_true h) (by decide))
  · next h => exact am_run_next (x := (.ifCond .eq 7, 3, 0, 0, 0, 0)) (by decide +kernel) (am_br_f (decide_eq_false h) (by decide))
theorem r_M_read_59 {G : Nat → Value} {d : Nat} {st : List Value} {M : am_M} {l0 l1 l2 l3 l4 l5 : Option Value} : am_run G d K_M_read (59, [l0, l1, l2, l3, l4, l5], st, M) = am_run G d K_M_read (60, [l0, l1, l2, l3, l4, l5], .int 0 :: st, M) := am_run_next (x := (.iconst 0, 1, 0, 0, 0, 0)) (by decide +kernel) rfl
theorem r_M_read_60 {G : Nat → Value} {d : Nat} {st : List Value} {M : am_M} {l0 l1 l2 l3 l4 l5 : Option Value} : am_run G d K_M_read (60, [l0, l1, l2, l3, l4, l5], st, M) = am_run G d K_M_read (70, [l0, l1, l2, l3, l4, l5], st, M) := am_run_next (x := (.goto 10, 3, 0, 0, 0, 0)) (by decide +kernel) rfl
theorem r_M_read_63 {G : Nat → Value} {d : Nat} {st : List Value} {M : am_M} {l1 l2 l3 l4 l5 : Option Value} {v : Value} (hv : am_isr v = true) : am_run G d K_M_read (63, [some v, l1, l2, l3, l4, l5], st, M) = am_run G d K_M_read (64, [some v, l1, l2, l3, l4, l5], v :: st, M) := by
  rcases am_isr_cases hv with ⟨q, rfl⟩ | rfl
  · exact am_run_next (x := (.aload_n 0, 1, 0, 0, 0, 0)) (by decide +kernel) rfl
  · exact am_run_next (x := (.aload_n 0, 1, 0, 0, 0, 0)) (by decide +kernel) rfl
theorem r_M_read_64 {G : Nat → Value} {d : Nat} {st : List Value} {M : am_M} {l0 l1 l2 l3 l4 l5 : Option Value} : am_run G d K_M_read (64, [l0, l1, l2, l3, l4, l5], st, M) = am_run G d K_M_read (67, [l0, l1, l2, l3, l4, l5], .long 6477035 :: st, M) := am_run_next (x := (.ldc2_w 327, 3, 0, 0, 6113, 6477035)) (by decide +kernel) rfl
theorem r_M_read_67 {G : Nat → Value} {d : Nat} {st : List Value} {M : am_M} {l0 l1 l2 l3 l4 l5 : Option Value} {q : Nat} {a0 : Int64} (hq : am_cls M q = some 10) (h8 : am_sw st ≤ 8) : am_run G d K_M_read (67, [l0, l1, l2, l3, l4, l5], .long a0 :: .ref q :: st, M) = am_k G d K_M_read 70 [l0, l1, l2, l3, l4, l5] st (am_ex G d K_M_part [.ref q, .long a0] M) := am_run_iv (i := 323) (n := 1) (pl := 6054) (Bs := [.long a0]) (z := K_M_part) (by decide +kernel) hq h8 rfl (Nat.le_of_ble_eq_true rfl) rfl
theorem r_M_read_70 {G : Nat → Value} {d : Nat} {st : List Value} {M : am_M} {l0 l1 l2 l3 l4 l5 : Option Value} {v : Int32} (hc : am_c1 l4 = true) : am_run G d K_M_read (70, [l0, l1, l2, l3, l4, l5], .int v :: st, M) = am_run G d K_M_read (72, [l0, l1, l2, l3, l4, some (.int v)], st, M) := by
  rcases am_c1_cases hc with rfl | ⟨q, rfl⟩ | ⟨q, rfl⟩ | rfl
  · exact am_run_next (x := (.istore 5, 2, 0, 0, 0, 0)) (by decide +kernel) rfl
  · exact am_run_next (x := (.istore 5, 2, 0, 0, 0, 0)) (by decide +kernel) rfl
  · exact am_run_next (x := (.istore 5, 2, 0, 0, 0, 0)) (by decide +kernel) rfl
  · exact am_run_next (x := (.istore 5, 2, 0, 0, 0, 0)) (by decide +kernel) rfl
theorem r_M_read_70_k {G : Nat → Value} {d : Nat} {st : List Value} {M : am_M} {l0 l1 l2 l3 l5 : Option Value} {v : Int32} {z : Int64} : am_run G d K_M_read (70, [l0, l1, l2, l3, some (.long z), l5], .int v :: st, M) = am_run G d K_M_read (72, [l0, l1, l2, l3, none, some (.int v)], st, M) := am_run_next (x := (.istore 5, 2, 0, 0, 0, 0)) (by decide +kernel) rfl
theorem r_M_read_72 {G : Nat → Value} {d : Nat} {st : List Value} {M : am_M} {l1 l2 l3 l4 l5 : Option Value} {v : Value} (hv : am_isr v = true) : am_run G d K_M_read (72, [some v, l1, l2, l3, l4, l5], st, M) = am_run G d K_M_read (73, [some v, l1, l2, l3, l4, l5], v :: st, M) := by
  rcases am_isr_cases hv with ⟨q, rfl⟩ | rfl
  · exact am_run_next (x := (.aload_n 0, 1, 0, 0, 0, 0)) (by decide +kernel) rfl
  · exact am_run_next (x := (.aload_n 0, 1, 0, 0, 0, 0)) (by decide +kernel) rfl
theorem r_M_read_73 {G : Nat → Value} {d : Nat} {st : List Value} {M : am_M} {l0 l1 l2 l3 l4 l5 : Option Value} {a : Nat} : am_run G d K_M_read (73, [l0, l1, l2, l3, l4, l5], .ref a :: st, M) = am_kf G d K_M_read 76 [l0, l1, l2, l3, l4, l5] st M (am_fld M a 10 35) := am_run_kf (x := (.getfield 247, 3, 10, 35, 5054, 0)) (by decide +kernel) rfl
theorem r_M_read_76 {G : Nat → Value} {d : Nat} {st : List Value} {M : am_M} {l0 l1 l2 l3 l4 l5 : Option Value} {a : Int32} : am_run G d K_M_read (76, [l0, l1, l2, l3, l4, l5], .int a :: st, M) = if ¬ a = 0 then am_run G d K_M_read (90, [l0, l1, l2, l3, l4, l5], st, M) else am_run G d K_M_read (79, [l0, l1, l2, l3, l4, l5], st, M) := by
  split
  · next h => exact am_run_next (x := (.ifCond .ne 14, 3, 0, 0, 0, 0)) (by decide +kernel) (am_br_t (decide_eq_true h) (by decide))
  · next h => exact am_run_next (x := (.ifCond .ne 14, 3, 0, 0, 0, 0)) (by decide +kernel) (am_br_f (decide_eq_false h) (by decide))
theorem r_M_read_79 {G : Nat → Value} {d : Nat} {st : List Value} {M : am_M} {l1 l2 l3 l4 l5 : Option Value} {v : Value} (hv : am_isr v = true) : am_run G d K_M_read (79, [some v, l1, l2, l3, l4, l5], st, M) = am_run G d K_M_read (80, [some v, l1, l2, l3, l4, l5], v :: st, M) := by
  rcases am_isr_cases hv with ⟨q, rfl⟩ | rfl
  · exact am_run_next (x := (.aload_n 0, 1, 0, 0, 0, 0)) (by decide +kernel) rfl
  · exact am_run_next (x := (.aload_n 0, 1, 0, 0, 0, 0)) (by decide +kernel) rfl
theorem r_M_read_80 {G : Nat → Value} {d : Nat} {st : List Value} {M : am_M} {l0 l1 l2 l3 l4 l5 : Option Value} {a : Nat} : am_run G d K_M_read (80, [l0, l1, l2, l3, l4, l5], .ref a :: st, M) = am_kf G d K_M_read 83 [l0, l1, l2, l3, l4, l5] st M (am_fld M a 10 30) := am_run_kf (x := (.getfield 224, 3, 10, 30, 5049, 0)) (by decide +kernel) rfl
theorem r_M_read_83 {G : Nat → Value} {d : Nat} {st : List Value} {M : am_M} {l0 l1 l2 l3 l4 l5 : Option Value} {a : Int32} : am_run G d K_M_read (83, [l0, l1, l2, l3, l4, l5], .int a :: st, M) = if a = 0 then am_run G d K_M_read (90, [l0, l1, l2, l3, l4, l5], st, M) else am_run G d K_M_read (86, [l0, l1, l2, l3, l4, l5], st, M) := by
  split
  · next h => exact am_run_next (x := (.ifCond .eq 7, 3, 0, 0, 0, 0)) (by decide +kernel) (am_br_t (decide_eq_true h) (by decide))
  · next h => exact am_run_next (x := (.ifCond .eq 7, 3, 0, 0, 0, 0)) (by decide +kernel) (am_br_f (decide_eq_false h) (by decide))
theorem r_M_read_86 {G : Nat → Value} {d : Nat} {st : List Value} {M : am_M} {l1 l2 l3 l4 l5 : Option Value} {v : Value} (hv : am_isr v = true) : am_run G d K_M_read (86, [some v, l1, l2, l3, l4, l5], st, M) = am_run G d K_M_read (87, [some v, l1, l2, l3, l4, l5], v :: st, M) := by
  rcases am_isr_cases hv with ⟨q, rfl⟩ | rfl
  · exact am_run_next (x := (.aload_n 0, 1, 0, 0, 0, 0)) (by decide +kernel) rfl
  · exact am_run_next (x := (.aload_n 0, 1, 0, 0, 0, 0)) (by decide +kernel) rfl
theorem r_M_read_87 {G : Nat → Value} {d : Nat} {st : List Value} {M : am_M} {l0 l1 l2 l3 l4 l5 : Option Value} {q : Nat} (hq : am_cls M q = some 10) (h8 : am_sw st ≤ 8) : am_run G d K_M_read (87, [l0, l1, l2, l3, l4, l5], .ref q :: st, M) = am_k G d K_M_read 90 [l0, l1, l2, l3, l4, l5] st (am_ex G d K_M_fail [.ref q] M) := am_run_iv (i := 257) (n := 0) (pl := 6062) (Bs := []) (z := K_M_fail) (by decide +kernel) hq h8 rfl (Nat.le_of_ble_eq_true rfl) rfl
theorem r_M_read_90 {G : Nat → Value} {d : Nat} {st : List Value} {M : am_M} {l0 l1 l2 l4 l5 : Option Value} {v : Int32} : am_run G d K_M_read (90, [l0, l1, l2, some (.int v), l4, l5], st, M) = am_run G d K_M_read (91, [l0, l1, l2, some (.int v), l4, l5], .int v :: st, M) := am_run_next (x := (.iload_n 3, 1, 0, 0, 0, 0)) (by decide +kernel) rfl
theorem r_M_read_91 {G : Nat → Value} {d : Nat} {st : List Value} {M : am_M} {l0 l1 l2 l3 l4 l5 : Option Value} {a : Int32} : am_run G d K_M_read (91, [l0, l1, l2, l3, l4, l5], .int a :: st, M) = if ¬ a = 0 then am_run G d K_M_read (99, [l0, l1, l2, l3, l4, l5], st, M) else am_run G d K_M_read (94, [l0, l1, l2, l3, l4, l5], st, M) := by
  split
  · next h => exact am_run_next (x := (.ifCond .ne 8, 3, 0, 0, 0, 0)) (by decide +kernel) (am_br_t (decide_eq_true h) (by decide))
  · next h => exact am_run_next (x := (.ifCond .ne 8, 3, 0, 0, 0, 0)) (by decide +kernel) (am_br_f (decide_eq_false h) (by decide))
theorem r_M_read_94 {G : Nat → Value} {d : Nat} {st : List Value} {M : am_M} {l0 l1 l2 l3 l5 : Option Value} {v : Int32} : am_run G d K_M_read (94, [l0, l1, l2, l3, some (.int v), l5], st, M) = am_run G d K_M_read (96, [l0, l1, l2, l3, some (.int v), l5], .int v :: st, M) := am_run_next (x := (.iload 4, 2, 0, 0, 0, 0)) (by decide +kernel) rfl
theorem r_M_read_96 {G : Nat → Value} {d : Nat} {st : List Value} {M : am_M} {l0 l1 l2 l3 l4 l5 : Option Value} : am_run G d K_M_read (96, [l0, l1, l2, l3, l4, l5], st, M) = am_run G d K_M_read (101, [l0, l1, l2, l3, l4, l5], st, M) := am_run_next (x := (.goto 5, 3, 0, 0, 0, 0)) (by decide +kernel) rfl
theorem r_M_read_99 {G : Nat → Value} {d : Nat} {st : List Value} {M : am_M} {l0 l1 l2 l3 l4 : Option Value} {v : Int32} : am_run G d K_M_read (99, [l0, l1, l2, l3, l4, some (.int v)], st, M) = am_run G d K_M_read (101, [l0, l1, l2, l3, l4, some (.int v)], .int v :: st, M) := am_run_next (x := (.iload 5, 2, 0, 0, 0, 0)) (by decide +kernel) rfl
theorem r_M_read_101 {G : Nat → Value} {d : Nat} {M : am_M} {l0 l1 l2 l3 l4 l5 : Option Value} {a : Int32} : am_run G d K_M_read (101, [l0, l1, l2, l3, l4, l5], [.int a], M) = some (some (.int a), M) := am_run_ret (x := (.ireturn, 1, 0, 0, 0, 0)) (by decide +kernel) rfl
theorem r_M_next_0 {G : Nat → Value} {d : Nat} {st : List Value} {M : am_M} {l1 l2 : Option Value} {v : Value} (hv : am_isr v = true) : am_run G d K_M_next (0, [some v, l1, l2], st, M) = am_run G d K_M_next (1, [some v, l1, l2], v :: st, M) := by
  rcases am_isr_cases hv with ⟨q, rfl⟩ | rfl
  · exact am_run_next (x := (.aload_n 0, 1, 0, 0, 0, 0)) (by decide +kernel) rfl
  · exact am_run_next (x := (.aload_n 0, 1, 0, 0, 0, 0)) (by decide +kernel) rfl
theorem r_M_next_1 {G : Nat → Value} {d : Nat} {st : List Value} {M : am_M} {l1 l2 : Option Value} {v : Value} (hv : am_isr v = true) : am_run G d K_M_next (1, [some v, l1, l2], st, M) = am_run G d K_M_next (2, [some v, l1, l2], v :: st, M) := by
  rcases am_isr_cases hv with ⟨q, rfl⟩ | rfl
  · exact am_run_next (x := (.aload_n 0, 1, 0, 0, 0, 0)) (by decide +kernel) rfl
  · exact am_run_next (x := (.aload_n 0, 1, 0, 0, 0, 0)) (by decide +kernel) rfl
theorem r_M_next_2 {G : Nat → Value} {d : Nat} {st : List Value} {M : am_M} {l0 l1 l2 : Option Value} {a : Nat} : am_run G d K_M_next (2, [l0, l1, l2], .ref a :: st, M) = am_kf G d K_M_next 5 [l0, l1, l2] st M (am_fld M a 10 33) := am_run_kf (x := (.getfield 215, 3, 10, 33, 5052, 0)) (by decide +kernel) rfl
theorem r_M_next_5 {G : Nat → Value} {d : Nat} {st : List Value} {M : am_M} {l0 l1 l2 : Option Value} {q : Nat} {a0 : Int32} (hq : am_cls M q = some 10) (h8 : am_sw st ≤ 8) : am_run G d K_M_next (5, [l0, l1, l2], .int a0 :: .ref q :: st, M) = am_k G d K_M_next 8 [l0, l1, l2] st (am_ex G d K_M_byteAt [.ref q, .int a0] M) := am_run_iv (i := 218) (n := 1) (pl := 6041) (Bs := [.int a0]) (z := K_M_byteAt) (by decide +kernel) hq h8 rfl (Nat.le_of_ble_eq_true rfl) rfl
theorem r_M_next_8 {G : Nat → Value} {d : Nat} {st : List Value} {M : am_M} {l0 l1 l2 : Option Value} : am_run G d K_M_next (8, [l0, l1, l2], st, M) = am_run G d K_M_next (10, [l0, l1, l2], .int 32 :: st, M) := am_run_next (x := (.bipush 32, 2, 0, 0, 0, 0)) (by decide +kernel) rfl
theorem r_M_next_10 {G : Nat → Value} {d : Nat} {st : List Value} {M : am_M} {l0 l1 l2 : Option Value} {a b : Int32} : am_run G d K_M_next (10, [l0, l1, l2], .int b :: .int a :: st, M) = if a = b then am_run G d K_M_next (26, [l0, l1, l2], st, M) else am_run G d K_M_next (13, [l0, l1, l2], st, M) := by
  split
  · next h => exact am_run_next (x := (.if_icmp .eq 16, 3, 0, 0, 0, 0)) (by decide +kernel) (am_br_t (decide_eq_true h) (by decide))
  · next h => exact am_run_next (x := (.if_icmp .eq 16, 3, 0, 0, 0, 0)) (by decide +kernel) (am_br_f (decide_eq_false h) (by decide))
theorem r_M_next_13 {G : Nat → Value} {d : Nat} {st : List Value} {M : am_M} {l1 l2 : Option Value} {v : Value} (hv : am_isr v = true) : am_run G d K_M_next (13, [some v, l1, l2], st, M) = am_run G d K_M_next (14, [some v, l1, l2], v :: st, M) := by
  rcases am_isr_cases hv with ⟨q, rfl⟩ | rfl
  · exact am_run_next (x := (.aload_n 0, 1, 0, 0, 0, 0)) (by decide +kernel) rfl
  · exact am_run_next (x := (.aload_n 0, 1, 0, 0, 0, 0)) (by decide +kernel) rfl
theorem r_M_next_14 {G : Nat → Value} {d : Nat} {st : List Value} {M : am_M} {l1 l2 : Option Value} {v : Value} (hv : am_isr v = true) : am_run G d K_M_next (14, [some v, l1, l2], st, M) = am_run G d K_M_next (15, [some v, l1, l2], v :: st, M) := by
  rcases am_isr_cases hv with ⟨q, rfl⟩ | rfl
  · exact am_run_next (x := (.aload_n 0, 1, 0, 0, 0, 0)) (by decide +kernel) rfl
  · exact am_run_next (x := (.aload_n 0, 1, 0, 0, 0, 0)) (by decide +kernel) rfl
theorem r_M_next_15 {G : Nat → Value} {d : Nat} {st : List Value} {M : am_M} {l0 l1 l2 : Option Value} {a : Nat} : am_run G d K_M_next (15, [l0, l1, l2], .ref a :: st, M) = am_kf G d K_M_next 18 [l0, l1, l2] st M (am_fld M a 10 33) := am_run_kf (x := (.getfield 215, 3, 10, 33, 5052, 0)) (by decide +kernel) rfl
theorem r_M_next_18 {G : Nat → Value} {d : Nat} {st : List Value} {M : am_M} {l0 l1 l2 : Option Value} {q : Nat} {a0 : Int32} (hq : am_cls M q = some 10) (h8 : am_sw st ≤ 8) : am_run G d K_M_next (18, [l0, l1, l2], .int a0 :: .ref q :: st, M) = am_k G d K_M_next 21 [l0, l1, l2] st (am_ex G d K_M_byteAt [.ref q, .int a0] M) := am_run_iv (i := 218) (n := 1) (pl := 6041) (Bs := [.int a0]) (z := K_M_byteAt) (by decide +kernel) hq h8 rfl (Nat.le_of_ble_eq_true rfl) rfl
theorem r_M_next_21 {G : Nat → Value} {d : Nat} {st : List Value} {M : am_M} {l0 l1 l2 : Option Value} : am_run G d K_M_next (21, [l0, l1, l2], st, M) = am_run G d K_M_next (23, [l0, l1, l2], .int 10 :: st, M) := am_run_next (x := (.bipush 10, 2, 0, 0, 0, 0)) (by decide +kernel) rfl
theorem r_M_next_23 {G : Nat → Value} {d : Nat} {st : List Value} {M : am_M} {l0 l1 l2 : Option Value} {a b : Int32} : am_run G d K_M_next (23, [l0, l1, l2], .int b :: .int a :: st, M) = if ¬ a = b then am_run G d K_M_next (39, [l0, l1, l2], st, M) else am_run G d K_M_next (26, [l0, l1, l2], st, M) := by
  split
  · next h => exact am_run_next (x := (.if_icmp .ne 16, 3, 0, 0, 0, 0)) (by decide +kernel) (am_br_t (decide_eq_true h) (by decide))
  · next h => exact am_run_next (x := (.if_icmp .ne 16, 3, 0, 0, 0, 0)) (by decide +kernel) (am_br_f (decide_eq_false h) (by decide))
theorem r_M_next_26 {G : Nat → Value} {d : Nat} {st : List Value} {M : am_M} {l1 l2 : Option Value} {v : Value} (hv : am_isr v = true) : am_run G d K_M_next (26, [some v, l1, l2], st, M) = am_run G d K_M_next (27, [some v, l1, l2], v :: st, M) := by
  rcases am_isr_cases hv with ⟨q, rfl⟩ | rfl
  · exact am_run_next (x := (.aload_n 0, 1, 0, 0, 0, 0)) (by decide +kernel) rfl
  · exact am_run_next (x := (.aload_n 0, 1, 0, 0, 0, 0)) (by decide +kernel) rfl
theorem r_M_next_27 {G : Nat → Value} {d : Nat} {st : List Value} {M : am_M} {l0 l1 l2 : Option Value} {v : Value} (hv : v.category = 1) : am_run G d K_M_next (27, [l0, l1, l2], v :: st, M) = am_run G d K_M_next (28, [l0, l1, l2], v :: v :: st, M) := am_run_next (x := (.dup, 1, 0, 0, 0, 0)) (by decide +kernel) (if_pos hv)
theorem r_M_next_28 {G : Nat → Value} {d : Nat} {st : List Value} {M : am_M} {l0 l1 l2 : Option Value} {a : Nat} : am_run G d K_M_next (28, [l0, l1, l2], .ref a :: st, M) = am_kf G d K_M_next 31 [l0, l1, l2] st M (am_fld M a 10 33) := am_run_kf (x := (.getfield 215, 3, 10, 33, 5052, 0)) (by decide +kernel) rfl
theorem r_M_next_31 {G : Nat → Value} {d : Nat} {st : List Value} {M : am_M} {l0 l1 l2 : Option Value} : am_run G d K_M_next (31, [l0, l1, l2], st, M) = am_run G d K_M_next (32, [l0, l1, l2], .int 1 :: st, M) := am_run_next (x := (.iconst 1, 1, 0, 0, 0, 0)) (by decide +kernel) rfl
theorem r_M_next_32 {G : Nat → Value} {d : Nat} {st : List Value} {M : am_M} {l0 l1 l2 : Option Value} {a b : Int32} : am_run G d K_M_next (32, [l0, l1, l2], .int b :: .int a :: st, M) = am_run G d K_M_next (33, [l0, l1, l2], .int (a + b) :: st, M) := am_run_next (x := (.iadd, 1, 0, 0, 0, 0)) (by decide +kernel) rfl
theorem r_M_next_33 {G : Nat → Value} {d : Nat} {st : List Value} {M : am_M} {l0 l1 l2 : Option Value} {a : Nat} {v : Value} : am_run G d K_M_next (33, [l0, l1, l2], v :: .ref a :: st, M) = am_km G d K_M_next 36 [l0, l1, l2] st (am_pf M a 10 33 .int v) := am_run_km (x := (.putfield 215, 3, 10, 33, 5052, 0)) (by decide +kernel) rfl
theorem r_M_next_36 {G : Nat → Value} {d : Nat} {st : List Value} {M : am_M} {l0 l1 l2 : Option Value} : am_run G d K_M_next (36, [l0, l1, l2], st, M) = am_run G d K_M_next (0, [l0, l1, l2], st, M) := am_run_next (x := (.goto (-36), 3, 0, 0, 0, 0)) (by decide +kernel) rfl
theorem r_M_next_39 {G : Nat → Value} {d : Nat} {st : List Value} {M : am_M} {l1 l2 : Option Value} {v : Value} (hv : am_isr v = true) : am_run G d K_M_next (39, [some v, l1, l2], st, M) = am_run G d K_M_next (40, [some v, l1, l2], v :: st, M) := by
  rcases am_isr_cases hv with ⟨q, rfl⟩ | rfl
  · exact am_run_next (x := (.aload_n 0, 1, 0, 0, 0, 0)) (by decide +kernel) rfl
  · exact am_run_next (x := (.aload_n 0, 1, 0, 0, 0, 0)) (by decide +kernel) rfl
theorem r_M_next_40 {G : Nat → Value} {d : Nat} {st : List Value} {M : am_M} {l1 l2 : Option Value} {v : Value} (hv : am_isr v = true) : am_run G d K_M_next (40, [some v, l1, l2], st, M) = am_run G d K_M_next (41, [some v, l1, l2], v :: st, M) := by
  rcases am_isr_cases hv with ⟨q, rfl⟩ | rfl
  · exact am_run_next (x := (.aload_n 0, 1, 0, 0, 0, 0)) (by decide +kernel) rfl
  · exact am_run_next (x := (.aload_n 0, 1, 0, 0, 0, 0)) (by decide +kernel) rfl
theorem r_M_next_41 {G : Nat → Value} {d : Nat} {st : List Value} {M : am_M} {l0 l1 l2 : Option Value} {a : Nat} : am_run G d K_M_next (41, [l0, l1, l2], .ref a :: st, M) = am_kf G d K_M_next 44 [l0, l1, l2] st M (am_fld M a 10 33) := am_run_kf (x := (.getfield 215, 3, 10, 33, 5052, 0)) (by decide +kernel) rfl
theorem r_M_next_44 {G : Nat → Value} {d : Nat} {st : List Value} {M : am_M} {l0 l1 l2 : Option Value} {a : Nat} {v : Value} : am_run G d K_M_next (44, [l0, l1, l2], v :: .ref a :: st, M) = am_km G d K_M_next 47 [l0, l1, l2] st (am_pf M a 10 31 .int v) := am_run_km (x := (.putfield 221, 3, 10, 31, 5050, 0)) (by decide +kernel) rfl
theorem r_M_next_47 {G : Nat → Value} {d : Nat} {st : List Value} {M : am_M} {l1 l2 : Option Value} {v : Value} (hv : am_isr v = true) : am_run G d K_M_next (47, [some v, l1, l2], st, M) = am_run G d K_M_next (48, [some v, l1, l2], v :: st, M) := by
  rcases am_isr_cases hv with ⟨q, rfl⟩ | rfl
  · exact am_run_next (x := (.aload_n 0, 1, 0, 0, 0, 0)) (by decide +kernel) rfl
  · exact am_run_next (x := (.aload_n 0, 1, 0, 0, 0, 0)) (by decide +kernel) rfl
theorem r_M_next_48 {G : Nat → Value} {d : Nat} {st : List Value} {M : am_M} {l1 l2 : Option Value} {v : Value} (hv : am_isr v = true) : am_run G d K_M_next (48, [some v, l1, l2], st, M) = am_run G d K_M_next (49, [some v, l1, l2], v :: st, M) := by
  rcases am_isr_cases hv with ⟨q, rfl⟩ | rfl
  · exact am_run_next (x := (.aload_n 0, 1, 0, 0, 0, 0)) (by decide +kernel) rfl
  · exact am_run_next (x := (.aload_n 0, 1, 0, 0, 0, 0)) (by decide +kernel) rfl
theorem r_M_next_49 {G : Nat → Value} {d : Nat} {st : List Value} {M : am_M} {l0 l1 l2 : Option Value} {a : Nat} : am_run G d K_M_next (49, [l0, l1, l2], .ref a :: st, M) = am_kf G d K_M_next 52 [l0, l1, l2] st M (am_fld M a 10 33) := am_run_kf (x := (.getfield 215, 3, 10, 33, 5052, 0)) (by decide +kernel) rfl
theorem r_M_next_52 {G : Nat → Value} {d : Nat} {st : List Value} {M : am_M} {l0 l1 l2 : Option Value} {q : Nat} {a0 : Int32} (hq : am_cls M q = some 10) (h8 : am_sw st ≤ 8) : am_run G d K_M_next (52, [l0, l1, l2], .int a0 :: .ref q :: st, M) = am_k G d K_M_next 55 [l0, l1, l2] st (am_ex G d K_M_byteAt [.ref q, .int a0] M) := am_run_iv (i := 218) (n := 1) (pl := 6041) (Bs := [.int a0]) (z := K_M_byteAt) (by decide +kernel) hq h8 rfl (Nat.le_of_ble_eq_true rfl) rfl
theorem r_M_next_55 {G : Nat → Value} {d : Nat} {st : List Value} {M : am_M} {l0 l1 l2 : Option Value} {v : Int32} (hc : am_c1 l0 = true) : am_run G d K_M_next (55, [l0, l1, l2], .int v :: st, M) = am_run G d K_M_next (56, [l0, some (.int v), l2], st, M) := by
  rcases am_c1_cases hc with rfl | ⟨q, rfl⟩ | ⟨q, rfl⟩ | rfl
  · exact am_run_next (x := (.istore_n 1, 1, 0, 0, 0, 0)) (by decide +kernel) rfl
  · exact am_run_next (x := (.istore_n 1, 1, 0, 0, 0, 0)) (by decide +kernel) rfl
  · exact am_run_next (x := (.istore_n 1, 1, 0, 0, 0, 0)) (by decide +kernel) rfl
  · exact am_run_next (x := (.istore_n 1, 1, 0, 0, 0, 0)) (by decide +kernel) rfl
theorem r_M_next_55_k {G : Nat → Value} {d : Nat} {st : List Value} {M : am_M} {l1 l2 : Option Value} {v : Int32} {z : Int64} : am_run G d K_M_next (55, [some (.long z), l1, l2], .int v :: st, M) = am_run G d K_M_next (56, [none, some (.int v), l2], st, M) := am_run_next (x := (.istore_n 1, 1, 0, 0, 0, 0)) (by decide +kernel) rfl
theorem r_M_next_56 {G : Nat → Value} {d : Nat} {st : List Value} {M : am_M} {l1 l2 : Option Value} {v : Value} (hv : am_isr v = true) : am_run G d K_M_next (56, [some v, l1, l2], st, M) = am_run G d K_M_next (57, [some v, l1, l2], v :: st, M) := by
  rcases am_isr_cases hv with ⟨q, rfl⟩ | rfl
  · exact am_run_next (x := (.aload_n 0, 1, 0, 0, 0, 0)) (by decide +kernel) rfl
  · exact am_run_next (x := (.aload_n 0, 1, 0, 0, 0, 0)) (by decide +kernel) rfl
theorem r_M_next_57 {G : Nat → Value} {d : Nat} {st : List Value} {M : am_M} {l0 l1 l2 : Option Value} : am_run G d K_M_next (57, [l0, l1, l2], st, M) = am_run G d K_M_next (58, [l0, l1, l2], .int 4 :: st, M) := am_run_next (x := (.iconst 4, 1, 0, 0, 0, 0)) (by decide +kernel) rfl
theorem r_M_next_58 {G : Nat → Value} {d : Nat} {st : List Value} {M : am_M} {l0 l1 l2 : Option Value} {a : Nat} {v : Value} : am_run G d K_M_next (58, [l0, l1, l2], v :: .ref a :: st, M) = am_km G d K_M_next 61 [l0, l1, l2] st (am_pf M a 10 30 .int v) := am_run_km (x := (.putfield 224, 3, 10, 30, 5049, 0)) (by decide +kernel) rfl
theorem r_M_next_61 {G : Nat → Value} {d : Nat} {st : List Value} {M : am_M} {l0 l2 : Option Value} {v : Int32} : am_run G d K_M_next (61, [l0, some (.int v), l2], st, M) = am_run G d K_M_next (62, [l0, some (.int v), l2], .int v :: st, M) := am_run_next (x := (.iload_n 1, 1, 0, 0, 0, 0)) (by decide +kernel) rfl
theorem r_M_next_62 {G : Nat → Value} {d : Nat} {st : List Value} {M : am_M} {l0 l1 l2 : Option Value} {a : Int32} : am_run G d K_M_next (62, [l0, l1, l2], .int a :: st, M) = if 0 ≤ a then am_run G d K_M_next (81, [l0, l1, l2], st, M) else am_run G d K_M_next (65, [l0, l1, l2], st, M) := by
  split
  · next h => exact am_run_next (x := (.ifCond .ge 19, 3, 0, 0, 0, 0)) (by decide +kernel) (am_br_t (decide_eq_true h) (by decide))
  · next h => exact am_run_next (x := (.ifCond .ge 19, 3, 0, 0, 0, 0)) (by decide +kernel) (am_br_f (decide_eq_false h) (by decide))
theorem r_M_next_65 {G : Nat → Value} {d : Nat} {st : List Value} {M : am_M} {l1 l2 : Option Value} {v : Value} (hv : am_isr v = true) : am_run G d K_M_next (65, [some v, l1, l2], st, M) = am_run G d K_M_next (66, [some v, l1, l2], v :: st, M) := by
  rcases am_isr_cases hv with ⟨q, rfl⟩ | rfl
  · exact am_run_next (x := (.aload_n 0, 1, 0, 0, 0, 0)) (by decide +kernel) rfl
  · exact am_run_next (x := (.aload_n 0, 1, 0, 0, 0, 0)) (by decide +kernel) rfl
theorem r_M_next_66 {G : Nat → Value} {d : Nat} {st : List Value} {M : am_M} {l0 l1 l2 : Option Value} : am_run G d K_M_next (66, [l0, l1, l2], st, M) = am_run G d K_M_next (67, [l0, l1, l2], .int 0 :: st, M) := am_run_next (x := (.iconst 0, 1, 0, 0, 0, 0)) (by decide +kernel) rfl
theorem r_M_next_67 {G : Nat → Value} {d : Nat} {st : List Value} {M : am_M} {l0 l1 l2 : Option Value} {a : Nat} {v : Value} : am_run G d K_M_next (67, [l0, l1, l2], v :: .ref a :: st, M) = am_km G d K_M_next 70 [l0, l1, l2] st (am_pf M a 10 30 .int v) := am_run_km (x := (.putfield 224, 3, 10, 30, 5049, 0)) (by decide +kernel) rfl
theorem r_M_next_70 {G : Nat → Value} {d : Nat} {st : List Value} {M : am_M} {l1 l2 : Option Value} {v : Value} (hv : am_isr v = true) : am_run G d K_M_next (70, [some v, l1, l2], st, M) = am_run G d K_M_next (71, [some v, l1, l2], v :: st, M) := by
  rcases am_isr_cases hv with ⟨q, rfl⟩ | rfl
  · exact am_run_next (x := (.aload_n 0, 1, 0, 0, 0, 0)) (by decide +kernel) rfl
  · exact am_run_next (x := (.aload_n 0, 1, 0, 0, 0, 0)) (by decide +kernel) rfl
theorem r_M_next_71 {G : Nat → Value} {d : Nat} {st : List Value} {M : am_M} {l1 l2 : Option Value} {v : Value} (hv : am_isr v = true) : am_run G d K_M_next (71, [some v, l1, l2], st, M) = am_run G d K_M_next (72, [some v, l1, l2], v :: st, M) := by
  rcases am_isr_cases hv with ⟨q, rfl⟩ | rfl
  · exact am_run_next (x := (.aload_n 0, 1, 0, 0, 0, 0)) (by decide +kernel) rfl
  · exact am_run_next (x := (.aload_n 0, 1, 0, 0, 0, 0)) (by decide +kernel) rfl
theorem r_M_next_72 {G : Nat → Value} {d : Nat} {st : List Value} {M : am_M} {l0 l1 l2 : Option Value} {a : Nat} : am_run G d K_M_next (72, [l0, l1, l2], .ref a :: st, M) = am_kf G d K_M_next 75 [l0, l1, l2] st M (am_fld M a 10 29) := am_run_kf (x := (.getfield 209, 3, 10, 29, 5048, 0)) (by decide +kernel) rfl
theorem r_M_next_75 {G : Nat → Value} {d : Nat} {st : List Value} {M : am_M} {l0 l1 l2 : Option Value} {a : Nat} {v : Value} : am_run G d K_M_next (75, [l0, l1, l2], v :: .ref a :: st, M) = am_km G d K_M_next 78 [l0, l1, l2] st (am_pf M a 10 31 .int v) := am_run_km (x := (.putfield 221, 3, 10, 31, 5050, 0)) (by decide +kernel) rfl
theorem r_M_next_78 {G : Nat → Value} {d : Nat} {st : List Value} {M : am_M} {l0 l1 l2 : Option Value} : am_run G d K_M_next (78, [l0, l1, l2], st, M) = am_run G d K_M_next (372, [l0, l1, l2], st, M) := am_run_next (x := (.goto 294, 3, 0, 0, 0, 0)) (by decide +kernel) rfl
theorem r_M_next_81 {G : Nat → Value} {d : Nat} {st : List Value} {M : am_M} {l0 l2 : Option Value} {v : Int32} : am_run G d K_M_next (81, [l0, some (.int v), l2], st, M) = am_run G d K_M_next (82, [l0, some (.int v), l2], .int v :: st, M) := am_run_next (x := (.iload_n 1, 1, 0, 0, 0, 0)) (by decide +kernel) rfl
theorem r_M_next_82 {G : Nat → Value} {d : Nat} {st : List Value} {M : am_M} {l0 l1 l2 : Option Value} {a : Int32} : am_run G d K_M_next (82, [l0, l1, l2], .int a :: st, M) = am_run G d K_M_next (83, [l0, l1, l2], .long a.toInt64 :: st, M) := am_run_next (x := (.i2l, 1, 0, 0, 0, 0)) (by decide +kernel) rfl
theorem r_M_next_83 {G : Nat → Value} {d : Nat} {st : List Value} {M : am_M} {l0 l1 l2 : Option Value} : am_run G d K_M_next (83, [l0, l1, l2], st, M) = am_run G d K_M_next (86, [l0, l1, l2], .long 97 :: st, M) := am_run_next (x := (.ldc2_w 227, 3, 0, 0, 6045, 97)) (by decide +kernel) rfl
theorem r_M_next_86 {G : Nat → Value} {d : Nat} {st : List Value} {M : am_M} {l0 l1 l2 : Option Value} : am_run G d K_M_next (86, [l0, l1, l2], st, M) = am_run G d K_M_next (89, [l0, l1, l2], .long 122 :: st, M) := am_run_next (x := (.ldc2_w 229, 3, 0, 0, 6046, 122)) (by decide +kernel) rfl
theorem r_M_next_89 {G : Nat → Value} {d : Nat} {st : List Value} {M : am_M} {l0 l1 l2 : Option Value} {a0 : Int64} {a1 : Int64} {a2 : Int64} (h8 : am_sw st ≤ 8) : am_run G d K_M_next (89, [l0, l1, l2], .long a2 :: .long a1 :: .long a0 :: st, M) = am_k G d K_M_next 92 [l0, l1, l2] st (am_ex G d K_M_in [.long a0, .long a1, .long a2] M) := am_run_is (i := 128) (n := 3) (pl := 5200) (Bs := [.long a0, .long a1, .long a2]) (z := K_M_in) (v := 1) (by decide) (by decide) (by decide +kernel) h8 rfl (Nat.le_of_ble_eq_true rfl) rfl
theorem r_M_next_92 {G : Nat → Value} {d : Nat} {st : List Value} {M : am_M} {l0 l1 l2 : Option Value} {a : Int32} : am_run G d K_M_next (92, [l0, l1, l2], .int a :: st, M) = if a = 0 then am_run G d K_M_next (185, [l0, l1, l2], st, M) else am_run G d K_M_next (95, [l0, l1, l2], st, M) := by
  split
  · next h => exact am_run_next (x := (.ifCond .eq 93, 3, 0, 0, 0, 0)) (by decide +kernel) (am_br_t (decide_eq_true h) (by decide))
  · next h => exact am_run_next (x := (.ifCond .eq 93, 3, 0, 0, 0, 0)) (by decide +kernel) (am_br_f (decide_eq_false h) (by decide))
theorem r_M_next_95 {G : Nat → Value} {d : Nat} {st : List Value} {M : am_M} {l1 l2 : Option Value} {v : Value} (hv : am_isr v = true) : am_run G d K_M_next (95, [some v, l1, l2], st, M) = am_run G d K_M_next (96, [some v, l1, l2], v :: st, M) := by
  rcases am_isr_cases hv with ⟨q, rfl⟩ | rfl
  · exact am_run_next (x := (.aload_n 0, 1, 0, 0, 0, 0)) (by decide +kernel) rfl
  · exact am_run_next (x := (.aload_n 0, 1, 0, 0, 0, 0)) (by decide +kernel) rfl
theorem r_M_next_96 {G : Nat → Value} {d : Nat} {st : List Value} {M : am_M} {l0 l1 l2 : Option Value} : am_run G d K_M_next (96, [l0, l1, l2], st, M) = am_run G d K_M_next (97, [l0, l1, l2], .int 1 :: st, M) := am_run_next (x := (.iconst 1, 1, 0, 0, 0, 0)) (by decide +kernel) rfl
theorem r_M_next_97 {G : Nat → Value} {d : Nat} {st : List Value} {M : am_M} {l0 l1 l2 : Option Value} {a : Nat} {v : Value} : am_run G d K_M_next (97, [l0, l1, l2], v :: .ref a :: st, M) = am_km G d K_M_next 100 [l0, l1, l2] st (am_pf M a 10 30 .int v) := am_run_km (x := (.putfield 224, 3, 10, 30, 5049, 0)) (by decide +kernel) rfl
theorem r_M_next_100 {G : Nat → Value} {d : Nat} {st : List Value} {M : am_M} {l1 l2 : Option Value} {v : Value} (hv : am_isr v = true) : am_run G d K_M_next (100, [some v, l1, l2], st, M) = am_run G d K_M_next (101, [some v, l1, l2], v :: st, M) := by
  rcases am_isr_cases hv with ⟨q, rfl⟩ | rfl
  · exact am_run_next (x := (.aload_n 0, 1, 0, 0, 0, 0)) (by decide +kernel) rfl
  · exact am_run_next (x := (.aload_n 0, 1, 0, 0, 0, 0)) (by decide +kernel) rfl
theorem r_M_next_101 {G : Nat → Value} {d : Nat} {st : List Value} {M : am_M} {l0 l1 l2 : Option Value} : am_run G d K_M_next (101, [l0, l1, l2], st, M) = am_run G d K_M_next (102, [l0, l1, l2], .long 0 :: st, M) := am_run_next (x := (.lconst 0, 1, 0, 0, 0, 0)) (by decide +kernel) rfl
theorem r_M_next_102 {G : Nat → Value} {d : Nat} {st : List Value} {M : am_M} {l0 l1 l2 : Option Value} {a : Nat} {v : Value} : am_run G d K_M_next (102, [l0, l1, l2], v :: .ref a :: st, M) = am_km G d K_M_next 105 [l0, l1, l2] st (am_pf M a 10 32 .long v) := am_run_km (x := (.putfield 231, 3, 10, 32, 5051, 0)) (by decide +kernel) rfl
theorem r_M_next_105 {G : Nat → Value} {d : Nat} {st : List Value} {M : am_M} {l0 l1 l2 : Option Value} : am_run G d K_M_next (105, [l0, l1, l2], st, M) = am_run G d K_M_next (106, [l0, l1, l2], .int 0 :: st, M) := am_run_next (x := (.iconst 0, 1, 0, 0, 0, 0)) (by decide +kernel) rfl
theorem r_M_next_106 {G : Nat → Value} {d : Nat} {st : List Value} {M : am_M} {l0 l1 l2 : Option Value} {v : Int32} (hc : am_c1 l1 = true) : am_run G d K_M_next (106, [l0, l1, l2], .int v :: st, M) = am_run G d K_M_next (107, [l0, l1, some (.int v)], st, M) := by
  rcases am_c1_cases hc with rfl | ⟨q, rfl⟩ | ⟨q, rfl⟩ | rfl
  · exact am_run_next (x := (.istore_n 2, 1, 0, 0, 0, 0)) (by decide +kernel) rfl
  · exact am_run_next (x := (.istore_n 2, 1, 0, 0, 0, 0)) (by decide +kernel) rfl
  · exact am_run_next (x := (.istore_n 2, 1, 0, 0, 0, 0)) (by decide +kernel) rfl
  · exact am_run_next (x := (.istore_n 2, 1, 0, 0, 0, 0)) (by decide +kernel) rfl
theorem r_M_next_106_k {G : Nat → Value} {d : Nat} {st : List Value} {M : am_M} {l0 l2 : Option Value} {v : Int32} {z : Int64} : am_run G d K_M_next (106, [l0, some (.long z), l2], .int v :: st, M) = am_run G d K_M_next (107, [l0, none, some (.int v)], st, M) := am_run_next (x := (.istore_n 2, 1, 0, 0, 0, 0)) (by decide +kernel) rfl
theorem r_M_next_107 {G : Nat → Value} {d : Nat} {st : List Value} {M : am_M} {l1 l2 : Option Value} {v : Value} (hv : am_isr v = true) : am_run G d K_M_next (107, [some v, l1, l2], st, M) = am_run G d K_M_next (108, [some v, l1, l2], v :: st, M) := by
  rcases am_isr_cases hv with ⟨q, rfl⟩ | rfl
  · exact am_run_next (x := (.aload_n 0, 1, 0, 0, 0, 0)) (by decide +kernel) rfl
  · exact am_run_next (x := (.aload_n 0, 1, 0, 0, 0, 0)) (by decide +kernel) rfl
theorem r_M_next_108 {G : Nat → Value} {d : Nat} {st : List Value} {M : am_M} {l1 l2 : Option Value} {v : Value} (hv : am_isr v = true) : am_run G d K_M_next (108, [some v, l1, l2], st, M) = am_run G d K_M_next (109, [some v, l1, l2], v :: st, M) := by
  rcases am_isr_cases hv with ⟨q, rfl⟩ | rfl
  · exact am_run_next (x := (.aload_n 0, 1, 0, 0, 0, 0)) (by decide +kernel) rfl
  · exact am_run_next (x := (.aload_n 0, 1, 0, 0, 0, 0)) (by decide +kernel) rfl
theorem r_M_next_109 {G : Nat → Value} {d : Nat} {st : List Value} {M : am_M} {l0 l1 l2 : Option Value} {a : Nat} : am_run G d K_M_next (109, [l0, l1, l2], .ref a :: st, M) = am_kf G d K_M_next 112 [l0, l1, l2] st M (am_fld M a 10 33) := am_run_kf (x := (.getfield 215, 3, 10, 33, 5052, 0)) (by decide +kernel) rfl
theorem r_M_next_112 {G : Nat → Value} {d : Nat} {st : List Value} {M : am_M} {l0 l1 l2 : Option Value} {q : Nat} {a0 : Int32} (hq : am_cls M q = some 10) (h8 : am_sw st ≤ 8) : am_run G d K_M_next (112, [l0, l1, l2], .int a0 :: .ref q :: st, M) = am_k G d K_M_next 115 [l0, l1, l2] st (am_ex G d K_M_byteAt [.ref q, .int a0] M) := am_run_iv (i := 218) (n := 1) (pl := 6041) (Bs := [.int a0]) (z := K_M_byteAt) (by decide +kernel) hq h8 rfl (Nat.le_of_ble_eq_true rfl) rfl
theorem r_M_next_115 {G : Nat → Value} {d : Nat} {st : List Value} {M : am_M} {l0 l1 l2 : Option Value} {a : Int32} : am_run G d K_M_next (115, [l0, l1, l2], .int a :: st, M) = am_run G d K_M_next (116, [l0, l1, l2], .long a.toInt64 :: st, M) := am_run_next (x := (.i2l, 1, 0, 0, 0, 0)) (by decide +kernel) rfl
theorem r_M_next_116 {G : Nat → Value} {d : Nat} {st : List Value} {M : am_M} {l0 l1 l2 : Option Value} : am_run G d K_M_next (116, [l0, l1, l2], st, M) = am_run G d K_M_next (119, [l0, l1, l2], .long 97 :: st, M) := am_run_next (x := (.ldc2_w 227, 3, 0, 0, 6045, 97)) (by decide +kernel) rfl
theorem r_M_next_119 {G : Nat → Value} {d : Nat} {st : List Value} {M : am_M} {l0 l1 l2 : Option Value} : am_run G d K_M_next (119, [l0, l1, l2], st, M) = am_run G d K_M_next (122, [l0, l1, l2], .long 122 :: st, M) := am_run_next (x := (.ldc2_w 229, 3, 0, 0, 6046, 122)) (by decide +kernel) rfl
theorem r_M_next_122 {G : Nat → Value} {d : Nat} {st : List Value} {M : am_M} {l0 l1 l2 : Option Value} {a0 : Int64} {a1 : Int64} {a2 : Int64} (h8 : am_sw st ≤ 8) : am_run G d K_M_next (122, [l0, l1, l2], .long a2 :: .long a1 :: .long a0 :: st, M) = am_k G d K_M_next 125 [l0, l1, l2] st (am_ex G d K_M_in [.long a0, .long a1, .long a2] M) := am_run_is (i := 128) (n := 3) (pl := 5200) (Bs := [.long a0, .long a1, .long a2]) (z := K_M_in) (v := 1) (by decide) (by decide) (by decide +kernel) h8 rfl (Nat.le_of_ble_eq_true rfl) rfl
theorem r_M_next_125 {G : Nat → Value} {d : Nat} {st : List Value} {M : am_M} {l0 l1 l2 : Option Value} {a : Int32} : am_run G d K_M_next (125, [l0, l1, l2], .int a :: st, M) = if a = 0 then am_run G d K_M_next (182, [l0, l1, l2], st, M) else am_run G d K_M_next (128, [l0, l1, l2], st, M) := by
  split
  · next h => exact am_run_next (x := (.ifCond .eq 57, 3, 0, 0, 0, 0)) (by decide +kernel) (am_br_t (decide_eq_true h) (by decide))
  · next h => exact am_run_next (x := (.ifCond .eq 57, 3, 0, 0, 0, 0)) (by decide +kernel) (am_br_f (decide_eq_false h) (by decide))
theorem r_M_next_128 {G : Nat → Value} {d : Nat} {st : List Value} {M : am_M} {l1 l2 : Option Value} {v : Value} (hv : am_isr v = true) : am_run G d K_M_next (128, [some v, l1, l2], st, M) = am_run G d K_M_next (129, [some v, l1, l2], v :: st, M) := by
  rcases am_isr_cases hv with ⟨q, rfl⟩ | rfl
  · exact am_run_next (x := (.aload_n 0, 1, 0, 0, 0, 0)) (by decide +kernel) rfl
  · exact am_run_next (x := (.aload_n 0, 1, 0, 0, 0, 0)) (by decide +kernel) rfl
theorem r_M_next_129 {G : Nat → Value} {d : Nat} {st : List Value} {M : am_M} {l0 l1 : Option Value} {v : Int32} : am_run G d K_M_next (129, [l0, l1, some (.int v)], st, M) = am_run G d K_M_next (130, [l0, l1, some (.int v)], .int v :: st, M) := am_run_next (x := (.iload_n 2, 1, 0, 0, 0, 0)) (by decide +kernel) rfl
theorem r_M_next_130 {G : Nat → Value} {d : Nat} {st : List Value} {M : am_M} {l0 l1 l2 : Option Value} : am_run G d K_M_next (130, [l0, l1, l2], st, M) = am_run G d K_M_next (132, [l0, l1, l2], .int 8 :: st, M) := am_run_next (x := (.bipush 8, 2, 0, 0, 0, 0)) (by decide +kernel) rfl
theorem r_M_next_132 {G : Nat → Value} {d : Nat} {st : List Value} {M : am_M} {l0 l1 l2 : Option Value} {a b : Int32} : am_run G d K_M_next (132, [l0, l1, l2], .int b :: .int a :: st, M) = if b ≤ a then am_run G d K_M_next (160, [l0, l1, l2], st, M) else am_run G d K_M_next (135, [l0, l1, l2], st, M) := by
  split
  · next h => exact am_run_next (x := (.if_icmp .ge 28, 3, 0, 0, 0, 0)) (by decide +kernel) (am_br_t (decide_eq_true h) (by decide))
  · next h => exact am_run_next (x := (.if_icmp .ge 28, 3, 0, 0, 0, 0)) (by decide +kernel) (am_br_f (decide_eq_false h) (by decide))
theorem r_M_next_135 {G : Nat → Value} {d : Nat} {st : List Value} {M : am_M} {l0 l1 l2 : Option Value} : am_run G d K_M_next (135, [l0, l1, l2], st, M) = am_run G d K_M_next (138, [l0, l1, l2], .long 27 :: st, M) := am_run_next (x := (.ldc2_w 235, 3, 0, 0, 6047, 27)) (by decide +kernel) rfl
theorem r_M_next_138 {G : Nat → Value} {d : Nat} {st : List Value} {M : am_M} {l1 l2 : Option Value} {v : Value} (hv : am_isr v = true) : am_run G d K_M_next (138, [some v, l1, l2], st, M) = am_run G d K_M_next (139, [some v, l1, l2], v :: st, M) := by
  rcases am_isr_cases hv with ⟨q, rfl⟩ | rfl
  · exact am_run_next (x := (.aload_n 0, 1, 0, 0, 0, 0)) (by decide +kernel) rfl
  · exact am_run_next (x := (.aload_n 0, 1, 0, 0, 0, 0)) (by decide +kernel) rfl
theorem r_M_next_139 {G : Nat → Value} {d : Nat} {st : List Value} {M : am_M} {l0 l1 l2 : Option Value} {a : Nat} : am_run G d K_M_next (139, [l0, l1, l2], .ref a :: st, M) = am_kf G d K_M_next 142 [l0, l1, l2] st M (am_fld M a 10 32) := am_run_kf (x := (.getfield 231, 3, 10, 32, 5051, 0)) (by decide +kernel) rfl
theorem r_M_next_142 {G : Nat → Value} {d : Nat} {st : List Value} {M : am_M} {l0 l1 l2 : Option Value} {a b : Int64} : am_run G d K_M_next (142, [l0, l1, l2], .long b :: .long a :: st, M) = am_run G d K_M_next (143, [l0, l1, l2], .long (a * b) :: st, M) := am_run_next (x := (.lmul, 1, 0, 0, 0, 0)) (by decide +kernel) rfl
theorem r_M_next_143 {G : Nat → Value} {d : Nat} {st : List Value} {M : am_M} {l1 l2 : Option Value} {v : Value} (hv : am_isr v = true) : am_run G d K_M_next (143, [some v, l1, l2], st, M) = am_run G d K_M_next (144, [some v, l1, l2], v :: st, M) := by
  rcases am_isr_cases hv with ⟨q, rfl⟩ | rfl
  · exact am_run_next (x := (.aload_n 0, 1, 0, 0, 0, 0)) (by decide +kernel) rfl
  · exact am_run_next (x := (.aload_n 0, 1, 0, 0, 0, 0)) (by decide +kernel) rfl
theorem r_M_next_144 {G : Nat → Value} {d : Nat} {st : List Value} {M : am_M} {l1 l2 : Option Value} {v : Value} (hv : am_isr v = true) : am_run G d K_M_next (144, [some v, l1, l2], st, M) = am_run G d K_M_next (145, [some v, l1, l2], v :: st, M) := by
  rcases am_isr_cases hv with ⟨q, rfl⟩ | rfl
  · exact am_run_next (x := (.aload_n 0, 1, 0, 0, 0, 0)) (by decide +kernel) rfl
  · exact am_run_next (x := (.aload_n 0, 1, 0, 0, 0, 0)) (by decide +kernel) rfl
theorem r_M_next_145 {G : Nat → Value} {d : Nat} {st : List Value} {M : am_M} {l0 l1 l2 : Option Value} {a : Nat} : am_run G d K_M_next (145, [l0, l1, l2], .ref a :: st, M) = am_kf G d K_M_next 148 [l0, l1, l2] st M (am_fld M a 10 33) := am_run_kf (x := (.getfield 215, 3, 10, 33, 5052, 0)) (by decide +kernel) rfl
theorem r_M_next_148 {G : Nat → Value} {d : Nat} {st : List Value} {M : am_M} {l0 l1 l2 : Option Value} {q : Nat} {a0 : Int32} (hq : am_cls M q = some 10) (h8 : am_sw st ≤ 8) : am_run G d K_M_next (148, [l0, l1, l2], .int a0 :: .ref q :: st, M) = am_k G d K_M_next 151 [l0, l1, l2] st (am_ex G d K_M_byteAt [.ref q, .int a0] M) := am_run_iv (i := 218) (n := 1) (pl := 6041) (Bs := [.int a0]) (z := K_M_byteAt) (by decide +kernel) hq h8 rfl (Nat.le_of_ble_eq_true rfl) rfl
theorem r_M_next_151 {G : Nat → Value} {d : Nat} {st : List Value} {M : am_M} {l0 l1 l2 : Option Value} {a : Int32} : am_run G d K_M_next (151, [l0, l1, l2], .int a :: st, M) = am_run G d K_M_next (152, [l0, l1, l2], .long a.toInt64 :: st, M) := am_run_next (x := (.i2l, 1, 0, 0, 0, 0)) (by decide +kernel) rfl
theorem r_M_next_152 {G : Nat → Value} {d : Nat} {st : List Value} {M : am_M} {l0 l1 l2 : Option Value} {a b : Int64} : am_run G d K_M_next (152, [l0, l1, l2], .long b :: .long a :: st, M) = am_run G d K_M_next (153, [l0, l1, l2], .long (a + b) :: st, M) := am_run_next (x := (.ladd, 1, 0, 0, 0, 0)) (by decide +kernel) rfl
theorem r_M_next_153 {G : Nat → Value} {d : Nat} {st : List Value} {M : am_M} {l0 l1 l2 : Option Value} : am_run G d K_M_next (153, [l0, l1, l2], st, M) = am_run G d K_M_next (156, [l0, l1, l2], .long 96 :: st, M) := am_run_next (x := (.ldc2_w 237, 3, 0, 0, 6048, 96)) (by decide +kernel) rfl
theorem r_M_next_156 {G : Nat → Value} {d : Nat} {st : List Value} {M : am_M} {l0 l1 l2 : Option Value} {a b : Int64} : am_run G d K_M_next (156, [l0, l1, l2], .long b :: .long a :: st, M) = am_run G d K_M_next (157, [l0, l1, l2], .long (a - b) :: st, M) := am_run_next (x := (.lsub, 1, 0, 0, 0, 0)) (by decide +kernel) rfl
theorem r_M_next_157 {G : Nat → Value} {d : Nat} {st : List Value} {M : am_M} {l0 l1 l2 : Option Value} : am_run G d K_M_next (157, [l0, l1, l2], st, M) = am_run G d K_M_next (163, [l0, l1, l2], st, M) := am_run_next (x := (.goto 6, 3, 0, 0, 0, 0)) (by decide +kernel) rfl
theorem r_M_next_160 {G : Nat → Value} {d : Nat} {st : List Value} {M : am_M} {l0 l1 l2 : Option Value} : am_run G d K_M_next (160, [l0, l1, l2], st, M) = am_run G d K_M_next (163, [l0, l1, l2], .long (-1) :: st, M) := am_run_next (x := (.ldc2_w 239, 3, 0, 0, 6049, (-1))) (by decide +kernel) rfl
theorem r_M_next_163 {G : Nat → Value} {d : Nat} {st : List Value} {M : am_M} {l0 l1 l2 : Option Value} {a : Nat} {v : Value} : am_run G d K_M_next (163, [l0, l1, l2], v :: .ref a :: st, M) = am_km G d K_M_next 166 [l0, l1, l2] st (am_pf M a 10 32 .long v) := am_run_km (x := (.putfield 231, 3, 10, 32, 5051, 0)) (by decide +kernel) rfl
theorem r_M_next_166 {G : Nat → Value} {d : Nat} {st : List Value} {M : am_M} {l0 l1 : Option Value} {v : Int32} (hc : am_c1 l1 = true) : am_run G d K_M_next (166, [l0, l1, some (.int v)], st, M) = am_run G d K_M_next (169, [l0, l1, some (.int (v + 1))], st, M) := by
  rcases am_c1_cases hc with rfl | ⟨q, rfl⟩ | ⟨q, rfl⟩ | rfl
  · exact am_run_next (x := (.iinc 2 1, 3, 0, 0, 0, 0)) (by decide +kernel) rfl
  · exact am_run_next (x := (.iinc 2 1, 3, 0, 0, 0, 0)) (by decide +kernel) rfl
  · exact am_run_next (x := (.iinc 2 1, 3, 0, 0, 0, 0)) (by decide +kernel) rfl
  · exact am_run_next (x := (.iinc 2 1, 3, 0, 0, 0, 0)) (by decide +kernel) rfl
theorem r_M_next_166_k {G : Nat → Value} {d : Nat} {st : List Value} {M : am_M} {l0 : Option Value} {v : Int32} {z : Int64} : am_run G d K_M_next (166, [l0, some (.long z), some (.int v)], st, M) = am_run G d K_M_next (169, [l0, none, some (.int (v + 1))], st, M) := am_run_next (x := (.iinc 2 1, 3, 0, 0, 0, 0)) (by decide +kernel) rfl
theorem r_M_next_169 {G : Nat → Value} {d : Nat} {st : List Value} {M : am_M} {l1 l2 : Option Value} {v : Value} (hv : am_isr v = true) : am_run G d K_M_next (169, [some v, l1, l2], st, M) = am_run G d K_M_next (170, [some v, l1, l2], v :: st, M) := by
  rcases am_isr_cases hv with ⟨q, rfl⟩ | rfl
  · exact am_run_next (x := (.aload_n 0, 1, 0, 0, 0, 0)) (by decide +kernel) rfl
  · exact am_run_next (x := (.aload_n 0, 1, 0, 0, 0, 0)) (by decide +kernel) rfl
theorem r_M_next_170 {G : Nat → Value} {d : Nat} {st : List Value} {M : am_M} {l0 l1 l2 : Option Value} {v : Value} (hv : v.category = 1) : am_run G d K_M_next (170, [l0, l1, l2], v :: st, M) = am_run G d K_M_next (171, [l0, l1, l2], v :: v :: st, M) := am_run_next (x := (.dup, 1, 0, 0, 0, 0)) (by decide +kernel) (if_pos hv)
theorem r_M_next_171 {G : Nat → Value} {d : Nat} {st : List Value} {M : am_M} {l0 l1 l2 : Option Value} {a : Nat} : am_run G d K_M_next (171, [l0, l1, l2], .ref a :: st, M) = am_kf G d K_M_next 174 [l0, l1, l2] st M (am_fld M a 10 33) := am_run_kf (x := (.getfield 215, 3, 10, 33, 5052, 0)) (by decide +kernel) rfl
theorem r_M_next_174 {G : Nat → Value} {d : Nat} {st : List Value} {M : am_M} {l0 l1 l2 : Option Value} : am_run G d K_M_next (174, [l0, l1, l2], st, M) = am_run G d K_M_next (175, [l0, l1, l2], .int 1 :: st, M) := am_run_next (x := (.iconst 1, 1, 0, 0, 0, 0)) (by decide +kernel) rfl
theorem r_M_next_175 {G : Nat → Value} {d : Nat} {st : List Value} {M : am_M} {l0 l1 l2 : Option Value} {a b : Int32} : am_run G d K_M_next (175, [l0, l1, l2], .int b :: .int a :: st, M) = am_run G d K_M_next (176, [l0, l1, l2], .int (a + b) :: st, M) := am_run_next (x := (.iadd, 1, 0, 0, 0, 0)) (by decide +kernel) rfl
theorem r_M_next_176 {G : Nat → Value} {d : Nat} {st : List Value} {M : am_M} {l0 l1 l2 : Option Value} {a : Nat} {v : Value} : am_run G d K_M_next (176, [l0, l1, l2], v :: .ref a :: st, M) = am_km G d K_M_next 179 [l0, l1, l2] st (am_pf M a 10 33 .int v) := am_run_km (x := (.putfield 215, 3, 10, 33, 5052, 0)) (by decide +kernel) rfl
theorem r_M_next_179 {G : Nat → Value} {d : Nat} {st : List Value} {M : am_M} {l0 l1 l2 : Option Value} : am_run G d K_M_next (179, [l0, l1, l2], st, M) = am_run G d K_M_next (107, [l0, l1, l2], st, M) := am_run_next (x := (.goto (-72), 3, 0, 0, 0, 0)) (by decide +kernel) rfl
theorem r_M_next_182 {G : Nat → Value} {d : Nat} {st : List Value} {M : am_M} {l0 l1 l2 : Option Value} : am_run G d K_M_next (182, [l0, l1, l2], st, M) = am_run G d K_M_next (372, [l0, l1, l2], st, M) := am_run_next (x := (.goto 190, 3, 0, 0, 0, 0)) (by decide +kernel) rfl
theorem r_M_next_185 {G : Nat → Value} {d : Nat} {st : List Value} {M : am_M} {l0 l2 : Option Value} {v : Int32} : am_run G d K_M_next (185, [l0, some (.int v), l2], st, M) = am_run G d K_M_next (186, [l0, some (.int v), l2], .int v :: st, M) := am_run_next (x := (.iload_n 1, 1, 0, 0, 0, 0)) (by decide +kernel) rfl
theorem r_M_next_186 {G : Nat → Value} {d : Nat} {st : List Value} {M : am_M} {l0 l1 l2 : Option Value} {a : Int32} : am_run G d K_M_next (186, [l0, l1, l2], .int a :: st, M) = am_run G d K_M_next (187, [l0, l1, l2], .long a.toInt64 :: st, M) := am_run_next (x := (.i2l, 1, 0, 0, 0, 0)) (by decide +kernel) rfl
theorem r_M_next_187 {G : Nat → Value} {d : Nat} {st : List Value} {M : am_M} {l0 l1 l2 : Option Value} : am_run G d K_M_next (187, [l0, l1, l2], st, M) = am_run G d K_M_next (190, [l0, l1, l2], .long 48 :: st, M) := am_run_next (x := (.ldc2_w 241, 3, 0, 0, 6050, 48)) (by decide +kernel) rfl
theorem r_M_next_190 {G : Nat → Value} {d : Nat} {st : List Value} {M : am_M} {l0 l1 l2 : Option Value} : am_run G d K_M_next (190, [l0, l1, l2], st, M) = am_run G d K_M_next (193, [l0, l1, l2], .long 57 :: st, M) := am_run_next (x := (.ldc2_w 243, 3, 0, 0, 6051, 57)) (by decide +kernel) rfl
theorem r_M_next_193 {G : Nat → Value} {d : Nat} {st : List Value} {M : am_M} {l0 l1 l2 : Option Value} {a0 : Int64} {a1 : Int64} {a2 : Int64} (h8 : am_sw st ≤ 8) : am_run G d K_M_next (193, [l0, l1, l2], .long a2 :: .long a1 :: .long a0 :: st, M) = am_k G d K_M_next 196 [l0, l1, l2] st (am_ex G d K_M_in [.long a0, .long a1, .long a2] M) := am_run_is (i := 128) (n := 3) (pl := 5200) (Bs := [.long a0, .long a1, .long a2]) (z := K_M_in) (v := 1) (by decide) (by decide) (by decide +kernel) h8 rfl (Nat.le_of_ble_eq_true rfl) rfl
theorem r_M_next_196 {G : Nat → Value} {d : Nat} {st : List Value} {M : am_M} {l0 l1 l2 : Option Value} {a : Int32} : am_run G d K_M_next (196, [l0, l1, l2], .int a :: st, M) = if a = 0 then am_run G d K_M_next (303, [l0, l1, l2], st, M) else am_run G d K_M_next (199, [l0, l1, l2], st, M) := by
  split
  · next h => exact am_run_next (x := (.ifCond .eq 107, 3, 0, 0, 0, 0)) (by decide +kernel) (am_br_t (decide_eq_true h) (by decide))
  · next h => exact am_run_next (x := (.ifCond .eq 107, 3, 0, 0, 0, 0)) (by decide +kernel) (am_br_f (decide_eq_false h) (by decide))
theorem r_M_next_199 {G : Nat → Value} {d : Nat} {st : List Value} {M : am_M} {l1 l2 : Option Value} {v : Value} (hv : am_isr v = true) : am_run G d K_M_next (199, [some v, l1, l2], st, M) = am_run G d K_M_next (200, [some v, l1, l2], v :: st, M) := by
  rcases am_isr_cases hv with ⟨q, rfl⟩ | rfl
  · exact am_run_next (x := (.aload_n 0, 1, 0, 0, 0, 0)) (by decide +kernel) rfl
  · exact am_run_next (x := (.aload_n 0, 1, 0, 0, 0, 0)) (by decide +kernel) rfl
theorem r_M_next_200 {G : Nat → Value} {d : Nat} {st : List Value} {M : am_M} {l0 l1 l2 : Option Value} : am_run G d K_M_next (200, [l0, l1, l2], st, M) = am_run G d K_M_next (201, [l0, l1, l2], .int 2 :: st, M) := am_run_next (x := (.iconst 2, 1, 0, 0, 0, 0)) (by decide +kernel) rfl
theorem r_M_next_201 {G : Nat → Value} {d : Nat} {st : List Value} {M : am_M} {l0 l1 l2 : Option Value} {a : Nat} {v : Value} : am_run G d K_M_next (201, [l0, l1, l2], v :: .ref a :: st, M) = am_km G d K_M_next 204 [l0, l1, l2] st (am_pf M a 10 30 .int v) := am_run_km (x := (.putfield 224, 3, 10, 30, 5049, 0)) (by decide +kernel) rfl
theorem r_M_next_204 {G : Nat → Value} {d : Nat} {st : List Value} {M : am_M} {l1 l2 : Option Value} {v : Value} (hv : am_isr v = true) : am_run G d K_M_next (204, [some v, l1, l2], st, M) = am_run G d K_M_next (205, [some v, l1, l2], v :: st, M) := by
  rcases am_isr_cases hv with ⟨q, rfl⟩ | rfl
  · exact am_run_next (x := (.aload_n 0, 1, 0, 0, 0, 0)) (by decide +kernel) rfl
  · exact am_run_next (x := (.aload_n 0, 1, 0, 0, 0, 0)) (by decide +kernel) rfl
theorem r_M_next_205 {G : Nat → Value} {d : Nat} {st : List Value} {M : am_M} {l0 l1 l2 : Option Value} : am_run G d K_M_next (205, [l0, l1, l2], st, M) = am_run G d K_M_next (206, [l0, l1, l2], .long 0 :: st, M) := am_run_next (x := (.lconst 0, 1, 0, 0, 0, 0)) (by decide +kernel) rfl
theorem r_M_next_206 {G : Nat → Value} {d : Nat} {st : List Value} {M : am_M} {l0 l1 l2 : Option Value} {a : Nat} {v : Value} : am_run G d K_M_next (206, [l0, l1, l2], v :: .ref a :: st, M) = am_km G d K_M_next 209 [l0, l1, l2] st (am_pf M a 10 32 .long v) := am_run_km (x := (.putfield 231, 3, 10, 32, 5051, 0)) (by decide +kernel) rfl
theorem r_M_next_209 {G : Nat → Value} {d : Nat} {st : List Value} {M : am_M} {l0 l1 l2 : Option Value} : am_run G d K_M_next (209, [l0, l1, l2], st, M) = am_run G d K_M_next (210, [l0, l1, l2], .int 0 :: st, M) := am_run_next (x := (.iconst 0, 1, 0, 0, 0, 0)) (by decide +kernel) rfl
theorem r_M_next_210 {G : Nat → Value} {d : Nat} {st : List Value} {M : am_M} {l0 l1 l2 : Option Value} {v : Int32} (hc : am_c1 l1 = true) : am_run G d K_M_next (210, [l0, l1, l2], .int v :: st, M) = am_run G d K_M_next (211, [l0, l1, some (.int v)], st, M) := by
  rcases am_c1_cases hc with rfl | ⟨q, rfl⟩ | ⟨q, rfl⟩ | rfl
  · exact am_run_next (x := (.istore_n 2, 1, 0, 0, 0, 0)) (by decide +kernel) rfl
  · exact am_run_next (x := (.istore_n 2, 1, 0, 0, 0, 0)) (by decide +kernel) rfl
  · exact am_run_next (x := (.istore_n 2, 1, 0, 0, 0, 0)) (by decide +kernel) rfl
  · exact am_run_next (x := (.istore_n 2, 1, 0, 0, 0, 0)) (by decide +kernel) rfl
theorem r_M_next_210_k {G : Nat → Value} {d : Nat} {st : List Value} {M : am_M} {l0 l2 : Option Value} {v : Int32} {z : Int64} : am_run G d K_M_next (210, [l0, some (.long z), l2], .int v :: st, M) = am_run G d K_M_next (211, [l0, none, some (.int v)], st, M) := am_run_next (x := (.istore_n 2, 1, 0, 0, 0, 0)) (by decide +kernel) rfl
theorem r_M_next_211 {G : Nat → Value} {d : Nat} {st : List Value} {M : am_M} {l1 l2 : Option Value} {v : Value} (hv : am_isr v = true) : am_run G d K_M_next (211, [some v, l1, l2], st, M) = am_run G d K_M_next (212, [some v, l1, l2], v :: st, M) := by
  rcases am_isr_cases hv with ⟨q, rfl⟩ | rfl
  · exact am_run_next (x := (.aload_n 0, 1, 0, 0, 0, 0)) (by decide +kernel) rfl
  · exact am_run_next (x := (.aload_n 0, 1, 0, 0, 0, 0)) (by decide +kernel) rfl
theorem r_M_next_212 {G : Nat → Value} {d : Nat} {st : List Value} {M : am_M} {l1 l2 : Option Value} {v : Value} (hv : am_isr v = true) : am_run G d K_M_next (212, [some v, l1, l2], st, M) = am_run G d K_M_next (213, [some v, l1, l2], v :: st, M) := by
  rcases am_isr_cases hv with ⟨q, rfl⟩ | rfl
  · exact am_run_next (x := (.aload_n 0, 1, 0, 0, 0, 0)) (by decide +kernel) rfl
  · exact am_run_next (x := (.aload_n 0, 1, 0, 0, 0, 0)) (by decide +kernel) rfl
theorem r_M_next_213 {G : Nat → Value} {d : Nat} {st : List Value} {M : am_M} {l0 l1 l2 : Option Value} {a : Nat} : am_run G d K_M_next (213, [l0, l1, l2], .ref a :: st, M) = am_kf G d K_M_next 216 [l0, l1, l2] st M (am_fld M a 10 33) := am_run_kf (x := (.getfield 215, 3, 10, 33, 5052, 0)) (by decide +kernel) rfl
theorem r_M_next_216 {G : Nat → Value} {d : Nat} {st : List Value} {M : am_M} {l0 l1 l2 : Option Value} {q : Nat} {a0 : Int32} (hq : am_cls M q = some 10) (h8 : am_sw st ≤ 8) : am_run G d K_M_next (216, [l0, l1, l2], .int a0 :: .ref q :: st, M) = am_k G d K_M_next 219 [l0, l1, l2] st (am_ex G d K_M_byteAt [.ref q, .int a0] M) := am_run_iv (i := 218) (n := 1) (pl := 6041) (Bs := [.int a0]) (z := K_M_byteAt) (by decide +kernel) hq h8 rfl (Nat.le_of_ble_eq_true rfl) rfl
theorem r_M_next_219 {G : Nat → Value} {d : Nat} {st : List Value} {M : am_M} {l0 l1 l2 : Option Value} {a : Int32} : am_run G d K_M_next (219, [l0, l1, l2], .int a :: st, M) = am_run G d K_M_next (220, [l0, l1, l2], .long a.toInt64 :: st, M) := am_run_next (x := (.i2l, 1, 0, 0, 0, 0)) (by decide +kernel) rfl
theorem r_M_next_220 {G : Nat → Value} {d : Nat} {st : List Value} {M : am_M} {l0 l1 l2 : Option Value} : am_run G d K_M_next (220, [l0, l1, l2], st, M) = am_run G d K_M_next (223, [l0, l1, l2], .long 48 :: st, M) := am_run_next (x := (.ldc2_w 241, 3, 0, 0, 6050, 48)) (by decide +kernel) rfl
theorem r_M_next_223 {G : Nat → Value} {d : Nat} {st : List Value} {M : am_M} {l0 l1 l2 : Option Value} : am_run G d K_M_next (223, [l0, l1, l2], st, M) = am_run G d K_M_next (226, [l0, l1, l2], .long 57 :: st, M) := am_run_next (x := (.ldc2_w 243, 3, 0, 0, 6051, 57)) (by decide +kernel) rfl
theorem r_M_next_226 {G : Nat → Value} {d : Nat} {st : List Value} {M : am_M} {l0 l1 l2 : Option Value} {a0 : Int64} {a1 : Int64} {a2 : Int64} (h8 : am_sw st ≤ 8) : am_run G d K_M_next (226, [l0, l1, l2], .long a2 :: .long a1 :: .long a0 :: st, M) = am_k G d K_M_next 229 [l0, l1, l2] st (am_ex G d K_M_in [.long a0, .long a1, .long a2] M) := am_run_is (i := 128) (n := 3) (pl := 5200) (Bs := [.long a0, .long a1, .long a2]) (z := K_M_in) (v := 1) (by decide) (by decide) (by decide +kernel) h8 rfl (Nat.le_of_ble_eq_true rfl) rfl
theorem r_M_next_229 {G : Nat → Value} {d : Nat} {st : List Value} {M : am_M} {l0 l1 l2 : Option Value} {a : Int32} : am_run G d K_M_next (229, [l0, l1, l2], .int a :: st, M) = if a = 0 then am_run G d K_M_next (286, [l0, l1, l2], st, M) else am_run G d K_M_next (232, [l0, l1, l2], st, M) := by
  split
  · next h => exact am_run_next (x := (.ifCond .eq 57, 3, 0, 0, 0, 0)) (by decide +kernel) (am_br_t (decide_eq_true h) (by decide))
  · next h => exact am_run_next (x := (.ifCond .eq 57, 3, 0, 0, 0, 0)) (by decide +kernel) (am_br_f (decide_eq_false h) (by decide))
theorem r_M_next_232 {G : Nat → Value} {d : Nat} {st : List Value} {M : am_M} {l1 l2 : Option Value} {v : Value} (hv : am_isr v = true) : am_run G d K_M_next (232, [some v, l1, l2], st, M) = am_run G d K_M_next (233, [some v, l1, l2], v :: st, M) := by
  rcases am_isr_cases hv with ⟨q, rfl⟩ | rfl
  · exact am_run_next (x := (.aload_n 0, 1, 0, 0, 0, 0)) (by decide +kernel) rfl
  · exact am_run_next (x := (.aload_n 0, 1, 0, 0, 0, 0)) (by decide +kernel) rfl
theorem r_M_next_233 {G : Nat → Value} {d : Nat} {st : List Value} {M : am_M} {l0 l1 : Option Value} {v : Int32} : am_run G d K_M_next (233, [l0, l1, some (.int v)], st, M) = am_run G d K_M_next (234, [l0, l1, some (.int v)], .int v :: st, M) := am_run_next (x := (.iload_n 2, 1, 0, 0, 0, 0)) (by decide +kernel) rfl
theorem r_M_next_234 {G : Nat → Value} {d : Nat} {st : List Value} {M : am_M} {l0 l1 l2 : Option Value} : am_run G d K_M_next (234, [l0, l1, l2], st, M) = am_run G d K_M_next (235, [l0, l1, l2], .int 4 :: st, M) := am_run_next (x := (.iconst 4, 1, 0, 0, 0, 0)) (by decide +kernel) rfl
theorem r_M_next_235 {G : Nat → Value} {d : Nat} {st : List Value} {M : am_M} {l0 l1 l2 : Option Value} {a b : Int32} : am_run G d K_M_next (235, [l0, l1, l2], .int b :: .int a :: st, M) = if b ≤ a then am_run G d K_M_next (263, [l0, l1, l2], st, M) else am_run G d K_M_next (238, [l0, l1, l2], st, M) := by
  split
  · next h => exact am_run_next (x := (.if_icmp .ge 28, 3, 0, 0, 0, 0)) (by decide +kernel) (am_br_t (decide_eq_true h) (by decide))
  · next h => exact am_run_next (x := (.if_icmp .ge 28, 3, 0, 0, 0, 0)) (by decide +kernel) (am_br_f (decide_eq_false h) (by decide))
theorem r_M_next_238 {G : Nat → Value} {d : Nat} {st : List Value} {M : am_M} {l0 l1 l2 : Option Value} : am_run G d K_M_next (238, [l0, l1, l2], st, M) = am_run G d K_M_next (241, [l0, l1, l2], .long 10 :: st, M) := am_run_next (x := (.ldc2_w 245, 3, 0, 0, 6052, 10)) (by decide +kernel) rfl
theorem r_M_next_241 {G : Nat → Value} {d : Nat} {st : List Value} {M : am_M} {l1 l2 : Option Value} {v : Value} (hv : am_isr v = true) : am_run G d K_M_next (241, [some v, l1, l2], st, M) = am_run G d K_M_next (242, [some v, l1, l2], v :: st, M) := by
  rcases am_isr_cases hv with ⟨q, rfl⟩ | rfl
  · exact am_run_next (x := (.aload_n 0, 1, 0, 0, 0, 0)) (by decide +kernel) rfl
  · exact am_run_next (x := (.aload_n 0, 1, 0, 0, 0, 0)) (by decide +kernel) rfl
theorem r_M_next_242 {G : Nat → Value} {d : Nat} {st : List Value} {M : am_M} {l0 l1 l2 : Option Value} {a : Nat} : am_run G d K_M_next (242, [l0, l1, l2], .ref a :: st, M) = am_kf G d K_M_next 245 [l0, l1, l2] st M (am_fld M a 10 32) := am_run_kf (x := (.getfield 231, 3, 10, 32, 5051, 0)) (by decide +kernel) rfl
theorem r_M_next_245 {G : Nat → Value} {d : Nat} {st : List Value} {M : am_M} {l0 l1 l2 : Option Value} {a b : Int64} : am_run G d K_M_next (245, [l0, l1, l2], .long b :: .long a :: st, M) = am_run G d K_M_next (246, [l0, l1, l2], .long (a * b) :: st, M) := am_run_next (x := (.lmul, 1, 0, 0, 0, 0)) (by decide +kernel) rfl
theorem r_M_next_246 {G : Nat → Value} {d : Nat} {st : List Value} {M : am_M} {l1 l2 : Option Value} {v : Value} (hv : am_isr v = true) : am_run G d K_M_next (246, [some v, l1, l2], st, M) = am_run G d K_M_next (247, [some v, l1, l2], v :: st, M) := by
  rcases am_isr_cases hv with ⟨q, rfl⟩ | rfl
  · exact am_run_next (x := (.aload_n 0, 1, 0, 0, 0, 0)) (by decide +kernel) rfl
  · exact am_run_next (x := (.aload_n 0, 1, 0, 0, 0, 0)) (by decide +kernel) rfl
theorem r_M_next_247 {G : Nat → Value} {d : Nat} {st : List Value} {M : am_M} {l1 l2 : Option Value} {v : Value} (hv : am_isr v = true) : am_run G d K_M_next (247, [some v, l1, l2], st, M) = am_run G d K_M_next (248, [some v, l1, l2], v :: st, M) := by
  rcases am_isr_cases hv with ⟨q, rfl⟩ | rfl
  · exact am_run_next (x := (.aload_n 0, 1, 0, 0, 0, 0)) (by decide +kernel) rfl
  · exact am_run_next (x := (.aload_n 0, 1, 0, 0, 0, 0)) (by decide +kernel) rfl
theorem r_M_next_248 {G : Nat → Value} {d : Nat} {st : List Value} {M : am_M} {l0 l1 l2 : Option Value} {a : Nat} : am_run G d K_M_next (248, [l0, l1, l2], .ref a :: st, M) = am_kf G d K_M_next 251 [l0, l1, l2] st M (am_fld M a 10 33) := am_run_kf (x := (.getfield 215, 3, 10, 33, 5052, 0)) (by decide +kernel) rfl
theorem r_M_next_251 {G : Nat → Value} {d : Nat} {st : List Value} {M : am_M} {l0 l1 l2 : Option Value} {q : Nat} {a0 : Int32} (hq : am_cls M q = some 10) (h8 : am_sw st ≤ 8) : am_run G d K_M_next (251, [l0, l1, l2], .int a0 :: .ref q :: st, M) = am_k G d K_M_next 254 [l0, l1, l2] st (am_ex G d K_M_byteAt [.ref q, .int a0] M) := am_run_iv (i := 218) (n := 1) (pl := 6041) (Bs := [.int a0]) (z := K_M_byteAt) (by decide +kernel) hq h8 rfl (Nat.le_of_ble_eq_true rfl) rfl
theorem r_M_next_254 {G : Nat → Value} {d : Nat} {st : List Value} {M : am_M} {l0 l1 l2 : Option Value} {a : Int32} : am_run G d K_M_next (254, [l0, l1, l2], .int a :: st, M) = am_run G d K_M_next (255, [l0, l1, l2], .long a.toInt64 :: st, M) := am_run_next (x := (.i2l, 1, 0, 0, 0, 0)) (by decide +kernel) rfl
theorem r_M_next_255 {G : Nat → Value} {d : Nat} {st : List Value} {M : am_M} {l0 l1 l2 : Option Value} {a b : Int64} : am_run G d K_M_next (255, [l0, l1, l2], .long b :: .long a :: st, M) = am_run G d K_M_next (256, [l0, l1, l2], .long (a + b) :: st, M) := am_run_next (x := (.ladd, 1, 0, 0, 0, 0)) (by decide +kernel) rfl
theorem r_M_next_256 {G : Nat → Value} {d : Nat} {st : List Value} {M : am_M} {l0 l1 l2 : Option Value} : am_run G d K_M_next (256, [l0, l1, l2], st, M) = am_run G d K_M_next (259, [l0, l1, l2], .long 48 :: st, M) := am_run_next (x := (.ldc2_w 241, 3, 0, 0, 6050, 48)) (by decide +kernel) rfl
theorem r_M_next_259 {G : Nat → Value} {d : Nat} {st : List Value} {M : am_M} {l0 l1 l2 : Option Value} {a b : Int64} : am_run G d K_M_next (259, [l0, l1, l2], .long b :: .long a :: st, M) = am_run G d K_M_next (260, [l0, l1, l2], .long (a - b) :: st, M) := am_run_next (x := (.lsub, 1, 0, 0, 0, 0)) (by decide +kernel) rfl
theorem r_M_next_260 {G : Nat → Value} {d : Nat} {st : List Value} {M : am_M} {l0 l1 l2 : Option Value} : am_run G d K_M_next (260, [l0, l1, l2], st, M) = am_run G d K_M_next (267, [l0, l1, l2], st, M) := am_run_next (x := (.goto 7, 3, 0, 0, 0, 0)) (by decide +kernel) rfl
theorem r_M_next_263 {G : Nat → Value} {d : Nat} {st : List Value} {M : am_M} {l1 l2 : Option Value} {v : Value} (hv : am_isr v = true) : am_run G d K_M_next (263, [some v, l1, l2], st, M) = am_run G d K_M_next (264, [some v, l1, l2], v :: st, M) := by
  rcases am_isr_cases hv with ⟨q, rfl⟩ | rfl
  · exact am_run_next (x := (.aload_n 0, 1, 0, 0, 0, 0)) (by decide +kernel) rfl
  · exact am_run_next (x := (.aload_n 0, 1, 0, 0, 0, 0)) (by decide +kernel) rfl
theorem r_M_next_264 {G : Nat → Value} {d : Nat} {st : List Value} {M : am_M} {l0 l1 l2 : Option Value} {a : Nat} : am_run G d K_M_next (264, [l0, l1, l2], .ref a :: st, M) = am_kf G d K_M_next 267 [l0, l1, l2] st M (am_fld M a 10 32) := am_run_kf (x := (.getfield 231, 3, 10, 32, 5051, 0)) (by decide +kernel) rfl
theorem r_M_next_267 {G : Nat → Value} {d : Nat} {st : List Value} {M : am_M} {l0 l1 l2 : Option Value} {a : Nat} {v : Value} : am_run G d K_M_next (267, [l0, l1, l2], v :: .ref a :: st, M) = am_km G d K_M_next 270 [l0, l1, l2] st (am_pf M a 10 32 .long v) := am_run_km (x := (.putfield 231, 3, 10, 32, 5051, 0)) (by decide +kernel) rfl
theorem r_M_next_270 {G : Nat → Value} {d : Nat} {st : List Value} {M : am_M} {l0 l1 : Option Value} {v : Int32} (hc : am_c1 l1 = true) : am_run G d K_M_next (270, [l0, l1, some (.int v)], st, M) = am_run G d K_M_next (273, [l0, l1, some (.int (v + 1))], st, M) := by
  rcases am_c1_cases hc with rfl | ⟨q, rfl⟩ | ⟨q, rfl⟩ | rfl
  · exact am_run_next (x := (.iinc 2 1, 3, 0, 0, 0, 0)) (by decide +kernel) rfl
  · exact am_run_next (x := (.iinc 2 1, 3, 0, 0, 0, 0)) (by decide +kernel) rfl
  · exact am_run_next (x := (.iinc 2 1, 3, 0, 0, 0, 0)) (by decide +kernel) rfl
  · exact am_run_next (x := (.iinc 2 1, 3, 0, 0, 0, 0)) (by decide +kernel) rfl
theorem r_M_next_270_k {G : Nat → Value} {d : Nat} {st : List Value} {M : am_M} {l0 : Option Value} {v : Int32} {z : Int64} : am_run G d K_M_next (270, [l0, some (.long z), some (.int v)], st, M) = am_run G d K_M_next (273, [l0, none, some (.int (v + 1))], st, M) := am_run_next (x := (.iinc 2 1, 3, 0, 0, 0, 0)) (by decide +kernel) rfl
theorem r_M_next_273 {G : Nat → Value} {d : Nat} {st : List Value} {M : am_M} {l1 l2 : Option Value} {v : Value} (hv : am_isr v = true) : am_run G d K_M_next (273, [some v, l1, l2], st, M) = am_run G d K_M_next (274, [some v, l1, l2], v :: st, M) := by
  rcases am_isr_cases hv with ⟨q, rfl⟩ | rfl
  · exact am_run_next (x := (.aload_n 0, 1, 0, 0, 0, 0)) (by decide +kernel) rfl
  · exact am_run_next (x := (.aload_n 0, 1, 0, 0, 0, 0)) (by decide +kernel) rfl
theorem r_M_next_274 {G : Nat → Value} {d : Nat} {st : List Value} {M : am_M} {l0 l1 l2 : Option Value} {v : Value} (hv : v.category = 1) : am_run G d K_M_next (274, [l0, l1, l2], v :: st, M) = am_run G d K_M_next (275, [l0, l1, l2], v :: v :: st, M) := am_run_next (x := (.dup, 1, 0, 0, 0, 0)) (by decide +kernel) (if_pos hv)
theorem r_M_next_275 {G : Nat → Value} {d : Nat} {st : List Value} {M : am_M} {l0 l1 l2 : Option Value} {a : Nat} : am_run G d K_M_next (275, [l0, l1, l2], .ref a :: st, M) = am_kf G d K_M_next 278 [l0, l1, l2] st M (am_fld M a 10 33) := am_run_kf (x := (.getfield 215, 3, 10, 33, 5052, 0)) (by decide +kernel) rfl
theorem r_M_next_278 {G : Nat → Value} {d : Nat} {st : List Value} {M : am_M} {l0 l1 l2 : Option Value} : am_run G d K_M_next (278, [l0, l1, l2], st, M) = am_run G d K_M_next (279, [l0, l1, l2], .int 1 :: st, M) := am_run_next (x := (.iconst 1, 1, 0, 0, 0, 0)) (by decide +kernel) rfl
theorem r_M_next_279 {G : Nat → Value} {d : Nat} {st : List Value} {M : am_M} {l0 l1 l2 : Option Value} {a b : Int32} : am_run G d K_M_next (279, [l0, l1, l2], .int b :: .int a :: st, M) = am_run G d K_M_next (280, [l0, l1, l2], .int (a + b) :: st, M) := am_run_next (x := (.iadd, 1, 0, 0, 0, 0)) (by decide +kernel) rfl
theorem r_M_next_280 {G : Nat → Value} {d : Nat} {st : List Value} {M : am_M} {l0 l1 l2 : Option Value} {a : Nat} {v : Value} : am_run G d K_M_next (280, [l0, l1, l2], v :: .ref a :: st, M) = am_km G d K_M_next 283 [l0, l1, l2] st (am_pf M a 10 33 .int v) := am_run_km (x := (.putfield 215, 3, 10, 33, 5052, 0)) (by decide +kernel) rfl
theorem r_M_next_283 {G : Nat → Value} {d : Nat} {st : List Value} {M : am_M} {l0 l1 l2 : Option Value} : am_run G d K_M_next (283, [l0, l1, l2], st, M) = am_run G d K_M_next (211, [l0, l1, l2], st, M) := am_run_next (x := (.goto (-72), 3, 0, 0, 0, 0)) (by decide +kernel) rfl
theorem r_M_next_286 {G : Nat → Value} {d : Nat} {st : List Value} {M : am_M} {l1 l2 : Option Value} {v : Value} (hv : am_isr v = true) : am_run G d K_M_next (286, [some v, l1, l2], st, M) = am_run G d K_M_next (287, [some v, l1, l2], v :: st, M) := by
  rcases am_isr_cases hv with ⟨q, rfl⟩ | rfl
  · exact am_run_next (x := (.aload_n 0, 1, 0, 0, 0, 0)) (by decide +kernel) rfl
  · exact am_run_next (x := (.aload_n 0, 1, 0, 0, 0, 0)) (by decide +kernel) rfl
theorem r_M_next_287 {G : Nat → Value} {d : Nat} {st : List Value} {M : am_M} {l0 l1 : Option Value} {v : Int32} : am_run G d K_M_next (287, [l0, l1, some (.int v)], st, M) = am_run G d K_M_next (288, [l0, l1, some (.int v)], .int v :: st, M) := am_run_next (x := (.iload_n 2, 1, 0, 0, 0, 0)) (by decide +kernel) rfl
theorem r_M_next_288 {G : Nat → Value} {d : Nat} {st : List Value} {M : am_M} {l0 l1 l2 : Option Value} : am_run G d K_M_next (288, [l0, l1, l2], st, M) = am_run G d K_M_next (289, [l0, l1, l2], .int 4 :: st, M) := am_run_next (x := (.iconst 4, 1, 0, 0, 0, 0)) (by decide +kernel) rfl
theorem r_M_next_289 {G : Nat → Value} {d : Nat} {st : List Value} {M : am_M} {l0 l1 l2 : Option Value} {a b : Int32} : am_run G d K_M_next (289, [l0, l1, l2], .int b :: .int a :: st, M) = if a ≤ b then am_run G d K_M_next (296, [l0, l1, l2], st, M) else am_run G d K_M_next (292, [l0, l1, l2], st, M) := by
  split
  · next h => exact am_run_next (x := (.if_icmp .le 7, 3, 0, 0, 0, 0)) (by decide +kernel) (am_br_t (decide_eq_true h) (by decide))
  · next h => exact am_run_next (x := (.if_icmp .le 7, 3, 0, 0, 0, 0)) (by decide +kernel) (am_br_f (decide_eq_false h) (by decide))
theorem r_M_next_292 {G : Nat → Value} {d : Nat} {st : List Value} {M : am_M} {l0 l1 l2 : Option Value} : am_run G d K_M_next (292, [l0, l1, l2], st, M) = am_run G d K_M_next (293, [l0, l1, l2], .int 4 :: st, M) := am_run_next (x := (.iconst 4, 1, 0, 0, 0, 0)) (by decide +kernel) rfl
theorem r_M_next_293 {G : Nat → Value} {d : Nat} {st : List Value} {M : am_M} {l0 l1 l2 : Option Value} : am_run G d K_M_next (293, [l0, l1, l2], st, M) = am_run G d K_M_next (297, [l0, l1, l2], st, M) := am_run_next (x := (.goto 4, 3, 0, 0, 0, 0)) (by decide +kernel) rfl
theorem r_M_next_296 {G : Nat → Value} {d : Nat} {st : List Value} {M : am_M} {l0 l1 l2 : Option Value} : am_run G d K_M_next (296, [l0, l1, l2], st, M) = am_run G d K_M_next (297, [l0, l1, l2], .int 2 :: st, M) := am_run_next (x := (.iconst 2, 1, 0, 0, 0, 0)) (by decide +kernel) rfl
theorem r_M_next_297 {G : Nat → Value} {d : Nat} {st : List Value} {M : am_M} {l0 l1 l2 : Option Value} {a : Nat} {v : Value} : am_run G d K_M_next (297, [l0, l1, l2], v :: .ref a :: st, M) = am_km G d K_M_next 300 [l0, l1, l2] st (am_pf M a 10 30 .int v) := am_run_km (x := (.putfield 224, 3, 10, 30, 5049, 0)) (by decide +kernel) rfl
theorem r_M_next_300 {G : Nat → Value} {d : Nat} {st : List Value} {M : am_M} {l0 l1 l2 : Option Value} : am_run G d K_M_next (300, [l0, l1, l2], st, M) = am_run G d K_M_next (372, [l0, l1, l2], st, M) := am_run_next (x := (.goto 72, 3, 0, 0, 0, 0)) (by decide +kernel) rfl
theorem r_M_next_303 {G : Nat → Value} {d : Nat} {st : List Value} {M : am_M} {l0 l2 : Option Value} {v : Int32} : am_run G d K_M_next (303, [l0, some (.int v), l2], st, M) = am_run G d K_M_next (304, [l0, some (.int v), l2], .int v :: st, M) := am_run_next (x := (.iload_n 1, 1, 0, 0, 0, 0)) (by decide +kernel) rfl
theorem r_M_next_304 {G : Nat → Value} {d : Nat} {st : List Value} {M : am_M} {l0 l1 l2 : Option Value} : am_run G d K_M_next (304, [l0, l1, l2], st, M) = am_run G d K_M_next (306, [l0, l1, l2], .int 40 :: st, M) := am_run_next (x := (.bipush 40, 2, 0, 0, 0, 0)) (by decide +kernel) rfl
theorem r_M_next_306 {G : Nat → Value} {d : Nat} {st : List Value} {M : am_M} {l0 l1 l2 : Option Value} {a b : Int32} : am_run G d K_M_next (306, [l0, l1, l2], .int b :: .int a :: st, M) = if a = b then am_run G d K_M_next (351, [l0, l1, l2], st, M) else am_run G d K_M_next (309, [l0, l1, l2], st, M) := by
  split
  · next h => exact am_run_next (x := (.if_icmp .eq 45, 3, 0, 0, 0, 0)) (by decide +kernel) (am_br_t (decide_eq_true h) (by decide))
  · next h => exact am_run_next (x := (.if_icmp .eq 45, 3, 0, 0, 0, 0)) (by decide +kernel) (am_br_f (decide_eq_false h) (by decide))
theorem r_M_next_309 {G : Nat → Value} {d : Nat} {st : List Value} {M : am_M} {l0 l2 : Option Value} {v : Int32} : am_run G d K_M_next (309, [l0, some (.int v), l2], st, M) = am_run G d K_M_next (310, [l0, some (.int v), l2], .int v :: st, M) := am_run_next (x := (.iload_n 1, 1, 0, 0, 0, 0)) (by decide +kernel) rfl
theorem r_M_next_310 {G : Nat → Value} {d : Nat} {st : List Value} {M : am_M} {l0 l1 l2 : Option Value} : am_run G d K_M_next (310, [l0, l1, l2], st, M) = am_run G d K_M_next (312, [l0, l1, l2], .int 41 :: st, M) := am_run_next (x := (.bipush 41, 2, 0, 0, 0, 0)) (by decide +kernel) rfl
theorem r_M_next_312 {G : Nat → Value} {d : Nat} {st : List Value} {M : am_M} {l0 l1 l2 : Option Value} {a b : Int32} : am_run G d K_M_next (312, [l0, l1, l2], .int b :: .int a :: st, M) = if a = b then am_run G d K_M_next (351, [l0, l1, l2], st, M) else am_run G d K_M_next (315, [l0, l1, l2], st, M) := by
  split
  · next h => exact am_run_next (x := (.if_icmp .eq 39, 3, 0, 0, 0, 0)) (by decide +kernel) (am_br_t (decide_eq_true h) (by decide))
  · next h => exact am_run_next (x := (.if_icmp .eq 39, 3, 0, 0, 0, 0)) (by decide +kernel) (am_br_f (decide_eq_false h) (by decide))
theorem r_M_next_315 {G : Nat → Value} {d : Nat} {st : List Value} {M : am_M} {l0 l2 : Option Value} {v : Int32} : am_run G d K_M_next (315, [l0, some (.int v), l2], st, M) = am_run G d K_M_next (316, [l0, some (.int v), l2], .int v :: st, M) := am_run_next (x := (.iload_n 1, 1, 0, 0, 0, 0)) (by decide +kernel) rfl
theorem r_M_next_316 {G : Nat → Value} {d : Nat} {st : List Value} {M : am_M} {l0 l1 l2 : Option Value} : am_run G d K_M_next (316, [l0, l1, l2], st, M) = am_run G d K_M_next (318, [l0, l1, l2], .int 59 :: st, M) := am_run_next (x := (.bipush 59, 2, 0, 0, 0, 0)) (by decide +kernel) rfl
theorem r_M_next_318 {G : Nat → Value} {d : Nat} {st : List Value} {M : am_M} {l0 l1 l2 : Option Value} {a b : Int32} : am_run G d K_M_next (318, [l0, l1, l2], .int b :: .int a :: st, M) = if a = b then am_run G d K_M_next (351, [l0, l1, l2], st, M) else am_run G d K_M_next (321, [l0, l1, l2], st, M) := by
  split
  · next h => exact am_run_next (x := (.if_icmp .eq 33, 3, 0, 0, 0, 0)) (by decide +kernel) (am_br_t (decide_eq_true h) (by decide))
  · next h => exact am_run_next (x := (.if_icmp .eq 33, 3, 0, 0, 0, 0)) (by decide +kernel) (am_br_f (decide_eq_false h) (by decide))
theorem r_M_next_321 {G : Nat → Value} {d : Nat} {st : List Value} {M : am_M} {l0 l2 : Option Value} {v : Int32} : am_run G d K_M_next (321, [l0, some (.int v), l2], st, M) = am_run G d K_M_next (322, [l0, some (.int v), l2], .int v :: st, M) := am_run_next (x := (.iload_n 1, 1, 0, 0, 0, 0)) (by decide +kernel) rfl
theorem r_M_next_322 {G : Nat → Value} {d : Nat} {st : List Value} {M : am_M} {l0 l1 l2 : Option Value} : am_run G d K_M_next (322, [l0, l1, l2], st, M) = am_run G d K_M_next (324, [l0, l1, l2], .int 43 :: st, M) := am_run_next (x := (.bipush 43, 2, 0, 0, 0, 0)) (by decide +kernel) rfl
theorem r_M_next_324 {G : Nat → Value} {d : Nat} {st : List Value} {M : am_M} {l0 l1 l2 : Option Value} {a b : Int32} : am_run G d K_M_next (324, [l0, l1, l2], .int b :: .int a :: st, M) = if a = b then am_run G d K_M_next (351, [l0, l1, l2], st, M) else am_run G d K_M_next (327, [l0, l1, l2], st, M) := by
  split
  · next h => exact am_run_next (x := (.if_icmp .eq 27, 3, 0, 0, 0, 0)) (by decide +kernel) (am_br_t (decide_eq_true h) (by decide))
  · next h => exact am_run_next (x := (.if_icmp .eq 27, 3, 0, 0, 0, 0)) (by decide +kernel) (am_br_f (decide_eq_false h) (by decide))
theorem r_M_next_327 {G : Nat → Value} {d : Nat} {st : List Value} {M : am_M} {l0 l2 : Option Value} {v : Int32} : am_run G d K_M_next (327, [l0, some (.int v), l2], st, M) = am_run G d K_M_next (328, [l0, some (.int v), l2], .int v :: st, M) := am_run_next (x := (.iload_n 1, 1, 0, 0, 0, 0)) (by decide +kernel) rfl
theorem r_M_next_328 {G : Nat → Value} {d : Nat} {st : List Value} {M : am_M} {l0 l1 l2 : Option Value} : am_run G d K_M_next (328, [l0, l1, l2], st, M) = am_run G d K_M_next (330, [l0, l1, l2], .int 45 :: st, M) := am_run_next (x := (.bipush 45, 2, 0, 0, 0, 0)) (by decide +kernel) rfl
theorem r_M_next_330 {G : Nat → Value} {d : Nat} {st : List Value} {M : am_M} {l0 l1 l2 : Option Value} {a b : Int32} : am_run G d K_M_next (330, [l0, l1, l2], .int b :: .int a :: st, M) = if a = b then am_run G d K_M_next (351, [l0, l1, l2], st, M) else am_run G d K_M_next (333, [l0, l1, l2], st, M) := by
  split
  · next h => exact am_run_next (x := (.if_icmp .eq 21, 3, 0, 0, 0, 0)) (by decide +kernel) (am_br_t (decide_eq_true h) (by decide))
  · next h => exact am_run_next (x := (.if_icmp .eq 21, 3, 0, 0, 0, 0)) (by decide +kernel) (am_br_f (decide_eq_false h) (by decide))
theorem r_M_next_333 {G : Nat → Value} {d : Nat} {st : List Value} {M : am_M} {l0 l2 : Option Value} {v : Int32} : am_run G d K_M_next (333, [l0, some (.int v), l2], st, M) = am_run G d K_M_next (334, [l0, some (.int v), l2], .int v :: st, M) := am_run_next (x := (.iload_n 1, 1, 0, 0, 0, 0)) (by decide +kernel) rfl
theorem r_M_next_334 {G : Nat → Value} {d : Nat} {st : List Value} {M : am_M} {l0 l1 l2 : Option Value} : am_run G d K_M_next (334, [l0, l1, l2], st, M) = am_run G d K_M_next (336, [l0, l1, l2], .int 42 :: st, M) := am_run_next (x := (.bipush 42, 2, 0, 0, 0, 0)) (by decide +kernel) rfl
theorem r_M_next_336 {G : Nat → Value} {d : Nat} {st : List Value} {M : am_M} {l0 l1 l2 : Option Value} {a b : Int32} : am_run G d K_M_next (336, [l0, l1, l2], .int b :: .int a :: st, M) = if a = b then am_run G d K_M_next (351, [l0, l1, l2], st, M) else am_run G d K_M_next (339, [l0, l1, l2], st, M) := by
  split
  · next h => exact am_run_next (x := (.if_icmp .eq 15, 3, 0, 0, 0, 0)) (by decide +kernel) (am_br_t (decide_eq_true h) (by decide))
  · next h => exact am_run_next (x := (.if_icmp .eq 15, 3, 0, 0, 0, 0)) (by decide +kernel) (am_br_f (decide_eq_false h) (by decide))
theorem r_M_next_339 {G : Nat → Value} {d : Nat} {st : List Value} {M : am_M} {l0 l2 : Option Value} {v : Int32} : am_run G d K_M_next (339, [l0, some (.int v), l2], st, M) = am_run G d K_M_next (340, [l0, some (.int v), l2], .int v :: st, M) := am_run_next (x := (.iload_n 1, 1, 0, 0, 0, 0)) (by decide +kernel) rfl
theorem r_M_next_340 {G : Nat → Value} {d : Nat} {st : List Value} {M : am_M} {l0 l1 l2 : Option Value} : am_run G d K_M_next (340, [l0, l1, l2], st, M) = am_run G d K_M_next (342, [l0, l1, l2], .int 60 :: st, M) := am_run_next (x := (.bipush 60, 2, 0, 0, 0, 0)) (by decide +kernel) rfl
theorem r_M_next_342 {G : Nat → Value} {d : Nat} {st : List Value} {M : am_M} {l0 l1 l2 : Option Value} {a b : Int32} : am_run G d K_M_next (342, [l0, l1, l2], .int b :: .int a :: st, M) = if a = b then am_run G d K_M_next (351, [l0, l1, l2], st, M) else am_run G d K_M_next (345, [l0, l1, l2], st, M) := by
  split
  · next h => exact am_run_next (x := (.if_icmp .eq 9, 3, 0, 0, 0, 0)) (by decide +kernel) (am_br_t (decide_eq_true h) (by decide))
  · next h => exact am_run_next (x := (.if_icmp .eq 9, 3, 0, 0, 0, 0)) (by decide +kernel) (am_br_f (decide_eq_false h) (by decide))
theorem r_M_next_345 {G : Nat → Value} {d : Nat} {st : List Value} {M : am_M} {l0 l2 : Option Value} {v : Int32} : am_run G d K_M_next (345, [l0, some (.int v), l2], st, M) = am_run G d K_M_next (346, [l0, some (.int v), l2], .int v :: st, M) := am_run_next (x := (.iload_n 1, 1, 0, 0, 0, 0)) (by decide +kernel) rfl
theorem r_M_next_346 {G : Nat → Value} {d : Nat} {st : List Value} {M : am_M} {l0 l1 l2 : Option Value} : am_run G d K_M_next (346, [l0, l1, l2], st, M) = am_run G d K_M_next (348, [l0, l1, l2], .int 61 :: st, M) := am_run_next (x := (.bipush 61, 2, 0, 0, 0, 0)) (by decide +kernel) rfl
theorem r_M_next_348 {G : Nat → Value} {d : Nat} {st : List Value} {M : am_M} {l0 l1 l2 : Option Value} {a b : Int32} : am_run G d K_M_next (348, [l0, l1, l2], .int b :: .int a :: st, M) = if ¬ a = b then am_run G d K_M_next (372, [l0, l1, l2], st, M) else am_run G d K_M_next (351, [l0, l1, l2], st, M) := by
  split
  · next h => exact am_run_next (x := (.if_icmp .ne 24, 3, 0, 0, 0, 0)) (by decide +kernel) (am_br_t (decide_eq_true h) (by decide))
  · next h => exact am_run_next (x := (.if_icmp .ne 24, 3, 0, 0, 0, 0)) (by decide +kernel) (am_br_f (decide_eq_false h) (by decide))
theorem r_M_next_351 {G : Nat → Value} {d : Nat} {st : List Value} {M : am_M} {l1 l2 : Option Value} {v : Value} (hv : am_isr v = true) : am_run G d K_M_next (351, [some v, l1, l2], st, M) = am_run G d K_M_next (352, [some v, l1, l2], v :: st, M) := by
  rcases am_isr_cases hv with ⟨q, rfl⟩ | rfl
  · exact am_run_next (x := (.aload_n 0, 1, 0, 0, 0, 0)) (by decide +kernel) rfl
  · exact am_run_next (x := (.aload_n 0, 1, 0, 0, 0, 0)) (by decide +kernel) rfl
theorem r_M_next_352 {G : Nat → Value} {d : Nat} {st : List Value} {M : am_M} {l0 l1 l2 : Option Value} : am_run G d K_M_next (352, [l0, l1, l2], st, M) = am_run G d K_M_next (353, [l0, l1, l2], .int 3 :: st, M) := am_run_next (x := (.iconst 3, 1, 0, 0, 0, 0)) (by decide +kernel) rfl
theorem r_M_next_353 {G : Nat → Value} {d : Nat} {st : List Value} {M : am_M} {l0 l1 l2 : Option Value} {a : Nat} {v : Value} : am_run G d K_M_next (353, [l0, l1, l2], v :: .ref a :: st, M) = am_km G d K_M_next 356 [l0, l1, l2] st (am_pf M a 10 30 .int v) := am_run_km (x := (.putfield 224, 3, 10, 30, 5049, 0)) (by decide +kernel) rfl
theorem r_M_next_356 {G : Nat → Value} {d : Nat} {st : List Value} {M : am_M} {l1 l2 : Option Value} {v : Value} (hv : am_isr v = true) : am_run G d K_M_next (356, [some v, l1, l2], st, M) = am_run G d K_M_next (357, [some v, l1, l2], v :: st, M) := by
  rcases am_isr_cases hv with ⟨q, rfl⟩ | rfl
  · exact am_run_next (x := (.aload_n 0, 1, 0, 0, 0, 0)) (by decide +kernel) rfl
  · exact am_run_next (x := (.aload_n 0, 1, 0, 0, 0, 0)) (by decide +kernel) rfl
theorem r_M_next_357 {G : Nat → Value} {d : Nat} {st : List Value} {M : am_M} {l0 l2 : Option Value} {v : Int32} : am_run G d K_M_next (357, [l0, some (.int v), l2], st, M) = am_run G d K_M_next (358, [l0, some (.int v), l2], .int v :: st, M) := am_run_next (x := (.iload_n 1, 1, 0, 0, 0, 0)) (by decide +kernel) rfl
theorem r_M_next_358 {G : Nat → Value} {d : Nat} {st : List Value} {M : am_M} {l0 l1 l2 : Option Value} {a : Int32} : am_run G d K_M_next (358, [l0, l1, l2], .int a :: st, M) = am_run G d K_M_next (359, [l0, l1, l2], .long a.toInt64 :: st, M) := am_run_next (x := (.i2l, 1, 0, 0, 0, 0)) (by decide +kernel) rfl
theorem r_M_next_359 {G : Nat → Value} {d : Nat} {st : List Value} {M : am_M} {l0 l1 l2 : Option Value} {a : Nat} {v : Value} : am_run G d K_M_next (359, [l0, l1, l2], v :: .ref a :: st, M) = am_km G d K_M_next 362 [l0, l1, l2] st (am_pf M a 10 32 .long v) := am_run_km (x := (.putfield 231, 3, 10, 32, 5051, 0)) (by decide +kernel) rfl
theorem r_M_next_362 {G : Nat → Value} {d : Nat} {st : List Value} {M : am_M} {l1 l2 : Option Value} {v : Value} (hv : am_isr v = true) : am_run G d K_M_next (362, [some v, l1, l2], st, M) = am_run G d K_M_next (363, [some v, l1, l2], v :: st, M) := by
  rcases am_isr_cases hv with ⟨q, rfl⟩ | rfl
  · exact am_run_next (x := (.aload_n 0, 1, 0, 0, 0, 0)) (by decide +kernel) rfl
  · exact am_run_next (x := (.aload_n 0, 1, 0, 0, 0, 0)) (by decide +kernel) rfl
theorem r_M_next_363 {G : Nat → Value} {d : Nat} {st : List Value} {M : am_M} {l0 l1 l2 : Option Value} {v : Value} (hv : v.category = 1) : am_run G d K_M_next (363, [l0, l1, l2], v :: st, M) = am_run G d K_M_next (364, [l0, l1, l2], v :: v :: st, M) := am_run_next (x := (.dup, 1, 0, 0, 0, 0)) (by decide +kernel) (if_pos hv)
theorem r_M_next_364 {G : Nat → Value} {d : Nat} {st : List Value} {M : am_M} {l0 l1 l2 : Option Value} {a : Nat} : am_run G d K_M_next (364, [l0, l1, l2], .ref a :: st, M) = am_kf G d K_M_next 367 [l0, l1, l2] st M (am_fld M a 10 33) := am_run_kf (x := (.getfield 215, 3, 10, 33, 5052, 0)) (by decide +kernel) rfl
theorem r_M_next_367 {G : Nat → Value} {d : Nat} {st : List Value} {M : am_M} {l0 l1 l2 : Option Value} : am_run G d K_M_next (367, [l0, l1, l2], st, M) = am_run G d K_M_next (368, [l0, l1, l2], .int 1 :: st, M) := am_run_next (x := (.iconst 1, 1, 0, 0, 0, 0)) (by decide +kernel) rfl
theorem r_M_next_368 {G : Nat → Value} {d : Nat} {st : List Value} {M : am_M} {l0 l1 l2 : Option Value} {a b : Int32} : am_run G d K_M_next (368, [l0, l1, l2], .int b :: .int a :: st, M) = am_run G d K_M_next (369, [l0, l1, l2], .int (a + b) :: st, M) := am_run_next (x := (.iadd, 1, 0, 0, 0, 0)) (by decide +kernel) rfl
theorem r_M_next_369 {G : Nat → Value} {d : Nat} {st : List Value} {M : am_M} {l0 l1 l2 : Option Value} {a : Nat} {v : Value} : am_run G d K_M_next (369, [l0, l1, l2], v :: .ref a :: st, M) = am_km G d K_M_next 372 [l0, l1, l2] st (am_pf M a 10 33 .int v) := am_run_km (x := (.putfield 215, 3, 10, 33, 5052, 0)) (by decide +kernel) rfl
theorem r_M_next_372 {G : Nat → Value} {d : Nat} {M : am_M} {l0 l1 l2 : Option Value} : am_run G d K_M_next (372, [l0, l1, l2], [], M) = some (none, M) := am_run_ret (x := (.return_, 1, 0, 0, 0, 0)) (by decide +kernel) rfl
theorem r_M_byteAt_0 {G : Nat → Value} {d : Nat} {st : List Value} {M : am_M} {l0 : Option Value} {v : Int32} : am_run G d K_M_byteAt (0, [l0, some (.int v)], st, M) = am_run G d K_M_byteAt (1, [l0, some (.int v)], .int v :: st, M) := am_run_next (x := (.iload_n 1, 1, 0, 0, 0, 0)) (by decide +kernel) rfl
theorem r_M_byteAt_1 {G : Nat → Value} {d : Nat} {st : List Value} {M : am_M} {l1 : Option Value} {v : Value} (hv : am_isr v = true) : am_run G d K_M_byteAt (1, [some v, l1], st, M) = am_run G d K_M_byteAt (2, [some v, l1], v :: st, M) := by
  rcases am_isr_cases hv with ⟨q, rfl⟩ | rfl
  · exact am_run_next (x := (.aload_n 0, 1, 0, 0, 0, 0)) (by decide +kernel) rfl
  · exact am_run_next (x := (.aload_n 0, 1, 0, 0, 0, 0)) (by decide +kernel) rfl
theorem r_M_byteAt_2 {G : Nat → Value} {d : Nat} {st : List Value} {M : am_M} {l0 l1 : Option Value} {a : Nat} : am_run G d K_M_byteAt (2, [l0, l1], .ref a :: st, M) = am_kf G d K_M_byteAt 5 [l0, l1] st M (am_fld M a 10 29) := am_run_kf (x := (.getfield 209, 3, 10, 29, 5048, 0)) (by decide +kernel) rfl
theorem r_M_byteAt_5 {G : Nat → Value} {d : Nat} {st : List Value} {M : am_M} {l0 l1 : Option Value} {a b : Int32} : am_run G d K_M_byteAt (5, [l0, l1], .int b :: .int a :: st, M) = if b ≤ a then am_run G d K_M_byteAt (22, [l0, l1], st, M) else am_run G d K_M_byteAt (8, [l0, l1], st, M) := by
  split
  · next h => exact am_run_next (x := (.if_icmp .ge 17, 3, 0, 0, 0, 0)) (by decide +kernel) (am_br_t (decide_eq_true h) (by decide))
  · next h => exact am_run_next (x := (.if_icmp .ge 17, 3, 0, 0, 0, 0)) (by decide +kernel) (am_br_f (decide_eq_false h) (by decide))
theorem r_M_byteAt_8 {G : Nat → Value} {d : Nat} {st : List Value} {M : am_M} {l1 : Option Value} {v : Value} (hv : am_isr v = true) : am_run G d K_M_byteAt (8, [some v, l1], st, M) = am_run G d K_M_byteAt (9, [some v, l1], v :: st, M) := by
  rcases am_isr_cases hv with ⟨q, rfl⟩ | rfl
  · exact am_run_next (x := (.aload_n 0, 1, 0, 0, 0, 0)) (by decide +kernel) rfl
  · exact am_run_next (x := (.aload_n 0, 1, 0, 0, 0, 0)) (by decide +kernel) rfl
theorem r_M_byteAt_9 {G : Nat → Value} {d : Nat} {st : List Value} {M : am_M} {l0 l1 : Option Value} {a : Nat} : am_run G d K_M_byteAt (9, [l0, l1], .ref a :: st, M) = am_kf G d K_M_byteAt 12 [l0, l1] st M (am_fld M a 10 1) := am_run_kf (x := (.getfield 13, 3, 10, 1, 5020, 0)) (by decide +kernel) rfl
theorem r_M_byteAt_12 {G : Nat → Value} {d : Nat} {st : List Value} {M : am_M} {l1 : Option Value} {v : Value} (hv : am_isr v = true) : am_run G d K_M_byteAt (12, [some v, l1], st, M) = am_run G d K_M_byteAt (13, [some v, l1], v :: st, M) := by
  rcases am_isr_cases hv with ⟨q, rfl⟩ | rfl
  · exact am_run_next (x := (.aload_n 0, 1, 0, 0, 0, 0)) (by decide +kernel) rfl
  · exact am_run_next (x := (.aload_n 0, 1, 0, 0, 0, 0)) (by decide +kernel) rfl
theorem r_M_byteAt_13 {G : Nat → Value} {d : Nat} {st : List Value} {M : am_M} {l0 l1 : Option Value} {a : Nat} : am_run G d K_M_byteAt (13, [l0, l1], .ref a :: st, M) = am_kf G d K_M_byteAt 16 [l0, l1] st M (am_fld M a 10 28) := am_run_kf (x := (.getfield 212, 3, 10, 28, 5047, 0)) (by decide +kernel) rfl
theorem r_M_byteAt_16 {G : Nat → Value} {d : Nat} {st : List Value} {M : am_M} {l0 : Option Value} {v : Int32} : am_run G d K_M_byteAt (16, [l0, some (.int v)], st, M) = am_run G d K_M_byteAt (17, [l0, some (.int v)], .int v :: st, M) := am_run_next (x := (.iload_n 1, 1, 0, 0, 0, 0)) (by decide +kernel) rfl
theorem r_M_byteAt_17 {G : Nat → Value} {d : Nat} {st : List Value} {M : am_M} {l0 l1 : Option Value} {a b : Int32} : am_run G d K_M_byteAt (17, [l0, l1], .int b :: .int a :: st, M) = am_run G d K_M_byteAt (18, [l0, l1], .int (a + b) :: st, M) := am_run_next (x := (.iadd, 1, 0, 0, 0, 0)) (by decide +kernel) rfl
theorem r_M_byteAt_18 {G : Nat → Value} {d : Nat} {st : List Value} {M : am_M} {l0 l1 : Option Value} {a : Nat} {i : Int32} : am_run G d K_M_byteAt (18, [l0, l1], .int i :: .ref a :: st, M) = am_kf G d K_M_byteAt 19 [l0, l1] st M (am_ag 0 M a i) := am_run_kf (x := (.iaload, 1, 0, 0, 0, 0)) (by decide +kernel) rfl
theorem r_M_byteAt_19 {G : Nat → Value} {d : Nat} {st : List Value} {M : am_M} {l0 l1 : Option Value} : am_run G d K_M_byteAt (19, [l0, l1], st, M) = am_run G d K_M_byteAt (23, [l0, l1], st, M) := am_run_next (x := (.goto 4, 3, 0, 0, 0, 0)) (by decide +kernel) rfl
theorem r_M_byteAt_22 {G : Nat → Value} {d : Nat} {st : List Value} {M : am_M} {l0 l1 : Option Value} : am_run G d K_M_byteAt (22, [l0, l1], st, M) = am_run G d K_M_byteAt (23, [l0, l1], .int (-1) :: st, M) := am_run_next (x := (.iconst (-1), 1, 0, 0, 0, 0)) (by decide +kernel) rfl
theorem r_M_byteAt_23 {G : Nat → Value} {d : Nat} {M : am_M} {l0 l1 : Option Value} {a : Int32} : am_run G d K_M_byteAt (23, [l0, l1], [.int a], M) = some (some (.int a), M) := am_run_ret (x := (.ireturn, 1, 0, 0, 0, 0)) (by decide +kernel) rfl
theorem r_M_part_0 {G : Nat → Value} {d : Nat} {st : List Value} {M : am_M} {l1 l2 l3 : Option Value} {v : Value} (hv : am_isr v = true) : am_run G d K_M_part (0, [some v, l1, l2, l3], st, M) = am_run G d K_M_part (1, [some v, l1, l2, l3], v :: st, M) := by
  rcases am_isr_cases hv with ⟨q, rfl⟩ | rfl
  · exact am_run_next (x := (.aload_n 0, 1, 0, 0, 0, 0)) (by decide +kernel) rfl
  · exact am_run_next (x := (.aload_n 0, 1, 0, 0, 0, 0)) (by decide +kernel) rfl
theorem r_M_part_1 {G : Nat → Value} {d : Nat} {st : List Value} {M : am_M} {l0 l2 l3 : Option Value} {v : Int64} : am_run G d K_M_part (1, [l0, some (.long v), l2, l3], st, M) = am_run G d K_M_part (2, [l0, some (.long v), l2, l3], .long v :: st, M) := am_run_next (x := (.lload_n 1, 1, 0, 0, 0, 0)) (by decide +kernel) rfl
theorem r_M_part_2 {G : Nat → Value} {d : Nat} {st : List Value} {M : am_M} {l0 l1 l2 l3 : Option Value} {q : Nat} {a0 : Int64} (hq : am_cls M q = some 10) (h8 : am_sw st ≤ 8) : am_run G d K_M_part (2, [l0, l1, l2, l3], .long a0 :: .ref q :: st, M) = am_k G d K_M_part 5 [l0, l1, l2, l3] st (am_ex G d K_M_isWord [.ref q, .long a0] M) := am_run_iv (i := 265) (n := 1) (pl := 6058) (Bs := [.long a0]) (z := K_M_isWord) (by decide +kernel) hq h8 rfl (Nat.le_of_ble_eq_true rfl) rfl
theorem r_M_part_5 {G : Nat → Value} {d : Nat} {st : List Value} {M : am_M} {l0 l1 l2 l3 : Option Value} {a : Int32} : am_run G d K_M_part (5, [l0, l1, l2, l3], .int a :: st, M) = if ¬ a = 0 then am_run G d K_M_part (12, [l0, l1, l2, l3], st, M) else am_run G d K_M_part (8, [l0, l1, l2, l3], st, M) := by
  split
  · next h => exact am_run_next (x := (.ifCond .ne 7, 3, 0, 0, 0, 0)) (by decide +kernel) (am_br_t (decide_eq_true h) (by decide))
  · next h => exact am_run_next (x := (.ifCond .ne 7, 3, 0, 0, 0, 0)) (by decide +kernel) (am_br_f (decide_eq_false h) (by decide))
theorem r_M_part_8 {G : Nat → Value} {d : Nat} {st : List Value} {M : am_M} {l1 l2 l3 : Option Value} {v : Value} (hv : am_isr v = true) : am_run G d K_M_part (8, [some v, l1, l2, l3], st, M) = am_run G d K_M_part (9, [some v, l1, l2, l3], v :: st, M) := by
  rcases am_isr_cases hv with ⟨q, rfl⟩ | rfl
  · exact am_run_next (x := (.aload_n 0, 1, 0, 0, 0, 0)) (by decide +kernel) rfl
  · exact am_run_next (x := (.aload_n 0, 1, 0, 0, 0, 0)) (by decide +kernel) rfl
theorem r_M_part_9 {G : Nat → Value} {d : Nat} {st : List Value} {M : am_M} {l0 l1 l2 l3 : Option Value} {q : Nat} (hq : am_cls M q = some 10) (h8 : am_sw st ≤ 8) : am_run G d K_M_part (9, [l0, l1, l2, l3], .ref q :: st, M) = am_k G d K_M_part 12 [l0, l1, l2, l3] st (am_ex G d K_M_fail [.ref q] M) := am_run_iv (i := 257) (n := 0) (pl := 6062) (Bs := []) (z := K_M_fail) (by decide +kernel) hq h8 rfl (Nat.le_of_ble_eq_true rfl) rfl
theorem r_M_part_12 {G : Nat → Value} {d : Nat} {st : List Value} {M : am_M} {l1 l2 l3 : Option Value} {v : Value} (hv : am_isr v = true) : am_run G d K_M_part (12, [some v, l1, l2, l3], st, M) = am_run G d K_M_part (13, [some v, l1, l2, l3], v :: st, M) := by
  rcases am_isr_cases hv with ⟨q, rfl⟩ | rfl
  · exact am_run_next (x := (.aload_n 0, 1, 0, 0, 0, 0)) (by decide +kernel) rfl
  · exact am_run_next (x := (.aload_n 0, 1, 0, 0, 0, 0)) (by decide +kernel) rfl
theorem r_M_part_13 {G : Nat → Value} {d : Nat} {st : List Value} {M : am_M} {l0 l1 l2 l3 : Option Value} {a : Nat} : am_run G d K_M_part (13, [l0, l1, l2, l3], .ref a :: st, M) = am_kf G d K_M_part 16 [l0, l1, l2, l3] st M (am_fld M a 10 35) := am_run_kf (x := (.getfield 247, 3, 10, 35, 5054, 0)) (by decide +kernel) rfl
theorem r_M_part_16 {G : Nat → Value} {d : Nat} {st : List Value} {M : am_M} {l0 l1 l2 l3 : Option Value} {a : Int32} : am_run G d K_M_part (16, [l0, l1, l2, l3], .int a :: st, M) = if ¬ a = 0 then am_run G d K_M_part (23, [l0, l1, l2, l3], st, M) else am_run G d K_M_part (19, [l0, l1, l2, l3], st, M) := by
  split
  · next h => exact am_run_next (x := (.ifCond .ne 7, 3, 0, 0, 0, 0)) (by decide +kernel) (am_br_t (decide_eq_true h) (by decide))
  · next h => exact am_run_next (x := (.ifCond .ne 7, 3, 0, 0, 0, 0)) (by decide +kernel) (am_br_f (decide_eq_false h) (by decide))
theorem r_M_part_19 {G : Nat → Value} {d : Nat} {st : List Value} {M : am_M} {l1 l2 l3 : Option Value} {v : Value} (hv : am_isr v = true) : am_run G d K_M_part (19, [some v, l1, l2, l3], st, M) = am_run G d K_M_part (20, [some v, l1, l2, l3], v :: st, M) := by
  rcases am_isr_cases hv with ⟨q, rfl⟩ | rfl
  · exact am_run_next (x := (.aload_n 0, 1, 0, 0, 0, 0)) (by decide +kernel) rfl
  · exact am_run_next (x := (.aload_n 0, 1, 0, 0, 0, 0)) (by decide +kernel) rfl
theorem r_M_part_20 {G : Nat → Value} {d : Nat} {st : List Value} {M : am_M} {l0 l1 l2 l3 : Option Value} {q : Nat} (hq : am_cls M q = some 10) (h8 : am_sw st ≤ 8) : am_run G d K_M_part (20, [l0, l1, l2, l3], .ref q :: st, M) = am_k G d K_M_part 23 [l0, l1, l2, l3] st (am_ex G d K_M_next [.ref q] M) := am_run_iv (i := 260) (n := 0) (pl := 6037) (Bs := []) (z := K_M_next) (by decide +kernel) hq h8 rfl (Nat.le_of_ble_eq_true rfl) rfl
theorem r_M_part_23 {G : Nat → Value} {d : Nat} {st : List Value} {M : am_M} {l1 l2 l3 : Option Value} {v : Value} (hv : am_isr v = true) : am_run G d K_M_part (23, [some v, l1, l2, l3], st, M) = am_run G d K_M_part (24, [some v, l1, l2, l3], v :: st, M) := by
  rcases am_isr_cases hv with ⟨q, rfl⟩ | rfl
  · exact am_run_next (x := (.aload_n 0, 1, 0, 0, 0, 0)) (by decide +kernel) rfl
  · exact am_run_next (x := (.aload_n 0, 1, 0, 0, 0, 0)) (by decide +kernel) rfl
theorem r_M_part_24 {G : Nat → Value} {d : Nat} {st : List Value} {M : am_M} {l0 l1 l2 l3 : Option Value} {a : Nat} : am_run G d K_M_part (24, [l0, l1, l2, l3], .ref a :: st, M) = am_kf G d K_M_part 27 [l0, l1, l2, l3] st M (am_fld M a 10 35) := am_run_kf (x := (.getfield 247, 3, 10, 35, 5054, 0)) (by decide +kernel) rfl
theorem r_M_part_27 {G : Nat → Value} {d : Nat} {st : List Value} {M : am_M} {l0 l1 l2 l3 : Option Value} {a : Int32} : am_run G d K_M_part (27, [l0, l1, l2, l3], .int a :: st, M) = if a = 0 then am_run G d K_M_part (34, [l0, l1, l2, l3], st, M) else am_run G d K_M_part (30, [l0, l1, l2, l3], st, M) := by
  split
  · next h => exact am_run_next (x := (.ifCond .eq 7, 3, 0, 0, 0, 0)) (by decide +kernel) (am_br_t (decide_eq_true h) (by decide))
  · next h => exact am_run_next (x := (.ifCond .eq 7, 3, 0, 0, 0, 0)) (by decide +kernel) (am_br_f (decide_eq_false h) (by decide))
theorem r_M_part_30 {G : Nat → Value} {d : Nat} {st : List Value} {M : am_M} {l0 l1 l2 l3 : Option Value} : am_run G d K_M_part (30, [l0, l1, l2, l3], st, M) = am_run G d K_M_part (31, [l0, l1, l2, l3], .int 0 :: st, M) := am_run_next (x := (.iconst 0, 1, 0, 0, 0, 0)) (by decide +kernel) rfl
theorem r_M_part_31 {G : Nat → Value} {d : Nat} {st : List Value} {M : am_M} {l0 l1 l2 l3 : Option Value} : am_run G d K_M_part (31, [l0, l1, l2, l3], st, M) = am_run G d K_M_part (38, [l0, l1, l2, l3], st, M) := am_run_next (x := (.goto 7, 3, 0, 0, 0, 0)) (by decide +kernel) rfl
theorem r_M_part_34 {G : Nat → Value} {d : Nat} {st : List Value} {M : am_M} {l1 l2 l3 : Option Value} {v : Value} (hv : am_isr v = true) : am_run G d K_M_part (34, [some v, l1, l2, l3], st, M) = am_run G d K_M_part (35, [some v, l1, l2, l3], v :: st, M) := by
  rcases am_isr_cases hv with ⟨q, rfl⟩ | rfl
  · exact am_run_next (x := (.aload_n 0, 1, 0, 0, 0, 0)) (by decide +kernel) rfl
  · exact am_run_next (x := (.aload_n 0, 1, 0, 0, 0, 0)) (by decide +kernel) rfl
theorem r_M_part_35 {G : Nat → Value} {d : Nat} {st : List Value} {M : am_M} {l0 l1 l2 l3 : Option Value} {q : Nat} (hq : am_cls M q = some 10) (h8 : am_sw st ≤ 8) : am_run G d K_M_part (35, [l0, l1, l2, l3], .ref q :: st, M) = am_k G d K_M_part 38 [l0, l1, l2, l3] st (am_ex G d K_M_either [.ref q] M) := am_run_iv (i := 293) (n := 0) (pl := 6066) (Bs := []) (z := K_M_either) (by decide +kernel) hq h8 rfl (Nat.le_of_ble_eq_true rfl) rfl
theorem r_M_part_38 {G : Nat → Value} {d : Nat} {st : List Value} {M : am_M} {l0 l1 l2 l3 : Option Value} {v : Int32} (hc : am_c1 l2 = true) : am_run G d K_M_part (38, [l0, l1, l2, l3], .int v :: st, M) = am_run G d K_M_part (39, [l0, l1, l2, some (.int v)], st, M) := by
  rcases am_c1_cases hc with rfl | ⟨q, rfl⟩ | ⟨q, rfl⟩ | rfl
  · exact am_run_next (x := (.istore_n 3, 1, 0, 0, 0, 0)) (by decide +kernel) rfl
  · exact am_run_next (x := (.istore_n 3, 1, 0, 0, 0, 0)) (by decide +kernel) rfl
  · exact am_run_next (x := (.istore_n 3, 1, 0, 0, 0, 0)) (by decide +kernel) rfl
  · exact am_run_next (x := (.istore_n 3, 1, 0, 0, 0, 0)) (by decide +kernel) rfl
theorem r_M_part_38_k {G : Nat → Value} {d : Nat} {st : List Value} {M : am_M} {l0 l1 l3 : Option Value} {v : Int32} {z : Int64} : am_run G d K_M_part (38, [l0, l1, some (.long z), l3], .int v :: st, M) = am_run G d K_M_part (39, [l0, l1, none, some (.int v)], st, M) := am_run_next (x := (.istore_n 3, 1, 0, 0, 0, 0)) (by decide +kernel) rfl
theorem r_M_part_39 {G : Nat → Value} {d : Nat} {st : List Value} {M : am_M} {l1 l2 l3 : Option Value} {v : Value} (hv : am_isr v = true) : am_run G d K_M_part (39, [some v, l1, l2, l3], st, M) = am_run G d K_M_part (40, [some v, l1, l2, l3], v :: st, M) := by
  rcases am_isr_cases hv with ⟨q, rfl⟩ | rfl
  · exact am_run_next (x := (.aload_n 0, 1, 0, 0, 0, 0)) (by decide +kernel) rfl
  · exact am_run_next (x := (.aload_n 0, 1, 0, 0, 0, 0)) (by decide +kernel) rfl
theorem r_M_part_40 {G : Nat → Value} {d : Nat} {st : List Value} {M : am_M} {l0 l1 l2 l3 : Option Value} : am_run G d K_M_part (40, [l0, l1, l2, l3], st, M) = am_run G d K_M_part (42, [l0, l1, l2, l3], .int 59 :: st, M) := am_run_next (x := (.bipush 59, 2, 0, 0, 0, 0)) (by decide +kernel) rfl
theorem r_M_part_42 {G : Nat → Value} {d : Nat} {st : List Value} {M : am_M} {l0 l1 l2 l3 : Option Value} {q : Nat} {a0 : Int32} (hq : am_cls M q = some 10) (h8 : am_sw st ≤ 8) : am_run G d K_M_part (42, [l0, l1, l2, l3], .int a0 :: .ref q :: st, M) = am_k G d K_M_part 45 [l0, l1, l2, l3] st (am_ex G d K_M_isSign [.ref q, .int a0] M) := am_run_iv (i := 282) (n := 1) (pl := 6095) (Bs := [.int a0]) (z := K_M_isSign) (by decide +kernel) hq h8 rfl (Nat.le_of_ble_eq_true rfl) rfl
theorem r_M_part_45 {G : Nat → Value} {d : Nat} {st : List Value} {M : am_M} {l0 l1 l2 l3 : Option Value} {a : Int32} : am_run G d K_M_part (45, [l0, l1, l2, l3], .int a :: st, M) = if ¬ a = 0 then am_run G d K_M_part (52, [l0, l1, l2, l3], st, M) else am_run G d K_M_part (48, [l0, l1, l2, l3], st, M) := by
  split
  · next h => exact am_run_next (x := (.ifCond .ne 7, 3, 0, 0, 0, 0)) (by decide +kernel) (am_br_t (decide_eq_true h) (by decide))
  · next h => exact am_run_next (x := (.ifCond .ne 7, 3, 0, 0, 0, 0)) (by decide +kernel) (am_br_f (decide_eq_false h) (by decide))
theorem r_M_part_48 {G : Nat → Value} {d : Nat} {st : List Value} {M : am_M} {l1 l2 l3 : Option Value} {v : Value} (hv : am_isr v = true) : am_run G d K_M_part (48, [some v, l1, l2, l3], st, M) = am_run G d K_M_part (49, [some v, l1, l2, l3], v :: st, M) := by
  rcases am_isr_cases hv with ⟨q, rfl⟩ | rfl
  · exact am_run_next (x := (.aload_n 0, 1, 0, 0, 0, 0)) (by decide +kernel) rfl
  · exact am_run_next (x := (.aload_n 0, 1, 0, 0, 0, 0)) (by decide +kernel) rfl
theorem r_M_part_49 {G : Nat → Value} {d : Nat} {st : List Value} {M : am_M} {l0 l1 l2 l3 : Option Value} {q : Nat} (hq : am_cls M q = some 10) (h8 : am_sw st ≤ 8) : am_run G d K_M_part (49, [l0, l1, l2, l3], .ref q :: st, M) = am_k G d K_M_part 52 [l0, l1, l2, l3] st (am_ex G d K_M_fail [.ref q] M) := am_run_iv (i := 257) (n := 0) (pl := 6062) (Bs := []) (z := K_M_fail) (by decide +kernel) hq h8 rfl (Nat.le_of_ble_eq_true rfl) rfl
theorem r_M_part_52 {G : Nat → Value} {d : Nat} {st : List Value} {M : am_M} {l1 l2 l3 : Option Value} {v : Value} (hv : am_isr v = true) : am_run G d K_M_part (52, [some v, l1, l2, l3], st, M) = am_run G d K_M_part (53, [some v, l1, l2, l3], v :: st, M) := by
  rcases am_isr_cases hv with ⟨q, rfl⟩ | rfl
  · exact am_run_next (x := (.aload_n 0, 1, 0, 0, 0, 0)) (by decide +kernel) rfl
  · exact am_run_next (x := (.aload_n 0, 1, 0, 0, 0, 0)) (by decide +kernel) rfl
theorem r_M_part_53 {G : Nat → Value} {d : Nat} {st : List Value} {M : am_M} {l0 l1 l2 l3 : Option Value} {a : Nat} : am_run G d K_M_part (53, [l0, l1, l2, l3], .ref a :: st, M) = am_kf G d K_M_part 56 [l0, l1, l2, l3] st M (am_fld M a 10 35) := am_run_kf (x := (.getfield 247, 3, 10, 35, 5054, 0)) (by decide +kernel) rfl
theorem r_M_part_56 {G : Nat → Value} {d : Nat} {st : List Value} {M : am_M} {l0 l1 l2 l3 : Option Value} {a : Int32} : am_run G d K_M_part (56, [l0, l1, l2, l3], .int a :: st, M) = if ¬ a = 0 then am_run G d K_M_part (63, [l0, l1, l2, l3], st, M) else am_run G d K_M_part (59, [l0, l1, l2, l3], st, M) := by
  split
  · next h => exact am_run_next (x := (.ifCond .ne 7, 3, 0, 0, 0, 0)) (by decide +kernel) (am_br_t (decide_eq_true h) (by decide))
  · next h => exact am_run_next (x := (.ifCond .ne 7, 3, 0, 0, 0, 0)) (by decide +kernel) (am_br_f (decide_eq_false h) (by decide))
theorem r_M_part_59 {G : Nat → Value} {d : Nat} {st : List Value} {M : am_M} {l1 l2 l3 : Option Value} {v : Value} (hv : am_isr v = true) : am_run G d K_M_part (59, [some v, l1, l2, l3], st, M) = am_run G d K_M_part (60, [some v, l1, l2, l3], v :: st, M) := by
  rcases am_isr_cases hv with ⟨q, rfl⟩ | rfl
  · exact am_run_next (x := (.aload_n 0, 1, 0, 0, 0, 0)) (by decide +kernel) rfl
  · exact am_run_next (x := (.aload_n 0, 1, 0, 0, 0, 0)) (by decide +kernel) rfl
theorem r_M_part_60 {G : Nat → Value} {d : Nat} {st : List Value} {M : am_M} {l0 l1 l2 l3 : Option Value} {q : Nat} (hq : am_cls M q = some 10) (h8 : am_sw st ≤ 8) : am_run G d K_M_part (60, [l0, l1, l2, l3], .ref q :: st, M) = am_k G d K_M_part 63 [l0, l1, l2, l3] st (am_ex G d K_M_next [.ref q] M) := am_run_iv (i := 260) (n := 0) (pl := 6037) (Bs := []) (z := K_M_next) (by decide +kernel) hq h8 rfl (Nat.le_of_ble_eq_true rfl) rfl
theorem r_M_part_63 {G : Nat → Value} {d : Nat} {st : List Value} {M : am_M} {l0 l1 l2 : Option Value} {v : Int32} : am_run G d K_M_part (63, [l0, l1, l2, some (.int v)], st, M) = am_run G d K_M_part (64, [l0, l1, l2, some (.int v)], .int v :: st, M) := am_run_next (x := (.iload_n 3, 1, 0, 0, 0, 0)) (by decide +kernel) rfl
theorem r_M_part_64 {G : Nat → Value} {d : Nat} {M : am_M} {l0 l1 l2 l3 : Option Value} {a : Int32} : am_run G d K_M_part (64, [l0, l1, l2, l3], [.int a], M) = some (some (.int a), M) := am_run_ret (x := (.ireturn, 1, 0, 0, 0, 0)) (by decide +kernel) rfl
theorem r_M_isWord_0 {G : Nat → Value} {d : Nat} {st : List Value} {M : am_M} {l1 l2 : Option Value} {v : Value} (hv : am_isr v = true) : am_run G d K_M_isWord (0, [some v, l1, l2], st, M) = am_run G d K_M_isWord (1, [some v, l1, l2], v :: st, M) := by
  rcases am_isr_cases hv with ⟨q, rfl⟩ | rfl
  · exact am_run_next (x := (.aload_n 0, 1, 0, 0, 0, 0)) (by decide +kernel) rfl
  · exact am_run_next (x := (.aload_n 0, 1, 0, 0, 0, 0)) (by decide +kernel) rfl
theorem r_M_isWord_1 {G : Nat → Value} {d : Nat} {st : List Value} {M : am_M} {l0 l1 l2 : Option Value} {a : Nat} : am_run G d K_M_isWord (1, [l0, l1, l2], .ref a :: st, M) = am_kf G d K_M_isWord 4 [l0, l1, l2] st M (am_fld M a 10 35) := am_run_kf (x := (.getfield 247, 3, 10, 35, 5054, 0)) (by decide +kernel) rfl
theorem r_M_isWord_4 {G : Nat → Value} {d : Nat} {st : List Value} {M : am_M} {l0 l1 l2 : Option Value} {a : Int32} : am_run G d K_M_isWord (4, [l0, l1, l2], .int a :: st, M) = if ¬ a = 0 then am_run G d K_M_isWord (28, [l0, l1, l2], st, M) else am_run G d K_M_isWord (7, [l0, l1, l2], st, M) := by
  split
  · next h => exact am_run_next (x := (.ifCond .ne 24, 3, 0, 0, 0, 0)) (by decide +kernel) (am_br_t (decide_eq_true h) (by decide))
  · next h => exact am_run_next (x := (.ifCond .ne 24, 3, 0, 0, 0, 0)) (by decide +kernel) (am_br_f (decide_eq_false h) (by decide))
theorem r_M_isWord_7 {G : Nat → Value} {d : Nat} {st : List Value} {M : am_M} {l1 l2 : Option Value} {v : Value} (hv : am_isr v = true) : am_run G d K_M_isWord (7, [some v, l1, l2], st, M) = am_run G d K_M_isWord (8, [some v, l1, l2], v :: st, M) := by
  rcases am_isr_cases hv with ⟨q, rfl⟩ | rfl
  · exact am_run_next (x := (.aload_n 0, 1, 0, 0, 0, 0)) (by decide +kernel) rfl
  · exact am_run_next (x := (.aload_n 0, 1, 0, 0, 0, 0)) (by decide +kernel) rfl
theorem r_M_isWord_8 {G : Nat → Value} {d : Nat} {st : List Value} {M : am_M} {l0 l1 l2 : Option Value} {a : Nat} : am_run G d K_M_isWord (8, [l0, l1, l2], .ref a :: st, M) = am_kf G d K_M_isWord 11 [l0, l1, l2] st M (am_fld M a 10 30) := am_run_kf (x := (.getfield 224, 3, 10, 30, 5049, 0)) (by decide +kernel) rfl
theorem r_M_isWord_11 {G : Nat → Value} {d : Nat} {st : List Value} {M : am_M} {l0 l1 l2 : Option Value} : am_run G d K_M_isWord (11, [l0, l1, l2], st, M) = am_run G d K_M_isWord (12, [l0, l1, l2], .int 1 :: st, M) := am_run_next (x := (.iconst 1, 1, 0, 0, 0, 0)) (by decide +kernel) rfl
theorem r_M_isWord_12 {G : Nat → Value} {d : Nat} {st : List Value} {M : am_M} {l0 l1 l2 : Option Value} {a b : Int32} : am_run G d K_M_isWord (12, [l0, l1, l2], .int b :: .int a :: st, M) = if ¬ a = b then am_run G d K_M_isWord (28, [l0, l1, l2], st, M) else am_run G d K_M_isWord (15, [l0, l1, l2], st, M) := by
  split
  · next h => exact am_run_next (x := (.if_icmp .ne 16, 3, 0, 0, 0, 0)) (by decide +kernel) (am_br_t (decide_eq_true h) (by decide))
  · next h => exact am_run_next (x := (.if_icmp .ne 16, 3, 0, 0, 0, 0)) (by decide +kernel) (am_br_f (decide_eq_false h) (by decide))
theorem r_M_isWord_15 {G : Nat → Value} {d : Nat} {st : List Value} {M : am_M} {l1 l2 : Option Value} {v : Value} (hv : am_isr v = true) : am_run G d K_M_isWord (15, [some v, l1, l2], st, M) = am_run G d K_M_isWord (16, [some v, l1, l2], v :: st, M) := by
  rcases am_isr_cases hv with ⟨q, rfl⟩ | rfl
  · exact am_run_next (x := (.aload_n 0, 1, 0, 0, 0, 0)) (by decide +kernel) rfl
  · exact am_run_next (x := (.aload_n 0, 1, 0, 0, 0, 0)) (by decide +kernel) rfl
theorem r_M_isWord_16 {G : Nat → Value} {d : Nat} {st : List Value} {M : am_M} {l0 l1 l2 : Option Value} {a : Nat} : am_run G d K_M_isWord (16, [l0, l1, l2], .ref a :: st, M) = am_kf G d K_M_isWord 19 [l0, l1, l2] st M (am_fld M a 10 32) := am_run_kf (x := (.getfield 231, 3, 10, 32, 5051, 0)) (by decide +kernel) rfl
theorem r_M_isWord_19 {G : Nat → Value} {d : Nat} {st : List Value} {M : am_M} {l0 l2 : Option Value} {v : Int64} : am_run G d K_M_isWord (19, [l0, some (.long v), l2], st, M) = am_run G d K_M_isWord (20, [l0, some (.long v), l2], .long v :: st, M) := am_run_next (x := (.lload_n 1, 1, 0, 0, 0, 0)) (by decide +kernel) rfl
theorem r_M_isWord_20 {G : Nat → Value} {d : Nat} {st : List Value} {M : am_M} {l0 l1 l2 : Option Value} {a b : Int64} : am_run G d K_M_isWord (20, [l0, l1, l2], .long b :: .long a :: st, M) = am_run G d K_M_isWord (21, [l0, l1, l2], .int (lg_cmp a b) :: st, M) := am_run_next (x := (.lcmp, 1, 0, 0, 0, 0)) (by decide +kernel) rfl
theorem r_M_isWord_21 {G : Nat → Value} {d : Nat} {st : List Value} {M : am_M} {l0 l1 l2 : Option Value} {a : Int32} : am_run G d K_M_isWord (21, [l0, l1, l2], .int a :: st, M) = if ¬ a = 0 then am_run G d K_M_isWord (28, [l0, l1, l2], st, M) else am_run G d K_M_isWord (24, [l0, l1, l2], st, M) := by
  split
  · next h => exact am_run_next (x := (.ifCond .ne 7, 3, 0, 0, 0, 0)) (by decide +kernel) (am_br_t (decide_eq_true h) (by decide))
  · next h => exact am_run_next (x := (.ifCond .ne 7, 3, 0, 0, 0, 0)) (by decide +kernel) (am_br_f (decide_eq_false h) (by decide))
theorem r_M_isWord_24 {G : Nat → Value} {d : Nat} {st : List Value} {M : am_M} {l0 l1 l2 : Option Value} : am_run G d K_M_isWord (24, [l0, l1, l2], st, M) = am_run G d K_M_isWord (25, [l0, l1, l2], .int 1 :: st, M) := am_run_next (x := (.iconst 1, 1, 0, 0, 0, 0)) (by decide +kernel) rfl
theorem r_M_isWord_25 {G : Nat → Value} {d : Nat} {st : List Value} {M : am_M} {l0 l1 l2 : Option Value} : am_run G d K_M_isWord (25, [l0, l1, l2], st, M) = am_run G d K_M_isWord (29, [l0, l1, l2], st, M) := am_run_next (x := (.goto 4, 3, 0, 0, 0, 0)) (by decide +kernel) rfl
theorem r_M_isWord_28 {G : Nat → Value} {d : Nat} {st : List Value} {M : am_M} {l0 l1 l2 : Option Value} : am_run G d K_M_isWord (28, [l0, l1, l2], st, M) = am_run G d K_M_isWord (29, [l0, l1, l2], .int 0 :: st, M) := am_run_next (x := (.iconst 0, 1, 0, 0, 0, 0)) (by decide +kernel) rfl
theorem r_M_isWord_29 {G : Nat → Value} {d : Nat} {M : am_M} {l0 l1 l2 : Option Value} {a : Int32} (ha : a = 0 ∨ a = 1) : am_run G d K_M_isWord (29, [l0, l1, l2], [.int a], M) = some (some (.int a), M) := am_run_ret (x := (.ireturn, 1, 0, 0, 0, 0)) (by decide +kernel) (if_pos (decide_eq_true ha))
theorem r_M_fail_0 {G : Nat → Value} {d : Nat} {st : List Value} {M : am_M} {v : Value} (hv : am_isr v = true) : am_run G d K_M_fail (0, [some v], st, M) = am_run G d K_M_fail (1, [some v], v :: st, M) := by
  rcases am_isr_cases hv with ⟨q, rfl⟩ | rfl
  · exact am_run_next (x := (.aload_n 0, 1, 0, 0, 0, 0)) (by decide +kernel) rfl
  · exact am_run_next (x := (.aload_n 0, 1, 0, 0, 0, 0)) (by decide +kernel) rfl
theorem r_M_fail_1 {G : Nat → Value} {d : Nat} {st : List Value} {M : am_M} {l0 : Option Value} {a : Nat} : am_run G d K_M_fail (1, [l0], .ref a :: st, M) = am_kf G d K_M_fail 4 [l0] st M (am_fld M a 10 35) := am_run_kf (x := (.getfield 247, 3, 10, 35, 5054, 0)) (by decide +kernel) rfl
theorem r_M_fail_4 {G : Nat → Value} {d : Nat} {st : List Value} {M : am_M} {l0 : Option Value} {a : Int32} : am_run G d K_M_fail (4, [l0], .int a :: st, M) = if ¬ a = 0 then am_run G d K_M_fail (20, [l0], st, M) else am_run G d K_M_fail (7, [l0], st, M) := by
  split
  · next h => exact am_run_next (x := (.ifCond .ne 16, 3, 0, 0, 0, 0)) (by decide +kernel) (am_br_t (decide_eq_true h) (by decide))
  · next h => exact am_run_next (x := (.ifCond .ne 16, 3, 0, 0, 0, 0)) (by decide +kernel) (am_br_f (decide_eq_false h) (by decide))
theorem r_M_fail_7 {G : Nat → Value} {d : Nat} {st : List Value} {M : am_M} {v : Value} (hv : am_isr v = true) : am_run G d K_M_fail (7, [some v], st, M) = am_run G d K_M_fail (8, [some v], v :: st, M) := by
  rcases am_isr_cases hv with ⟨q, rfl⟩ | rfl
  · exact am_run_next (x := (.aload_n 0, 1, 0, 0, 0, 0)) (by decide +kernel) rfl
  · exact am_run_next (x := (.aload_n 0, 1, 0, 0, 0, 0)) (by decide +kernel) rfl
theorem r_M_fail_8 {G : Nat → Value} {d : Nat} {st : List Value} {M : am_M} {l0 : Option Value} : am_run G d K_M_fail (8, [l0], st, M) = am_run G d K_M_fail (9, [l0], .int 1 :: st, M) := am_run_next (x := (.iconst 1, 1, 0, 0, 0, 0)) (by decide +kernel) rfl
theorem r_M_fail_9 {G : Nat → Value} {d : Nat} {st : List Value} {M : am_M} {l0 : Option Value} {a : Nat} {v : Value} : am_run G d K_M_fail (9, [l0], v :: .ref a :: st, M) = am_km G d K_M_fail 12 [l0] st (am_pf M a 10 35 .boolean v) := am_run_km (x := (.putfield 247, 3, 10, 35, 5054, 0)) (by decide +kernel) rfl
theorem r_M_fail_12 {G : Nat → Value} {d : Nat} {st : List Value} {M : am_M} {v : Value} (hv : am_isr v = true) : am_run G d K_M_fail (12, [some v], st, M) = am_run G d K_M_fail (13, [some v], v :: st, M) := by
  rcases am_isr_cases hv with ⟨q, rfl⟩ | rfl
  · exact am_run_next (x := (.aload_n 0, 1, 0, 0, 0, 0)) (by decide +kernel) rfl
  · exact am_run_next (x := (.aload_n 0, 1, 0, 0, 0, 0)) (by decide +kernel) rfl
theorem r_M_fail_13 {G : Nat → Value} {d : Nat} {st : List Value} {M : am_M} {v : Value} (hv : am_isr v = true) : am_run G d K_M_fail (13, [some v], st, M) = am_run G d K_M_fail (14, [some v], v :: st, M) := by
  rcases am_isr_cases hv with ⟨q, rfl⟩ | rfl
  · exact am_run_next (x := (.aload_n 0, 1, 0, 0, 0, 0)) (by decide +kernel) rfl
  · exact am_run_next (x := (.aload_n 0, 1, 0, 0, 0, 0)) (by decide +kernel) rfl
theorem r_M_fail_14 {G : Nat → Value} {d : Nat} {st : List Value} {M : am_M} {l0 : Option Value} {a : Nat} : am_run G d K_M_fail (14, [l0], .ref a :: st, M) = am_kf G d K_M_fail 17 [l0] st M (am_fld M a 10 31) := am_run_kf (x := (.getfield 221, 3, 10, 31, 5050, 0)) (by decide +kernel) rfl
theorem r_M_fail_17 {G : Nat → Value} {d : Nat} {st : List Value} {M : am_M} {l0 : Option Value} {a : Nat} {v : Value} : am_run G d K_M_fail (17, [l0], v :: .ref a :: st, M) = am_km G d K_M_fail 20 [l0] st (am_pf M a 10 36 .int v) := am_run_km (x := (.putfield 251, 3, 10, 36, 5055, 0)) (by decide +kernel) rfl
theorem r_M_fail_20 {G : Nat → Value} {d : Nat} {M : am_M} {l0 : Option Value} : am_run G d K_M_fail (20, [l0], [], M) = some (none, M) := am_run_ret (x := (.return_, 1, 0, 0, 0, 0)) (by decide +kernel) rfl
theorem r_M_either_0 {G : Nat → Value} {d : Nat} {st : List Value} {M : am_M} {l1 l2 : Option Value} {v : Value} (hv : am_isr v = true) : am_run G d K_M_either (0, [some v, l1, l2], st, M) = am_run G d K_M_either (1, [some v, l1, l2], v :: st, M) := by
  rcases am_isr_cases hv with ⟨q, rfl⟩ | rfl
  · exact am_run_next (x := (.aload_n 0, 1, 0, 0, 0, 0)) (by decide +kernel) rfl
  · exact am_run_next (x := (.aload_n 0, 1, 0, 0, 0, 0)) (by decide +kernel) rfl
theorem r_M_either_1 {G : Nat → Value} {d : Nat} {st : List Value} {M : am_M} {l0 l1 l2 : Option Value} {q : Nat} (hq : am_cls M q = some 10) (h8 : am_sw st ≤ 8) : am_run G d K_M_either (1, [l0, l1, l2], .ref q :: st, M) = am_k G d K_M_either 4 [l0, l1, l2] st (am_ex G d K_M_both [.ref q] M) := am_run_iv (i := 316) (n := 0) (pl := 6070) (Bs := []) (z := K_M_both) (by decide +kernel) hq h8 rfl (Nat.le_of_ble_eq_true rfl) rfl
theorem r_M_either_4 {G : Nat → Value} {d : Nat} {st : List Value} {M : am_M} {l0 l1 l2 : Option Value} {v : Int32} (hc : am_c1 l0 = true) : am_run G d K_M_either (4, [l0, l1, l2], .int v :: st, M) = am_run G d K_M_either (5, [l0, some (.int v), l2], st, M) := by
  rcases am_c1_cases hc with rfl | ⟨q, rfl⟩ | ⟨q, rfl⟩ | rfl
  · exact am_run_next (x := (.istore_n 1, 1, 0, 0, 0, 0)) (by decide +kernel) rfl
  · exact am_run_next (x := (.istore_n 1, 1, 0, 0, 0, 0)) (by decide +kernel) rfl
  · exact am_run_next (x := (.istore_n 1, 1, 0, 0, 0, 0)) (by decide +kernel) rfl
  · exact am_run_next (x := (.istore_n 1, 1, 0, 0, 0, 0)) (by decide +kernel) rfl
theorem r_M_either_4_k {G : Nat → Value} {d : Nat} {st : List Value} {M : am_M} {l1 l2 : Option Value} {v : Int32} {z : Int64} : am_run G d K_M_either (4, [some (.long z), l1, l2], .int v :: st, M) = am_run G d K_M_either (5, [none, some (.int v), l2], st, M) := am_run_next (x := (.istore_n 1, 1, 0, 0, 0, 0)) (by decide +kernel) rfl
theorem r_M_either_5 {G : Nat → Value} {d : Nat} {st : List Value} {M : am_M} {l1 l2 : Option Value} {v : Value} (hv : am_isr v = true) : am_run G d K_M_either (5, [some v, l1, l2], st, M) = am_run G d K_M_either (6, [some v, l1, l2], v :: st, M) := by
  rcases am_isr_cases hv with ⟨q, rfl⟩ | rfl
  · exact am_run_next (x := (.aload_n 0, 1, 0, 0, 0, 0)) (by decide +kernel) rfl
  · exact am_run_next (x := (.aload_n 0, 1, 0, 0, 0, 0)) (by decide +kernel) rfl
theorem r_M_either_6 {G : Nat → Value} {d : Nat} {st : List Value} {M : am_M} {l0 l1 l2 : Option Value} : am_run G d K_M_either (6, [l0, l1, l2], st, M) = am_run G d K_M_either (9, [l0, l1, l2], .long 423 :: st, M) := am_run_next (x := (.ldc2_w 319, 3, 0, 0, 6112, 423)) (by decide +kernel) rfl
theorem r_M_either_9 {G : Nat → Value} {d : Nat} {st : List Value} {M : am_M} {l0 l1 l2 : Option Value} {q : Nat} {a0 : Int64} (hq : am_cls M q = some 10) (h8 : am_sw st ≤ 8) : am_run G d K_M_either (9, [l0, l1, l2], .long a0 :: .ref q :: st, M) = am_k G d K_M_either 12 [l0, l1, l2] st (am_ex G d K_M_isWord [.ref q, .long a0] M) := am_run_iv (i := 265) (n := 1) (pl := 6058) (Bs := [.long a0]) (z := K_M_isWord) (by decide +kernel) hq h8 rfl (Nat.le_of_ble_eq_true rfl) rfl
theorem r_M_either_12 {G : Nat → Value} {d : Nat} {st : List Value} {M : am_M} {l0 l1 l2 : Option Value} {a : Int32} : am_run G d K_M_either (12, [l0, l1, l2], .int a :: st, M) = if a = 0 then am_run G d K_M_either (41, [l0, l1, l2], st, M) else am_run G d K_M_either (15, [l0, l1, l2], st, M) := by
  split
  · next h => exact am_run_next (x := (.ifCond .eq 29, 3, 0, 0, 0, 0)) (by decide +kernel) (am_br_t (decide_eq_true h) (by decide))
  · next h => exact am_run_next (x := (.ifCond .eq 29, 3, 0, 0, 0, 0)) (by decide +kernel) (am_br_f (decide_eq_false h) (by decide))
theorem r_M_either_15 {G : Nat → Value} {d : Nat} {st : List Value} {M : am_M} {l1 l2 : Option Value} {v : Value} (hv : am_isr v = true) : am_run G d K_M_either (15, [some v, l1, l2], st, M) = am_run G d K_M_either (16, [some v, l1, l2], v :: st, M) := by
  rcases am_isr_cases hv with ⟨q, rfl⟩ | rfl
  · exact am_run_next (x := (.aload_n 0, 1, 0, 0, 0, 0)) (by decide +kernel) rfl
  · exact am_run_next (x := (.aload_n 0, 1, 0, 0, 0, 0)) (by decide +kernel) rfl
theorem r_M_either_16 {G : Nat → Value} {d : Nat} {st : List Value} {M : am_M} {l0 l1 l2 : Option Value} {q : Nat} (hq : am_cls M q = some 10) (h8 : am_sw st ≤ 8) : am_run G d K_M_either (16, [l0, l1, l2], .ref q :: st, M) = am_k G d K_M_either 19 [l0, l1, l2] st (am_ex G d K_M_next [.ref q] M) := am_run_iv (i := 260) (n := 0) (pl := 6037) (Bs := []) (z := K_M_next) (by decide +kernel) hq h8 rfl (Nat.le_of_ble_eq_true rfl) rfl
theorem r_M_either_19 {G : Nat → Value} {d : Nat} {st : List Value} {M : am_M} {l1 l2 : Option Value} {v : Value} (hv : am_isr v = true) : am_run G d K_M_either (19, [some v, l1, l2], st, M) = am_run G d K_M_either (20, [some v, l1, l2], v :: st, M) := by
  rcases am_isr_cases hv with ⟨q, rfl⟩ | rfl
  · exact am_run_next (x := (.aload_n 0, 1, 0, 0, 0, 0)) (by decide +kernel) rfl
  · exact am_run_next (x := (.aload_n 0, 1, 0, 0, 0, 0)) (by decide +kernel) rfl
theorem r_M_either_20 {G : Nat → Value} {d : Nat} {st : List Value} {M : am_M} {l0 l1 l2 : Option Value} {q : Nat} (hq : am_cls M q = some 10) (h8 : am_sw st ≤ 8) : am_run G d K_M_either (20, [l0, l1, l2], .ref q :: st, M) = am_k G d K_M_either 23 [l0, l1, l2] st (am_ex G d K_M_both [.ref q] M) := am_run_iv (i := 316) (n := 0) (pl := 6070) (Bs := []) (z := K_M_both) (by decide +kernel) hq h8 rfl (Nat.le_of_ble_eq_true rfl) rfl
theorem r_M_either_23 {G : Nat → Value} {d : Nat} {st : List Value} {M : am_M} {l0 l1 l2 : Option Value} {v : Int32} (hc : am_c1 l1 = true) : am_run G d K_M_either (23, [l0, l1, l2], .int v :: st, M) = am_run G d K_M_either (24, [l0, l1, some (.int v)], st, M) := by
  rcases am_c1_cases hc with rfl | ⟨q, rfl⟩ | ⟨q, rfl⟩ | rfl
  · exact am_run_next (x := (.istore_n 2, 1, 0, 0, 0, 0)) (by decide +kernel) rfl
  · exact am_run_next (x := (.istore_n 2, 1, 0, 0, 0, 0)) (by decide +kernel) rfl
  · exact am_run_next (x := (.istore_n 2, 1, 0, 0, 0, 0)) (by decide +kernel) rfl
  · exact am_run_next (x := (.istore_n 2, 1, 0, 0, 0, 0)) (by decide +kernel) rfl
theorem r_M_either_23_k {G : Nat → Value} {d : Nat} {st : List Value} {M : am_M} {l0 l2 : Option Value} {v : Int32} {z : Int64} : am_run G d K_M_either (23, [l0, some (.long z), l2], .int v :: st, M) = am_run G d K_M_either (24, [l0, none, some (.int v)], st, M) := am_run_next (x := (.istore_n 2, 1, 0, 0, 0, 0)) (by decide +kernel) rfl
theorem r_M_either_24 {G : Nat → Value} {d : Nat} {st : List Value} {M : am_M} {l0 l2 : Option Value} {v : Int32} : am_run G d K_M_either (24, [l0, some (.int v), l2], st, M) = am_run G d K_M_either (25, [l0, some (.int v), l2], .int v :: st, M) := am_run_next (x := (.iload_n 1, 1, 0, 0, 0, 0)) (by decide +kernel) rfl
theorem r_M_either_25 {G : Nat → Value} {d : Nat} {st : List Value} {M : am_M} {l0 l1 l2 : Option Value} {a : Int32} : am_run G d K_M_either (25, [l0, l1, l2], .int a :: st, M) = if ¬ a = 0 then am_run G d K_M_either (32, [l0, l1, l2], st, M) else am_run G d K_M_either (28, [l0, l1, l2], st, M) := by
  split
  · next h => exact am_run_next (x := (.ifCond .ne 7, 3, 0, 0, 0, 0)) (by decide +kernel) (am_br_t (decide_eq_true h) (by decide))
  · next h => exact am_run_next (x := (.ifCond .ne 7, 3, 0, 0, 0, 0)) (by decide +kernel) (am_br_f (decide_eq_false h) (by decide))
theorem r_M_either_28 {G : Nat → Value} {d : Nat} {st : List Value} {M : am_M} {l0 l1 : Option Value} {v : Int32} : am_run G d K_M_either (28, [l0, l1, some (.int v)], st, M) = am_run G d K_M_either (29, [l0, l1, some (.int v)], .int v :: st, M) := am_run_next (x := (.iload_n 2, 1, 0, 0, 0, 0)) (by decide +kernel) rfl
theorem r_M_either_29 {G : Nat → Value} {d : Nat} {st : List Value} {M : am_M} {l0 l1 l2 : Option Value} {a : Int32} : am_run G d K_M_either (29, [l0, l1, l2], .int a :: st, M) = if a = 0 then am_run G d K_M_either (36, [l0, l1, l2], st, M) else am_run G d K_M_either (32, [l0, l1, l2], st, M) := by
  split
  · next h => exact am_run_next (x := (.ifCond .eq 7, 3, 0, 0, 0, 0)) (by decide +kernel) (am_br_t (decide_eq_true h) (by decide))
  · next h => exact am_run_next (x := (.ifCond .eq 7, 3, 0, 0, 0, 0)) (by decide +kernel) (am_br_f (decide_eq_false h) (by decide))
theorem r_M_either_32 {G : Nat → Value} {d : Nat} {st : List Value} {M : am_M} {l0 l1 l2 : Option Value} : am_run G d K_M_either (32, [l0, l1, l2], st, M) = am_run G d K_M_either (33, [l0, l1, l2], .int 1 :: st, M) := am_run_next (x := (.iconst 1, 1, 0, 0, 0, 0)) (by decide +kernel) rfl
theorem r_M_either_33 {G : Nat → Value} {d : Nat} {st : List Value} {M : am_M} {l0 l1 l2 : Option Value} : am_run G d K_M_either (33, [l0, l1, l2], st, M) = am_run G d K_M_either (37, [l0, l1, l2], st, M) := am_run_next (x := (.goto 4, 3, 0, 0, 0, 0)) (by decide +kernel) rfl
theorem r_M_either_36 {G : Nat → Value} {d : Nat} {st : List Value} {M : am_M} {l0 l1 l2 : Option Value} : am_run G d K_M_either (36, [l0, l1, l2], st, M) = am_run G d K_M_either (37, [l0, l1, l2], .int 0 :: st, M) := am_run_next (x := (.iconst 0, 1, 0, 0, 0, 0)) (by decide +kernel) rfl
theorem r_M_either_37 {G : Nat → Value} {d : Nat} {st : List Value} {M : am_M} {l0 l1 l2 : Option Value} {v : Int32} (hc : am_c1 l0 = true) : am_run G d K_M_either (37, [l0, l1, l2], .int v :: st, M) = am_run G d K_M_either (38, [l0, some (.int v), l2], st, M) := by
  rcases am_c1_cases hc with rfl | ⟨q, rfl⟩ | ⟨q, rfl⟩ | rfl
  · exact am_run_next (x := (.istore_n 1, 1, 0, 0, 0, 0)) (by decide +kernel) rfl
  · exact am_run_next (x := (.istore_n 1, 1, 0, 0, 0, 0)) (by decide +kernel) rfl
  · exact am_run_next (x := (.istore_n 1, 1, 0, 0, 0, 0)) (by decide +kernel) rfl
  · exact am_run_next (x := (.istore_n 1, 1, 0, 0, 0, 0)) (by decide +kernel) rfl
theorem r_M_either_37_k {G : Nat → Value} {d : Nat} {st : List Value} {M : am_M} {l1 l2 : Option Value} {v : Int32} {z : Int64} : am_run G d K_M_either (37, [some (.long z), l1, l2], .int v :: st, M) = am_run G d K_M_either (38, [none, some (.int v), l2], st, M) := am_run_next (x := (.istore_n 1, 1, 0, 0, 0, 0)) (by decide +kernel) rfl
theorem r_M_either_38 {G : Nat → Value} {d : Nat} {st : List Value} {M : am_M} {l0 l1 l2 : Option Value} : am_run G d K_M_either (38, [l0, l1, l2], st, M) = am_run G d K_M_either (5, [l0, l1, l2], st, M) := am_run_next (x := (.goto (-33), 3, 0, 0, 0, 0)) (by decide +kernel) rfl
theorem r_M_either_41 {G : Nat → Value} {d : Nat} {st : List Value} {M : am_M} {l0 l2 : Option Value} {v : Int32} : am_run G d K_M_either (41, [l0, some (.int v), l2], st, M) = am_run G d K_M_either (42, [l0, some (.int v), l2], .int v :: st, M) := am_run_next (x := (.iload_n 1, 1, 0, 0, 0, 0)) (by decide +kernel) rfl
theorem r_M_either_42 {G : Nat → Value} {d : Nat} {M : am_M} {l0 l1 l2 : Option Value} {a : Int32} : am_run G d K_M_either (42, [l0, l1, l2], [.int a], M) = some (some (.int a), M) := am_run_ret (x := (.ireturn, 1, 0, 0, 0, 0)) (by decide +kernel) rfl
theorem r_M_both_0 {G : Nat → Value} {d : Nat} {st : List Value} {M : am_M} {l1 l2 : Option Value} {v : Value} (hv : am_isr v = true) : am_run G d K_M_both (0, [some v, l1, l2], st, M) = am_run G d K_M_both (1, [some v, l1, l2], v :: st, M) := by
  rcases am_isr_cases hv with ⟨q, rfl⟩ | rfl
  · exact am_run_next (x := (.aload_n 0, 1, 0, 0, 0, 0)) (by decide +kernel) rfl
  · exact am_run_next (x := (.aload_n 0, 1, 0, 0, 0, 0)) (by decide +kernel) rfl
theorem r_M_both_1 {G : Nat → Value} {d : Nat} {st : List Value} {M : am_M} {l0 l1 l2 : Option Value} {q : Nat} (hq : am_cls M q = some 10) (h8 : am_sw st ≤ 8) : am_run G d K_M_both (1, [l0, l1, l2], .ref q :: st, M) = am_k G d K_M_both 4 [l0, l1, l2] st (am_ex G d K_M_not [.ref q] M) := am_run_iv (i := 306) (n := 0) (pl := 6074) (Bs := []) (z := K_M_not) (by decide +kernel) hq h8 rfl (Nat.le_of_ble_eq_true rfl) rfl
theorem r_M_both_4 {G : Nat → Value} {d : Nat} {st : List Value} {M : am_M} {l0 l1 l2 : Option Value} {v : Int32} (hc : am_c1 l0 = true) : am_run G d K_M_both (4, [l0, l1, l2], .int v :: st, M) = am_run G d K_M_both (5, [l0, some (.int v), l2], st, M) := by
  rcases am_c1_cases hc with rfl | ⟨q, rfl⟩ | ⟨q, rfl⟩ | rfl
  · exact am_run_next (x := (.istore_n 1, 1, 0, 0, 0, 0)) (by decide +kernel) rfl
  · exact am_run_next (x := (.istore_n 1, 1, 0, 0, 0, 0)) (by decide +kernel) rfl
  · exact am_run_next (x := (.istore_n 1, 1, 0, 0, 0, 0)) (by decide +kernel) rfl
  · exact am_run_next (x := (.istore_n 1, 1, 0, 0, 0, 0)) (by decide +kernel) rfl
theorem r_M_both_4_k {G : Nat → Value} {d : Nat} {st : List Value} {M : am_M} {l1 l2 : Option Value} {v : Int32} {z : Int64} : am_run G d K_M_both (4, [some (.long z), l1, l2], .int v :: st, M) = am_run G d K_M_both (5, [none, some (.int v), l2], st, M) := am_run_next (x := (.istore_n 1, 1, 0, 0, 0, 0)) (by decide +kernel) rfl
theorem r_M_both_5 {G : Nat → Value} {d : Nat} {st : List Value} {M : am_M} {l1 l2 : Option Value} {v : Value} (hv : am_isr v = true) : am_run G d K_M_both (5, [some v, l1, l2], st, M) = am_run G d K_M_both (6, [some v, l1, l2], v :: st, M) := by
  rcases am_isr_cases hv with ⟨q, rfl⟩ | rfl
  · exact am_run_next (x := (.aload_n 0, 1, 0, 0, 0, 0)) (by decide +kernel) rfl
  · exact am_run_next (x := (.aload_n 0, 1, 0, 0, 0, 0)) (by decide +kernel) rfl
theorem r_M_both_6 {G : Nat → Value} {d : Nat} {st : List Value} {M : am_M} {l0 l1 l2 : Option Value} : am_run G d K_M_both (6, [l0, l1, l2], st, M) = am_run G d K_M_both (9, [l0, l1, l2], .long 1111 :: st, M) := am_run_next (x := (.ldc2_w 314, 3, 0, 0, 6111, 1111)) (by decide +kernel) rfl
theorem r_M_both_9 {G : Nat → Value} {d : Nat} {st : List Value} {M : am_M} {l0 l1 l2 : Option Value} {q : Nat} {a0 : Int64} (hq : am_cls M q = some 10) (h8 : am_sw st ≤ 8) : am_run G d K_M_both (9, [l0, l1, l2], .long a0 :: .ref q :: st, M) = am_k G d K_M_both 12 [l0, l1, l2] st (am_ex G d K_M_isWord [.ref q, .long a0] M) := am_run_iv (i := 265) (n := 1) (pl := 6058) (Bs := [.long a0]) (z := K_M_isWord) (by decide +kernel) hq h8 rfl (Nat.le_of_ble_eq_true rfl) rfl
theorem r_M_both_12 {G : Nat → Value} {d : Nat} {st : List Value} {M : am_M} {l0 l1 l2 : Option Value} {a : Int32} : am_run G d K_M_both (12, [l0, l1, l2], .int a :: st, M) = if a = 0 then am_run G d K_M_both (41, [l0, l1, l2], st, M) else am_run G d K_M_both (15, [l0, l1, l2], st, M) := by
  split
  · next h => exact am_run_next (x := (.ifCond .eq 29, 3, 0, 0, 0, 0)) (by decide +kernel) (am_br_t (decide_eq_true h) (by decide))
  · next h => exact am_run_next (x := (.ifCond .eq 29, 3, 0, 0, 0, 0)) (by decide +kernel) (am_br_f (decide_eq_false h) (by decide))
theorem r_M_both_15 {G : Nat → Value} {d : Nat} {st : List Value} {M : am_M} {l1 l2 : Option Value} {v : Value} (hv : am_isr v = true) : am_run G d K_M_both (15, [some v, l1, l2], st, M) = am_run G d K_M_both (16, [some v, l1, l2], v :: st, M) := by
  rcases am_isr_cases hv with ⟨q, rfl⟩ | rfl
  · exact am_run_next (x := (.aload_n 0, 1, 0, 0, 0, 0)) (by decide +kernel) rfl
  · exact am_run_next (x := (.aload_n 0, 1, 0, 0, 0, 0)) (by decide +kernel) rfl
theorem r_M_both_16 {G : Nat → Value} {d : Nat} {st : List Value} {M : am_M} {l0 l1 l2 : Option Value} {q : Nat} (hq : am_cls M q = some 10) (h8 : am_sw st ≤ 8) : am_run G d K_M_both (16, [l0, l1, l2], .ref q :: st, M) = am_k G d K_M_both 19 [l0, l1, l2] st (am_ex G d K_M_next [.ref q] M) := am_run_iv (i := 260) (n := 0) (pl := 6037) (Bs := []) (z := K_M_next) (by decide +kernel) hq h8 rfl (Nat.le_of_ble_eq_true rfl) rfl
theorem r_M_both_19 {G : Nat → Value} {d : Nat} {st : List Value} {M : am_M} {l1 l2 : Option Value} {v : Value} (hv : am_isr v = true) : am_run G d K_M_both (19, [some v, l1, l2], st, M) = am_run G d K_M_both (20, [some v, l1, l2], v :: st, M) := by
  rcases am_isr_cases hv with ⟨q, rfl⟩ | rfl
  · exact am_run_next (x := (.aload_n 0, 1, 0, 0, 0, 0)) (by decide +kernel) rfl
  · exact am_run_next (x := (.aload_n 0, 1, 0, 0, 0, 0)) (by decide +kernel) rfl
theorem r_M_both_20 {G : Nat → Value} {d : Nat} {st : List Value} {M : am_M} {l0 l1 l2 : Option Value} {q : Nat} (hq : am_cls M q = some 10) (h8 : am_sw st ≤ 8) : am_run G d K_M_both (20, [l0, l1, l2], .ref q :: st, M) = am_k G d K_M_both 23 [l0, l1, l2] st (am_ex G d K_M_not [.ref q] M) := am_run_iv (i := 306) (n := 0) (pl := 6074) (Bs := []) (z := K_M_not) (by decide +kernel) hq h8 rfl (Nat.le_of_ble_eq_true rfl) rfl
theorem r_M_both_23 {G : Nat → Value} {d : Nat} {st : List Value} {M : am_M} {l0 l1 l2 : Option Value} {v : Int32} (hc : am_c1 l1 = true) : am_run G d K_M_both (23, [l0, l1, l2], .int v :: st, M) = am_run G d K_M_both (24, [l0, l1, some (.int v)], st, M) := by
  rcases am_c1_cases hc with rfl | ⟨q, rfl⟩ | ⟨q, rfl⟩ | rfl
  · exact am_run_next (x := (.istore_n 2, 1, 0, 0, 0, 0)) (by decide +kernel) rfl
  · exact am_run_next (x := (.istore_n 2, 1, 0, 0, 0, 0)) (by decide +kernel) rfl
  · exact am_run_next (x := (.istore_n 2, 1, 0, 0, 0, 0)) (by decide +kernel) rfl
  · exact am_run_next (x := (.istore_n 2, 1, 0, 0, 0, 0)) (by decide +kernel) rfl
theorem r_M_both_23_k {G : Nat → Value} {d : Nat} {st : List Value} {M : am_M} {l0 l2 : Option Value} {v : Int32} {z : Int64} : am_run G d K_M_both (23, [l0, some (.long z), l2], .int v :: st, M) = am_run G d K_M_both (24, [l0, none, some (.int v)], st, M) := am_run_next (x := (.istore_n 2, 1, 0, 0, 0, 0)) (by decide +kernel) rfl
theorem r_M_both_24 {G : Nat → Value} {d : Nat} {st : List Value} {M : am_M} {l0 l2 : Option Value} {v : Int32} : am_run G d K_M_both (24, [l0, some (.int v), l2], st, M) = am_run G d K_M_both (25, [l0, some (.int v), l2], .int v :: st, M) := am_run_next (x := (.iload_n 1, 1, 0, 0, 0, 0)) (by decide +kernel) rfl
theorem r_M_both_25 {G : Nat → Value} {d : Nat} {st : List Value} {M : am_M} {l0 l1 l2 : Option Value} {a : Int32} : am_run G d K_M_both (25, [l0, l1, l2], .int a :: st, M) = if a = 0 then am_run G d K_M_both (36, [l0, l1, l2], st, M) else am_run G d K_M_both (28, [l0, l1, l2], st, M) := by
  split
  · next h => exact am_run_next (x := (.ifCond .eq 11, 3, 0, 0, 0, 0)) (by decide +kernel) (am_br_t (decide_eq_true h) (by decide))
  · next h => exact am_run_next (x := (.ifCond .eq 11, 3, 0, 0, 0, 0)) (by decide +kernel) (am_br_f (decide_eq_false h) (by decide))
theorem r_M_both_28 {G : Nat → Value} {d : Nat} {st : List Value} {M : am_M} {l0 l1 : Option Value} {v : Int32} : am_run G d K_M_both (28, [l0, l1, some (.int v)], st, M) = am_run G d K_M_both (29, [l0, l1, some (.int v)], .int v :: st, M) := am_run_next (x := (.iload_n 2, 1, 0, 0, 0, 0)) (by decide +kernel) rfl
theorem r_M_both_29 {G : Nat → Value} {d : Nat} {st : List Value} {M : am_M} {l0 l1 l2 : Option Value} {a : Int32} : am_run G d K_M_both (29, [l0, l1, l2], .int a :: st, M) = if a = 0 then am_run G d K_M_both (36, [l0, l1, l2], st, M) else am_run G d K_M_both (32, [l0, l1, l2], st, M) := by
  split
  · next h => exact am_run_next (x := (.ifCond .eq 7, 3, 0, 0, 0, 0)) (by decide +kernel) (am_br_t (decide_eq_true h) (by decide))
  · next h => exact am_run_next (x := (.ifCond .eq 7, 3, 0, 0, 0, 0)) (by decide +kernel) (am_br_f (decide_eq_false h) (by decide))
theorem r_M_both_32 {G : Nat → Value} {d : Nat} {st : List Value} {M : am_M} {l0 l1 l2 : Option Value} : am_run G d K_M_both (32, [l0, l1, l2], st, M) = am_run G d K_M_both (33, [l0, l1, l2], .int 1 :: st, M) := am_run_next (x := (.iconst 1, 1, 0, 0, 0, 0)) (by decide +kernel) rfl
theorem r_M_both_33 {G : Nat → Value} {d : Nat} {st : List Value} {M : am_M} {l0 l1 l2 : Option Value} : am_run G d K_M_both (33, [l0, l1, l2], st, M) = am_run G d K_M_both (37, [l0, l1, l2], st, M) := am_run_next (x := (.goto 4, 3, 0, 0, 0, 0)) (by decide +kernel) rfl
theorem r_M_both_36 {G : Nat → Value} {d : Nat} {st : List Value} {M : am_M} {l0 l1 l2 : Option Value} : am_run G d K_M_both (36, [l0, l1, l2], st, M) = am_run G d K_M_both (37, [l0, l1, l2], .int 0 :: st, M) := am_run_next (x := (.iconst 0, 1, 0, 0, 0, 0)) (by decide +kernel) rfl
theorem r_M_both_37 {G : Nat → Value} {d : Nat} {st : List Value} {M : am_M} {l0 l1 l2 : Option Value} {v : Int32} (hc : am_c1 l0 = true) : am_run G d K_M_both (37, [l0, l1, l2], .int v :: st, M) = am_run G d K_M_both (38, [l0, some (.int v), l2], st, M) := by
  rcases am_c1_cases hc with rfl | ⟨q, rfl⟩ | ⟨q, rfl⟩ | rfl
  · exact am_run_next (x := (.istore_n 1, 1, 0, 0, 0, 0)) (by decide +kernel) rfl
  · exact am_run_next (x := (.istore_n 1, 1, 0, 0, 0, 0)) (by decide +kernel) rfl
  · exact am_run_next (x := (.istore_n 1, 1, 0, 0, 0, 0)) (by decide +kernel) rfl
  · exact am_run_next (x := (.istore_n 1, 1, 0, 0, 0, 0)) (by decide +kernel) rfl
theorem r_M_both_37_k {G : Nat → Value} {d : Nat} {st : List Value} {M : am_M} {l1 l2 : Option Value} {v : Int32} {z : Int64} : am_run G d K_M_both (37, [some (.long z), l1, l2], .int v :: st, M) = am_run G d K_M_both (38, [none, some (.int v), l2], st, M) := am_run_next (x := (.istore_n 1, 1, 0, 0, 0, 0)) (by decide +kernel) rfl
theorem r_M_both_38 {G : Nat → Value} {d : Nat} {st : List Value} {M : am_M} {l0 l1 l2 : Option Value} : am_run G d K_M_both (38, [l0, l1, l2], st, M) = am_run G d K_M_both (5, [l0, l1, l2], st, M) := am_run_next (x := (.goto (-33), 3, 0, 0, 0, 0)) (by decide +kernel) rfl
theorem r_M_both_41 {G : Nat → Value} {d : Nat} {st : List Value} {M : am_M} {l0 l2 : Option Value} {v : Int32} : am_run G d K_M_both (41, [l0, some (.int v), l2], st, M) = am_run G d K_M_both (42, [l0, some (.int v), l2], .int v :: st, M) := am_run_next (x := (.iload_n 1, 1, 0, 0, 0, 0)) (by decide +kernel) rfl
theorem r_M_both_42 {G : Nat → Value} {d : Nat} {M : am_M} {l0 l1 l2 : Option Value} {a : Int32} : am_run G d K_M_both (42, [l0, l1, l2], [.int a], M) = some (some (.int a), M) := am_run_ret (x := (.ireturn, 1, 0, 0, 0, 0)) (by decide +kernel) rfl
theorem r_M_not_0 {G : Nat → Value} {d : Nat} {st : List Value} {M : am_M} {l1 l2 l3 : Option Value} {v : Value} (hv : am_isr v = true) : am_run G d K_M_not (0, [some v, l1, l2, l3], st, M) = am_run G d K_M_not (1, [some v, l1, l2, l3], v :: st, M) := by
  rcases am_isr_cases hv with ⟨q, rfl⟩ | rfl
  · exact am_run_next (x := (.aload_n 0, 1, 0, 0, 0, 0)) (by decide +kernel) rfl
  · exact am_run_next (x := (.aload_n 0, 1, 0, 0, 0, 0)) (by decide +kernel) rfl
theorem r_M_not_1 {G : Nat → Value} {d : Nat} {st : List Value} {M : am_M} {l0 l1 l2 l3 : Option Value} : am_run G d K_M_not (1, [l0, l1, l2, l3], st, M) = am_run G d K_M_not (4, [l0, l1, l2, l3], .long 10631 :: st, M) := am_run_next (x := (.ldc2_w 304, 3, 0, 0, 6078, 10631)) (by decide +kernel) rfl
theorem r_M_not_4 {G : Nat → Value} {d : Nat} {st : List Value} {M : am_M} {l0 l1 l2 l3 : Option Value} {q : Nat} {a0 : Int64} (hq : am_cls M q = some 10) (h8 : am_sw st ≤ 8) : am_run G d K_M_not (4, [l0, l1, l2, l3], .long a0 :: .ref q :: st, M) = am_k G d K_M_not 7 [l0, l1, l2, l3] st (am_ex G d K_M_isWord [.ref q, .long a0] M) := am_run_iv (i := 265) (n := 1) (pl := 6058) (Bs := [.long a0]) (z := K_M_isWord) (by decide +kernel) hq h8 rfl (Nat.le_of_ble_eq_true rfl) rfl
theorem r_M_not_7 {G : Nat → Value} {d : Nat} {st : List Value} {M : am_M} {l0 l1 l2 l3 : Option Value} {a : Int32} : am_run G d K_M_not (7, [l0, l1, l2, l3], .int a :: st, M) = if a = 0 then am_run G d K_M_not (44, [l0, l1, l2, l3], st, M) else am_run G d K_M_not (10, [l0, l1, l2, l3], st, M) := by
  split
  · next h => exact am_run_next (x := (.ifCond .eq 37, 3, 0, 0, 0, 0)) (by decide +kernel) (am_br_t (decide_eq_true h) (by decide))
  · next h => exact am_run_next (x := (.ifCond .eq 37, 3, 0, 0, 0, 0)) (by decide +kernel) (am_br_f (decide_eq_false h) (by decide))
theorem r_M_not_10 {G : Nat → Value} {d : Nat} {st : List Value} {M : am_M} {l1 l2 l3 : Option Value} {v : Value} (hv : am_isr v = true) : am_run G d K_M_not (10, [some v, l1, l2, l3], st, M) = am_run G d K_M_not (11, [some v, l1, l2, l3], v :: st, M) := by
  rcases am_isr_cases hv with ⟨q, rfl⟩ | rfl
  · exact am_run_next (x := (.aload_n 0, 1, 0, 0, 0, 0)) (by decide +kernel) rfl
  · exact am_run_next (x := (.aload_n 0, 1, 0, 0, 0, 0)) (by decide +kernel) rfl
theorem r_M_not_11 {G : Nat → Value} {d : Nat} {st : List Value} {M : am_M} {l0 l1 l2 l3 : Option Value} {q : Nat} (hq : am_cls M q = some 10) (h8 : am_sw st ≤ 8) : am_run G d K_M_not (11, [l0, l1, l2, l3], .ref q :: st, M) = am_k G d K_M_not 14 [l0, l1, l2, l3] st (am_ex G d K_M_opens [.ref q] M) := am_run_iv (i := 285) (n := 0) (pl := 6079) (Bs := []) (z := K_M_opens) (by decide +kernel) hq h8 rfl (Nat.le_of_ble_eq_true rfl) rfl
theorem r_M_not_14 {G : Nat → Value} {d : Nat} {st : List Value} {M : am_M} {l0 l1 l2 l3 : Option Value} {a : Int32} : am_run G d K_M_not (14, [l0, l1, l2, l3], .int a :: st, M) = if ¬ a = 0 then am_run G d K_M_not (19, [l0, l1, l2, l3], st, M) else am_run G d K_M_not (17, [l0, l1, l2, l3], st, M) := by
  split
  · next h => exact am_run_next (x := (.ifCond .ne 5, 3, 0, 0, 0, 0)) (by decide +kernel) (am_br_t (decide_eq_true h) (by decide))
  · next h => exact am_run_next (x := (.ifCond .ne 5, 3, 0, 0, 0, 0)) (by decide +kernel) (am_br_f (decide_eq_false h) (by decide))
theorem r_M_not_17 {G : Nat → Value} {d : Nat} {st : List Value} {M : am_M} {l0 l1 l2 l3 : Option Value} : am_run G d K_M_not (17, [l0, l1, l2, l3], st, M) = am_run G d K_M_not (18, [l0, l1, l2, l3], .int 0 :: st, M) := am_run_next (x := (.iconst 0, 1, 0, 0, 0, 0)) (by decide +kernel) rfl
theorem r_M_not_18 {G : Nat → Value} {d : Nat} {M : am_M} {l0 l1 l2 l3 : Option Value} {a : Int32} : am_run G d K_M_not (18, [l0, l1, l2, l3], [.int a], M) = some (some (.int a), M) := am_run_ret (x := (.ireturn, 1, 0, 0, 0, 0)) (by decide +kernel) rfl
theorem r_M_not_19 {G : Nat → Value} {d : Nat} {st : List Value} {M : am_M} {l1 l2 l3 : Option Value} {v : Value} (hv : am_isr v = true) : am_run G d K_M_not (19, [some v, l1, l2, l3], st, M) = am_run G d K_M_not (20, [some v, l1, l2, l3], v :: st, M) := by
  rcases am_isr_cases hv with ⟨q, rfl⟩ | rfl
  · exact am_run_next (x := (.aload_n 0, 1, 0, 0, 0, 0)) (by decide +kernel) rfl
  · exact am_run_next (x := (.aload_n 0, 1, 0, 0, 0, 0)) (by decide +kernel) rfl
theorem r_M_not_20 {G : Nat → Value} {d : Nat} {st : List Value} {M : am_M} {l0 l1 l2 l3 : Option Value} {q : Nat} (hq : am_cls M q = some 10) (h8 : am_sw st ≤ 8) : am_run G d K_M_not (20, [l0, l1, l2, l3], .ref q :: st, M) = am_k G d K_M_not 23 [l0, l1, l2, l3] st (am_ex G d K_M_not [.ref q] M) := am_run_iv (i := 306) (n := 0) (pl := 6074) (Bs := []) (z := K_M_not) (by decide +kernel) hq h8 rfl (Nat.le_of_ble_eq_true rfl) rfl
theorem r_M_not_23 {G : Nat → Value} {d : Nat} {st : List Value} {M : am_M} {l0 l1 l2 l3 : Option Value} {v : Int32} (hc : am_c1 l0 = true) : am_run G d K_M_not (23, [l0, l1, l2, l3], .int v :: st, M) = am_run G d K_M_not (24, [l0, some (.int v), l2, l3], st, M) := by
  rcases am_c1_cases hc with rfl | ⟨q, rfl⟩ | ⟨q, rfl⟩ | rfl
  · exact am_run_next (x := (.istore_n 1, 1, 0, 0, 0, 0)) (by decide +kernel) rfl
  · exact am_run_next (x := (.istore_n 1, 1, 0, 0, 0, 0)) (by decide +kernel) rfl
  · exact am_run_next (x := (.istore_n 1, 1, 0, 0, 0, 0)) (by decide +kernel) rfl
  · exact am_run_next (x := (.istore_n 1, 1, 0, 0, 0, 0)) (by decide +kernel) rfl
theorem r_M_not_23_k {G : Nat → Value} {d : Nat} {st : List Value} {M : am_M} {l1 l2 l3 : Option Value} {v : Int32} {z : Int64} : am_run G d K_M_not (23, [some (.long z), l1, l2, l3], .int v :: st, M) = am_run G d K_M_not (24, [none, some (.int v), l2, l3], st, M) := am_run_next (x := (.istore_n 1, 1, 0, 0, 0, 0)) (by decide +kernel) rfl
theorem r_M_not_24 {G : Nat → Value} {d : Nat} {st : List Value} {M : am_M} {l1 l2 l3 : Option Value} {v : Value} (hv : am_isr v = true) : am_run G d K_M_not (24, [some v, l1, l2, l3], st, M) = am_run G d K_M_not (25, [some v, l1, l2, l3], v :: st, M) := by
  rcases am_isr_cases hv with ⟨q, rfl⟩ | rfl
  · exact am_run_next (x := (.aload_n 0, 1, 0, 0, 0, 0)) (by decide +kernel) rfl
  · exact am_run_next (x := (.aload_n 0, 1, 0, 0, 0, 0)) (by decide +kernel) rfl
theorem r_M_not_25 {G : Nat → Value} {d : Nat} {st : List Value} {M : am_M} {l0 l1 l2 l3 : Option Value} {v : Value} (hv : v.category = 1) : am_run G d K_M_not (25, [l0, l1, l2, l3], v :: st, M) = am_run G d K_M_not (26, [l0, l1, l2, l3], v :: v :: st, M) := am_run_next (x := (.dup, 1, 0, 0, 0, 0)) (by decide +kernel) (if_pos hv)
theorem r_M_not_26 {G : Nat → Value} {d : Nat} {st : List Value} {M : am_M} {l0 l1 l2 l3 : Option Value} {a : Nat} : am_run G d K_M_not (26, [l0, l1, l2, l3], .ref a :: st, M) = am_kf G d K_M_not 29 [l0, l1, l2, l3] st M (am_fld M a 10 34) := am_run_kf (x := (.getfield 254, 3, 10, 34, 5053, 0)) (by decide +kernel) rfl
theorem r_M_not_29 {G : Nat → Value} {d : Nat} {st : List Value} {M : am_M} {l0 l1 l2 l3 : Option Value} : am_run G d K_M_not (29, [l0, l1, l2, l3], st, M) = am_run G d K_M_not (30, [l0, l1, l2, l3], .int 1 :: st, M) := am_run_next (x := (.iconst 1, 1, 0, 0, 0, 0)) (by decide +kernel) rfl
theorem r_M_not_30 {G : Nat → Value} {d : Nat} {st : List Value} {M : am_M} {l0 l1 l2 l3 : Option Value} {a b : Int32} : am_run G d K_M_not (30, [l0, l1, l2, l3], .int b :: .int a :: st, M) = am_run G d K_M_not (31, [l0, l1, l2, l3], .int (a - b) :: st, M) := am_run_next (x := (.isub, 1, 0, 0, 0, 0)) (by decide +kernel) rfl
theorem r_M_not_31 {G : Nat → Value} {d : Nat} {st : List Value} {M : am_M} {l0 l1 l2 l3 : Option Value} {a : Nat} {v : Value} : am_run G d K_M_not (31, [l0, l1, l2, l3], v :: .ref a :: st, M) = am_km G d K_M_not 34 [l0, l1, l2, l3] st (am_pf M a 10 34 .int v) := am_run_km (x := (.putfield 254, 3, 10, 34, 5053, 0)) (by decide +kernel) rfl
theorem r_M_not_34 {G : Nat → Value} {d : Nat} {st : List Value} {M : am_M} {l0 l2 l3 : Option Value} {v : Int32} : am_run G d K_M_not (34, [l0, some (.int v), l2, l3], st, M) = am_run G d K_M_not (35, [l0, some (.int v), l2, l3], .int v :: st, M) := am_run_next (x := (.iload_n 1, 1, 0, 0, 0, 0)) (by decide +kernel) rfl
theorem r_M_not_35 {G : Nat → Value} {d : Nat} {st : List Value} {M : am_M} {l0 l1 l2 l3 : Option Value} {a : Int32} : am_run G d K_M_not (35, [l0, l1, l2, l3], .int a :: st, M) = if ¬ a = 0 then am_run G d K_M_not (42, [l0, l1, l2, l3], st, M) else am_run G d K_M_not (38, [l0, l1, l2, l3], st, M) := by
  split
  · next h => exact am_run_next (x := (.ifCond .ne 7, 3, 0, 0, 0, 0)) (by decide +kernel) (am_br_t (decide_eq_true h) (by decide))
  · next h => exact am_run_next (x := (.ifCond .ne 7, 3, 0, 0, 0, 0)) (by decide +kernel) (am_br_f (decide_eq_false h) (by decide))
theorem r_M_not_38 {G : Nat → Value} {d : Nat} {st : List Value} {M : am_M} {l0 l1 l2 l3 : Option Value} : am_run G d K_M_not (38, [l0, l1, l2, l3], st, M) = am_run G d K_M_not (39, [l0, l1, l2, l3], .int 1 :: st, M) := am_run_next (x := (.iconst 1, 1, 0, 0, 0, 0)) (by decide +kernel) rfl
theorem r_M_not_39 {G : Nat → Value} {d : Nat} {st : List Value} {M : am_M} {l0 l1 l2 l3 : Option Value} : am_run G d K_M_not (39, [l0, l1, l2, l3], st, M) = am_run G d K_M_not (43, [l0, l1, l2, l3], st, M) := am_run_next (x := (.goto 4, 3, 0, 0, 0, 0)) (by decide +kernel) rfl
theorem r_M_not_42 {G : Nat → Value} {d : Nat} {st : List Value} {M : am_M} {l0 l1 l2 l3 : Option Value} : am_run G d K_M_not (42, [l0, l1, l2, l3], st, M) = am_run G d K_M_not (43, [l0, l1, l2, l3], .int 0 :: st, M) := am_run_next (x := (.iconst 0, 1, 0, 0, 0, 0)) (by decide +kernel) rfl
theorem r_M_not_43 {G : Nat → Value} {d : Nat} {M : am_M} {l0 l1 l2 l3 : Option Value} {a : Int32} : am_run G d K_M_not (43, [l0, l1, l2, l3], [.int a], M) = some (some (.int a), M) := am_run_ret (x := (.ireturn, 1, 0, 0, 0, 0)) (by decide +kernel) rfl
theorem r_M_not_44 {G : Nat → Value} {d : Nat} {st : List Value} {M : am_M} {l1 l2 l3 : Option Value} {v : Value} (hv : am_isr v = true) : am_run G d K_M_not (44, [some v, l1, l2, l3], st, M) = am_run G d K_M_not (45, [some v, l1, l2, l3], v :: st, M) := by
  rcases am_isr_cases hv with ⟨q, rfl⟩ | rfl
  · exact am_run_next (x := (.aload_n 0, 1, 0, 0, 0, 0)) (by decide +kernel) rfl
  · exact am_run_next (x := (.aload_n 0, 1, 0, 0, 0, 0)) (by decide +kernel) rfl
theorem r_M_not_45 {G : Nat → Value} {d : Nat} {st : List Value} {M : am_M} {l0 l1 l2 l3 : Option Value} {q : Nat} (hq : am_cls M q = some 10) (h8 : am_sw st ≤ 8) : am_run G d K_M_not (45, [l0, l1, l2, l3], .ref q :: st, M) = am_k G d K_M_not 48 [l0, l1, l2, l3] st (am_ex G d K_M_added [.ref q] M) := am_run_iv (i := 309) (n := 0) (pl := 6083) (Bs := []) (z := K_M_added) (by decide +kernel) hq h8 rfl (Nat.le_of_ble_eq_true rfl) rfl
theorem r_M_not_48 {G : Nat → Value} {d : Nat} {st : List Value} {M : am_M} {l0 l1 l2 l3 : Option Value} {v : Int32} (hc : am_c1 l0 = true) : am_run G d K_M_not (48, [l0, l1, l2, l3], .int v :: st, M) = am_run G d K_M_not (49, [l0, some (.int v), l2, l3], st, M) := by
  rcases am_c1_cases hc with rfl | ⟨q, rfl⟩ | ⟨q, rfl⟩ | rfl
  · exact am_run_next (x := (.istore_n 1, 1, 0, 0, 0, 0)) (by decide +kernel) rfl
  · exact am_run_next (x := (.istore_n 1, 1, 0, 0, 0, 0)) (by decide +kernel) rfl
  · exact am_run_next (x := (.istore_n 1, 1, 0, 0, 0, 0)) (by decide +kernel) rfl
  · exact am_run_next (x := (.istore_n 1, 1, 0, 0, 0, 0)) (by decide +kernel) rfl
theorem r_M_not_48_k {G : Nat → Value} {d : Nat} {st : List Value} {M : am_M} {l1 l2 l3 : Option Value} {v : Int32} {z : Int64} : am_run G d K_M_not (48, [some (.long z), l1, l2, l3], .int v :: st, M) = am_run G d K_M_not (49, [none, some (.int v), l2, l3], st, M) := am_run_next (x := (.istore_n 1, 1, 0, 0, 0, 0)) (by decide +kernel) rfl
theorem r_M_not_49 {G : Nat → Value} {d : Nat} {st : List Value} {M : am_M} {l1 l2 l3 : Option Value} {v : Value} (hv : am_isr v = true) : am_run G d K_M_not (49, [some v, l1, l2, l3], st, M) = am_run G d K_M_not (50, [some v, l1, l2, l3], v :: st, M) := by
  rcases am_isr_cases hv with ⟨q, rfl⟩ | rfl
  · exact am_run_next (x := (.aload_n 0, 1, 0, 0, 0, 0)) (by decide +kernel) rfl
  · exact am_run_next (x := (.aload_n 0, 1, 0, 0, 0, 0)) (by decide +kernel) rfl
theorem r_M_not_50 {G : Nat → Value} {d : Nat} {st : List Value} {M : am_M} {l0 l1 l2 l3 : Option Value} : am_run G d K_M_not (50, [l0, l1, l2, l3], st, M) = am_run G d K_M_not (52, [l0, l1, l2, l3], .int 60 :: st, M) := am_run_next (x := (.bipush 60, 2, 0, 0, 0, 0)) (by decide +kernel) rfl
theorem r_M_not_52 {G : Nat → Value} {d : Nat} {st : List Value} {M : am_M} {l0 l1 l2 l3 : Option Value} {q : Nat} {a0 : Int32} (hq : am_cls M q = some 10) (h8 : am_sw st ≤ 8) : am_run G d K_M_not (52, [l0, l1, l2, l3], .int a0 :: .ref q :: st, M) = am_k G d K_M_not 55 [l0, l1, l2, l3] st (am_ex G d K_M_isSign [.ref q, .int a0] M) := am_run_iv (i := 282) (n := 1) (pl := 6095) (Bs := [.int a0]) (z := K_M_isSign) (by decide +kernel) hq h8 rfl (Nat.le_of_ble_eq_true rfl) rfl
theorem r_M_not_55 {G : Nat → Value} {d : Nat} {st : List Value} {M : am_M} {l0 l1 l2 l3 : Option Value} {a : Int32} : am_run G d K_M_not (55, [l0, l1, l2, l3], .int a :: st, M) = if ¬ a = 0 then am_run G d K_M_not (69, [l0, l1, l2, l3], st, M) else am_run G d K_M_not (58, [l0, l1, l2, l3], st, M) := by
  split
  · next h => exact am_run_next (x := (.ifCond .ne 14, 3, 0, 0, 0, 0)) (by decide +kernel) (am_br_t (decide_eq_true h) (by decide))
  · next h => exact am_run_next (x := (.ifCond .ne 14, 3, 0, 0, 0, 0)) (by decide +kernel) (am_br_f (decide_eq_false h) (by decide))
theorem r_M_not_58 {G : Nat → Value} {d : Nat} {st : List Value} {M : am_M} {l1 l2 l3 : Option Value} {v : Value} (hv : am_isr v = true) : am_run G d K_M_not (58, [some v, l1, l2, l3], st, M) = am_run G d K_M_not (59, [some v, l1, l2, l3], v :: st, M) := by
  rcases am_isr_cases hv with ⟨q, rfl⟩ | rfl
  · exact am_run_next (x := (.aload_n 0, 1, 0, 0, 0, 0)) (by decide +kernel) rfl
  · exact am_run_next (x := (.aload_n 0, 1, 0, 0, 0, 0)) (by decide +kernel) rfl
theorem r_M_not_59 {G : Nat → Value} {d : Nat} {st : List Value} {M : am_M} {l0 l1 l2 l3 : Option Value} : am_run G d K_M_not (59, [l0, l1, l2, l3], st, M) = am_run G d K_M_not (61, [l0, l1, l2, l3], .int 61 :: st, M) := am_run_next (x := (.bipush 61, 2, 0, 0, 0, 0)) (by decide +kernel) rfl
theorem r_M_not_61 {G : Nat → Value} {d : Nat} {st : List Value} {M : am_M} {l0 l1 l2 l3 : Option Value} {q : Nat} {a0 : Int32} (hq : am_cls M q = some 10) (h8 : am_sw st ≤ 8) : am_run G d K_M_not (61, [l0, l1, l2, l3], .int a0 :: .ref q :: st, M) = am_k G d K_M_not 64 [l0, l1, l2, l3] st (am_ex G d K_M_isSign [.ref q, .int a0] M) := am_run_iv (i := 282) (n := 1) (pl := 6095) (Bs := [.int a0]) (z := K_M_isSign) (by decide +kernel) hq h8 rfl (Nat.le_of_ble_eq_true rfl) rfl
theorem r_M_not_64 {G : Nat → Value} {d : Nat} {st : List Value} {M : am_M} {l0 l1 l2 l3 : Option Value} {a : Int32} : am_run G d K_M_not (64, [l0, l1, l2, l3], .int a :: st, M) = if ¬ a = 0 then am_run G d K_M_not (69, [l0, l1, l2, l3], st, M) else am_run G d K_M_not (67, [l0, l1, l2, l3], st, M) := by
  split
  · next h => exact am_run_next (x := (.ifCond .ne 5, 3, 0, 0, 0, 0)) (by decide +kernel) (am_br_t (decide_eq_true h) (by decide))
  · next h => exact am_run_next (x := (.ifCond .ne 5, 3, 0, 0, 0, 0)) (by decide +kernel) (am_br_f (decide_eq_false h) (by decide))
theorem r_M_not_67 {G : Nat → Value} {d : Nat} {st : List Value} {M : am_M} {l0 l2 l3 : Option Value} {v : Int32} : am_run G d K_M_not (67, [l0, some (.int v), l2, l3], st, M) = am_run G d K_M_not (68, [l0, some (.int v), l2, l3], .int v :: st, M) := am_run_next (x := (.iload_n 1, 1, 0, 0, 0, 0)) (by decide +kernel) rfl
theorem r_M_not_68 {G : Nat → Value} {d : Nat} {M : am_M} {l0 l1 l2 l3 : Option Value} {a : Int32} : am_run G d K_M_not (68, [l0, l1, l2, l3], [.int a], M) = some (some (.int a), M) := am_run_ret (x := (.ireturn, 1, 0, 0, 0, 0)) (by decide +kernel) rfl
theorem r_M_not_69 {G : Nat → Value} {d : Nat} {st : List Value} {M : am_M} {l1 l2 l3 : Option Value} {v : Value} (hv : am_isr v = true) : am_run G d K_M_not (69, [some v, l1, l2, l3], st, M) = am_run G d K_M_not (70, [some v, l1, l2, l3], v :: st, M) := by
  rcases am_isr_cases hv with ⟨q, rfl⟩ | rfl
  · exact am_run_next (x := (.aload_n 0, 1, 0, 0, 0, 0)) (by decide +kernel) rfl
  · exact am_run_next (x := (.aload_n 0, 1, 0, 0, 0, 0)) (by decide +kernel) rfl
theorem r_M_not_70 {G : Nat → Value} {d : Nat} {st : List Value} {M : am_M} {l0 l1 l2 l3 : Option Value} {a : Nat} : am_run G d K_M_not (70, [l0, l1, l2, l3], .ref a :: st, M) = am_kf G d K_M_not 73 [l0, l1, l2, l3] st M (am_fld M a 10 32) := am_run_kf (x := (.getfield 231, 3, 10, 32, 5051, 0)) (by decide +kernel) rfl
theorem r_M_not_73 {G : Nat → Value} {d : Nat} {st : List Value} {M : am_M} {l0 l1 l2 l3 : Option Value} : am_run G d K_M_not (73, [l0, l1, l2, l3], st, M) = am_run G d K_M_not (76, [l0, l1, l2, l3], .long 60 :: st, M) := am_run_next (x := (.ldc2_w 312, 3, 0, 0, 6110, 60)) (by decide +kernel) rfl
theorem r_M_not_76 {G : Nat → Value} {d : Nat} {st : List Value} {M : am_M} {l0 l1 l2 l3 : Option Value} {a b : Int64} : am_run G d K_M_not (76, [l0, l1, l2, l3], .long b :: .long a :: st, M) = am_run G d K_M_not (77, [l0, l1, l2, l3], .int (lg_cmp a b) :: st, M) := am_run_next (x := (.lcmp, 1, 0, 0, 0, 0)) (by decide +kernel) rfl
theorem r_M_not_77 {G : Nat → Value} {d : Nat} {st : List Value} {M : am_M} {l0 l1 l2 l3 : Option Value} {a : Int32} : am_run G d K_M_not (77, [l0, l1, l2, l3], .int a :: st, M) = if ¬ a = 0 then am_run G d K_M_not (84, [l0, l1, l2, l3], st, M) else am_run G d K_M_not (80, [l0, l1, l2, l3], st, M) := by
  split
  · next h => exact am_run_next (x := (.ifCond .ne 7, 3, 0, 0, 0, 0)) (by decide +kernel) (am_br_t (decide_eq_true h) (by decide))
  · next h => exact am_run_next (x := (.ifCond .ne 7, 3, 0, 0, 0, 0)) (by decide +kernel) (am_br_f (decide_eq_false h) (by decide))
theorem r_M_not_80 {G : Nat → Value} {d : Nat} {st : List Value} {M : am_M} {l0 l1 l2 l3 : Option Value} : am_run G d K_M_not (80, [l0, l1, l2, l3], st, M) = am_run G d K_M_not (81, [l0, l1, l2, l3], .int 1 :: st, M) := am_run_next (x := (.iconst 1, 1, 0, 0, 0, 0)) (by decide +kernel) rfl
theorem r_M_not_81 {G : Nat → Value} {d : Nat} {st : List Value} {M : am_M} {l0 l1 l2 l3 : Option Value} : am_run G d K_M_not (81, [l0, l1, l2, l3], st, M) = am_run G d K_M_not (85, [l0, l1, l2, l3], st, M) := am_run_next (x := (.goto 4, 3, 0, 0, 0, 0)) (by decide +kernel) rfl
theorem r_M_not_84 {G : Nat → Value} {d : Nat} {st : List Value} {M : am_M} {l0 l1 l2 l3 : Option Value} : am_run G d K_M_not (84, [l0, l1, l2, l3], st, M) = am_run G d K_M_not (85, [l0, l1, l2, l3], .int 0 :: st, M) := am_run_next (x := (.iconst 0, 1, 0, 0, 0, 0)) (by decide +kernel) rfl
theorem r_M_not_85 {G : Nat → Value} {d : Nat} {st : List Value} {M : am_M} {l0 l1 l2 l3 : Option Value} {v : Int32} (hc : am_c1 l1 = true) : am_run G d K_M_not (85, [l0, l1, l2, l3], .int v :: st, M) = am_run G d K_M_not (86, [l0, l1, some (.int v), l3], st, M) := by
  rcases am_c1_cases hc with rfl | ⟨q, rfl⟩ | ⟨q, rfl⟩ | rfl
  · exact am_run_next (x := (.istore_n 2, 1, 0, 0, 0, 0)) (by decide +kernel) rfl
  · exact am_run_next (x := (.istore_n 2, 1, 0, 0, 0, 0)) (by decide +kernel) rfl
  · exact am_run_next (x := (.istore_n 2, 1, 0, 0, 0, 0)) (by decide +kernel) rfl
  · exact am_run_next (x := (.istore_n 2, 1, 0, 0, 0, 0)) (by decide +kernel) rfl
theorem r_M_not_85_k {G : Nat → Value} {d : Nat} {st : List Value} {M : am_M} {l0 l2 l3 : Option Value} {v : Int32} {z : Int64} : am_run G d K_M_not (85, [l0, some (.long z), l2, l3], .int v :: st, M) = am_run G d K_M_not (86, [l0, none, some (.int v), l3], st, M) := am_run_next (x := (.istore_n 2, 1, 0, 0, 0, 0)) (by decide +kernel) rfl
theorem r_M_not_86 {G : Nat → Value} {d : Nat} {st : List Value} {M : am_M} {l1 l2 l3 : Option Value} {v : Value} (hv : am_isr v = true) : am_run G d K_M_not (86, [some v, l1, l2, l3], st, M) = am_run G d K_M_not (87, [some v, l1, l2, l3], v :: st, M) := by
  rcases am_isr_cases hv with ⟨q, rfl⟩ | rfl
  · exact am_run_next (x := (.aload_n 0, 1, 0, 0, 0, 0)) (by decide +kernel) rfl
  · exact am_run_next (x := (.aload_n 0, 1, 0, 0, 0, 0)) (by decide +kernel) rfl
theorem r_M_not_87 {G : Nat → Value} {d : Nat} {st : List Value} {M : am_M} {l0 l1 l2 l3 : Option Value} {q : Nat} (hq : am_cls M q = some 10) (h8 : am_sw st ≤ 8) : am_run G d K_M_not (87, [l0, l1, l2, l3], .ref q :: st, M) = am_k G d K_M_not 90 [l0, l1, l2, l3] st (am_ex G d K_M_next [.ref q] M) := am_run_iv (i := 260) (n := 0) (pl := 6037) (Bs := []) (z := K_M_next) (by decide +kernel) hq h8 rfl (Nat.le_of_ble_eq_true rfl) rfl
theorem r_M_not_90 {G : Nat → Value} {d : Nat} {st : List Value} {M : am_M} {l1 l2 l3 : Option Value} {v : Value} (hv : am_isr v = true) : am_run G d K_M_not (90, [some v, l1, l2, l3], st, M) = am_run G d K_M_not (91, [some v, l1, l2, l3], v :: st, M) := by
  rcases am_isr_cases hv with ⟨q, rfl⟩ | rfl
  · exact am_run_next (x := (.aload_n 0, 1, 0, 0, 0, 0)) (by decide +kernel) rfl
  · exact am_run_next (x := (.aload_n 0, 1, 0, 0, 0, 0)) (by decide +kernel) rfl
theorem r_M_not_91 {G : Nat → Value} {d : Nat} {st : List Value} {M : am_M} {l0 l1 l2 l3 : Option Value} {q : Nat} (hq : am_cls M q = some 10) (h8 : am_sw st ≤ 8) : am_run G d K_M_not (91, [l0, l1, l2, l3], .ref q :: st, M) = am_k G d K_M_not 94 [l0, l1, l2, l3] st (am_ex G d K_M_added [.ref q] M) := am_run_iv (i := 309) (n := 0) (pl := 6083) (Bs := []) (z := K_M_added) (by decide +kernel) hq h8 rfl (Nat.le_of_ble_eq_true rfl) rfl
theorem r_M_not_94 {G : Nat → Value} {d : Nat} {st : List Value} {M : am_M} {l0 l1 l2 l3 : Option Value} {v : Int32} (hc : am_c1 l2 = true) : am_run G d K_M_not (94, [l0, l1, l2, l3], .int v :: st, M) = am_run G d K_M_not (95, [l0, l1, l2, some (.int v)], st, M) := by
  rcases am_c1_cases hc with rfl | ⟨q, rfl⟩ | ⟨q, rfl⟩ | rfl
  · exact am_run_next (x := (.istore_n 3, 1, 0, 0, 0, 0)) (by decide +kernel) rfl
  · exact am_run_next (x := (.istore_n 3, 1, 0, 0, 0, 0)) (by decide +kernel) rfl
  · exact am_run_next (x := (.istore_n 3, 1, 0, 0, 0, 0)) (by decide +kernel) rfl
  · exact am_run_next (x := (.istore_n 3, 1, 0, 0, 0, 0)) (by decide +kernel) rfl
theorem r_M_not_94_k {G : Nat → Value} {d : Nat} {st : List Value} {M : am_M} {l0 l1 l3 : Option Value} {v : Int32} {z : Int64} : am_run G d K_M_not (94, [l0, l1, some (.long z), l3], .int v :: st, M) = am_run G d K_M_not (95, [l0, l1, none, some (.int v)], st, M) := am_run_next (x := (.istore_n 3, 1, 0, 0, 0, 0)) (by decide +kernel) rfl
theorem r_M_not_95 {G : Nat → Value} {d : Nat} {st : List Value} {M : am_M} {l0 l1 l3 : Option Value} {v : Int32} : am_run G d K_M_not (95, [l0, l1, some (.int v), l3], st, M) = am_run G d K_M_not (96, [l0, l1, some (.int v), l3], .int v :: st, M) := am_run_next (x := (.iload_n 2, 1, 0, 0, 0, 0)) (by decide +kernel) rfl
theorem r_M_not_96 {G : Nat → Value} {d : Nat} {st : List Value} {M : am_M} {l0 l1 l2 l3 : Option Value} {a : Int32} : am_run G d K_M_not (96, [l0, l1, l2, l3], .int a :: st, M) = if a = 0 then am_run G d K_M_not (107, [l0, l1, l2, l3], st, M) else am_run G d K_M_not (99, [l0, l1, l2, l3], st, M) := by
  split
  · next h => exact am_run_next (x := (.ifCond .eq 11, 3, 0, 0, 0, 0)) (by decide +kernel) (am_br_t (decide_eq_true h) (by decide))
  · next h => exact am_run_next (x := (.ifCond .eq 11, 3, 0, 0, 0, 0)) (by decide +kernel) (am_br_f (decide_eq_false h) (by decide))
theorem r_M_not_99 {G : Nat → Value} {d : Nat} {st : List Value} {M : am_M} {l0 l2 l3 : Option Value} {v : Int32} : am_run G d K_M_not (99, [l0, some (.int v), l2, l3], st, M) = am_run G d K_M_not (100, [l0, some (.int v), l2, l3], .int v :: st, M) := am_run_next (x := (.iload_n 1, 1, 0, 0, 0, 0)) (by decide +kernel) rfl
theorem r_M_not_100 {G : Nat → Value} {d : Nat} {st : List Value} {M : am_M} {l0 l1 l2 : Option Value} {v : Int32} : am_run G d K_M_not (100, [l0, l1, l2, some (.int v)], st, M) = am_run G d K_M_not (101, [l0, l1, l2, some (.int v)], .int v :: st, M) := am_run_next (x := (.iload_n 3, 1, 0, 0, 0, 0)) (by decide +kernel) rfl
theorem r_M_not_101 {G : Nat → Value} {d : Nat} {st : List Value} {M : am_M} {l0 l1 l2 l3 : Option Value} {a b : Int32} : am_run G d K_M_not (101, [l0, l1, l2, l3], .int b :: .int a :: st, M) = if b ≤ a then am_run G d K_M_not (116, [l0, l1, l2, l3], st, M) else am_run G d K_M_not (104, [l0, l1, l2, l3], st, M) := by
  split
  · next h => exact am_run_next (x := (.if_icmp .ge 15, 3, 0, 0, 0, 0)) (by decide +kernel) (am_br_t (decide_eq_true h) (by decide))
  · next h => exact am_run_next (x := (.if_icmp .ge 15, 3, 0, 0, 0, 0)) (by decide +kernel) (am_br_f (decide_eq_false h) (by decide))
theorem r_M_not_104 {G : Nat → Value} {d : Nat} {st : List Value} {M : am_M} {l0 l1 l2 l3 : Option Value} : am_run G d K_M_not (104, [l0, l1, l2, l3], st, M) = am_run G d K_M_not (112, [l0, l1, l2, l3], st, M) := am_run_next (x := (.goto 8, 3, 0, 0, 0, 0)) (by decide +kernel) rfl
theorem r_M_not_107 {G : Nat → Value} {d : Nat} {st : List Value} {M : am_M} {l0 l2 l3 : Option Value} {v : Int32} : am_run G d K_M_not (107, [l0, some (.int v), l2, l3], st, M) = am_run G d K_M_not (108, [l0, some (.int v), l2, l3], .int v :: st, M) := am_run_next (x := (.iload_n 1, 1, 0, 0, 0, 0)) (by decide +kernel) rfl
theorem r_M_not_108 {G : Nat → Value} {d : Nat} {st : List Value} {M : am_M} {l0 l1 l2 : Option Value} {v : Int32} : am_run G d K_M_not (108, [l0, l1, l2, some (.int v)], st, M) = am_run G d K_M_not (109, [l0, l1, l2, some (.int v)], .int v :: st, M) := am_run_next (x := (.iload_n 3, 1, 0, 0, 0, 0)) (by decide +kernel) rfl
theorem r_M_not_109 {G : Nat → Value} {d : Nat} {st : List Value} {M : am_M} {l0 l1 l2 l3 : Option Value} {a b : Int32} : am_run G d K_M_not (109, [l0, l1, l2, l3], .int b :: .int a :: st, M) = if ¬ a = b then am_run G d K_M_not (116, [l0, l1, l2, l3], st, M) else am_run G d K_M_not (112, [l0, l1, l2, l3], st, M) := by
  split
  · next h => exact am_run_next (x := (.if_icmp .ne 7, 3, 0, 0, 0, 0)) (by decide +kernel) (am_br_t (decide_eq_true h) (by decide))
  · next h => exact am_run_next (x := (.if_icmp .ne 7, 3, 0, 0, 0, 0)) (by decide +kernel) (am_br_f (decide_eq_false h) (by decide))
theorem r_M_not_112 {G : Nat → Value} {d : Nat} {st : List Value} {M : am_M} {l0 l1 l2 l3 : Option Value} : am_run G d K_M_not (112, [l0, l1, l2, l3], st, M) = am_run G d K_M_not (113, [l0, l1, l2, l3], .int 1 :: st, M) := am_run_next (x := (.iconst 1, 1, 0, 0, 0, 0)) (by decide +kernel) rfl
theorem r_M_not_113 {G : Nat → Value} {d : Nat} {st : List Value} {M : am_M} {l0 l1 l2 l3 : Option Value} : am_run G d K_M_not (113, [l0, l1, l2, l3], st, M) = am_run G d K_M_not (117, [l0, l1, l2, l3], st, M) := am_run_next (x := (.goto 4, 3, 0, 0, 0, 0)) (by decide +kernel) rfl
theorem r_M_not_116 {G : Nat → Value} {d : Nat} {st : List Value} {M : am_M} {l0 l1 l2 l3 : Option Value} : am_run G d K_M_not (116, [l0, l1, l2, l3], st, M) = am_run G d K_M_not (117, [l0, l1, l2, l3], .int 0 :: st, M) := am_run_next (x := (.iconst 0, 1, 0, 0, 0, 0)) (by decide +kernel) rfl
theorem r_M_not_117 {G : Nat → Value} {d : Nat} {M : am_M} {l0 l1 l2 l3 : Option Value} {a : Int32} : am_run G d K_M_not (117, [l0, l1, l2, l3], [.int a], M) = some (some (.int a), M) := am_run_ret (x := (.ireturn, 1, 0, 0, 0, 0)) (by decide +kernel) rfl
theorem r_M_opens_0 {G : Nat → Value} {d : Nat} {st : List Value} {M : am_M} {v : Value} (hv : am_isr v = true) : am_run G d K_M_opens (0, [some v], st, M) = am_run G d K_M_opens (1, [some v], v :: st, M) := by
  rcases am_isr_cases hv with ⟨q, rfl⟩ | rfl
  · exact am_run_next (x := (.aload_n 0, 1, 0, 0, 0, 0)) (by decide +kernel) rfl
  · exact am_run_next (x := (.aload_n 0, 1, 0, 0, 0, 0)) (by decide +kernel) rfl
theorem r_M_opens_1 {G : Nat → Value} {d : Nat} {st : List Value} {M : am_M} {l0 : Option Value} {a : Nat} : am_run G d K_M_opens (1, [l0], .ref a :: st, M) = am_kf G d K_M_opens 4 [l0] st M (am_fld M a 10 34) := am_run_kf (x := (.getfield 254, 3, 10, 34, 5053, 0)) (by decide +kernel) rfl
theorem r_M_opens_4 {G : Nat → Value} {d : Nat} {st : List Value} {M : am_M} {l0 : Option Value} : am_run G d K_M_opens (4, [l0], st, M) = am_run G d K_M_opens (5, [l0], .int 5 :: st, M) := am_run_next (x := (.iconst 5, 1, 0, 0, 0, 0)) (by decide +kernel) rfl
theorem r_M_opens_5 {G : Nat → Value} {d : Nat} {st : List Value} {M : am_M} {l0 : Option Value} {a b : Int32} : am_run G d K_M_opens (5, [l0], .int b :: .int a :: st, M) = if ¬ a = b then am_run G d K_M_opens (14, [l0], st, M) else am_run G d K_M_opens (8, [l0], st, M) := by
  split
  · next h => exact am_run_next (x := (.if_icmp .ne 9, 3, 0, 0, 0, 0)) (by decide +kernel) (am_br_t (decide_eq_true h) (by decide))
  · next h => exact am_run_next (x := (.if_icmp .ne 9, 3, 0, 0, 0, 0)) (by decide +kernel) (am_br_f (decide_eq_false h) (by decide))
theorem r_M_opens_8 {G : Nat → Value} {d : Nat} {st : List Value} {M : am_M} {v : Value} (hv : am_isr v = true) : am_run G d K_M_opens (8, [some v], st, M) = am_run G d K_M_opens (9, [some v], v :: st, M) := by
  rcases am_isr_cases hv with ⟨q, rfl⟩ | rfl
  · exact am_run_next (x := (.aload_n 0, 1, 0, 0, 0, 0)) (by decide +kernel) rfl
  · exact am_run_next (x := (.aload_n 0, 1, 0, 0, 0, 0)) (by decide +kernel) rfl
theorem r_M_opens_9 {G : Nat → Value} {d : Nat} {st : List Value} {M : am_M} {l0 : Option Value} {q : Nat} (hq : am_cls M q = some 10) (h8 : am_sw st ≤ 8) : am_run G d K_M_opens (9, [l0], .ref q :: st, M) = am_k G d K_M_opens 12 [l0] st (am_ex G d K_M_fail [.ref q] M) := am_run_iv (i := 257) (n := 0) (pl := 6062) (Bs := []) (z := K_M_fail) (by decide +kernel) hq h8 rfl (Nat.le_of_ble_eq_true rfl) rfl
theorem r_M_opens_12 {G : Nat → Value} {d : Nat} {st : List Value} {M : am_M} {l0 : Option Value} : am_run G d K_M_opens (12, [l0], st, M) = am_run G d K_M_opens (13, [l0], .int 0 :: st, M) := am_run_next (x := (.iconst 0, 1, 0, 0, 0, 0)) (by decide +kernel) rfl
theorem r_M_opens_13 {G : Nat → Value} {d : Nat} {M : am_M} {l0 : Option Value} {a : Int32} (ha : a = 0 ∨ a = 1) : am_run G d K_M_opens (13, [l0], [.int a], M) = some (some (.int a), M) := am_run_ret (x := (.ireturn, 1, 0, 0, 0, 0)) (by decide +kernel) (if_pos (decide_eq_true ha))
theorem r_M_opens_14 {G : Nat → Value} {d : Nat} {st : List Value} {M : am_M} {v : Value} (hv : am_isr v = true) : am_run G d K_M_opens (14, [some v], st, M) = am_run G d K_M_opens (15, [some v], v :: st, M) := by
  rcases am_isr_cases hv with ⟨q, rfl⟩ | rfl
  · exact am_run_next (x := (.aload_n 0, 1, 0, 0, 0, 0)) (by decide +kernel) rfl
  · exact am_run_next (x := (.aload_n 0, 1, 0, 0, 0, 0)) (by decide +kernel) rfl
theorem r_M_opens_15 {G : Nat → Value} {d : Nat} {st : List Value} {M : am_M} {l0 : Option Value} {v : Value} (hv : v.category = 1) : am_run G d K_M_opens (15, [l0], v :: st, M) = am_run G d K_M_opens (16, [l0], v :: v :: st, M) := am_run_next (x := (.dup, 1, 0, 0, 0, 0)) (by decide +kernel) (if_pos hv)
theorem r_M_opens_16 {G : Nat → Value} {d : Nat} {st : List Value} {M : am_M} {l0 : Option Value} {a : Nat} : am_run G d K_M_opens (16, [l0], .ref a :: st, M) = am_kf G d K_M_opens 19 [l0] st M (am_fld M a 10 34) := am_run_kf (x := (.getfield 254, 3, 10, 34, 5053, 0)) (by decide +kernel) rfl
theorem r_M_opens_19 {G : Nat → Value} {d : Nat} {st : List Value} {M : am_M} {l0 : Option Value} : am_run G d K_M_opens (19, [l0], st, M) = am_run G d K_M_opens (20, [l0], .int 1 :: st, M) := am_run_next (x := (.iconst 1, 1, 0, 0, 0, 0)) (by decide +kernel) rfl
theorem r_M_opens_20 {G : Nat → Value} {d : Nat} {st : List Value} {M : am_M} {l0 : Option Value} {a b : Int32} : am_run G d K_M_opens (20, [l0], .int b :: .int a :: st, M) = am_run G d K_M_opens (21, [l0], .int (a + b) :: st, M) := am_run_next (x := (.iadd, 1, 0, 0, 0, 0)) (by decide +kernel) rfl
theorem r_M_opens_21 {G : Nat → Value} {d : Nat} {st : List Value} {M : am_M} {l0 : Option Value} {a : Nat} {v : Value} : am_run G d K_M_opens (21, [l0], v :: .ref a :: st, M) = am_km G d K_M_opens 24 [l0] st (am_pf M a 10 34 .int v) := am_run_km (x := (.putfield 254, 3, 10, 34, 5053, 0)) (by decide +kernel) rfl
theorem r_M_opens_24 {G : Nat → Value} {d : Nat} {st : List Value} {M : am_M} {v : Value} (hv : am_isr v = true) : am_run G d K_M_opens (24, [some v], st, M) = am_run G d K_M_opens (25, [some v], v :: st, M) := by
  rcases am_isr_cases hv with ⟨q, rfl⟩ | rfl
  · exact am_run_next (x := (.aload_n 0, 1, 0, 0, 0, 0)) (by decide +kernel) rfl
  · exact am_run_next (x := (.aload_n 0, 1, 0, 0, 0, 0)) (by decide +kernel) rfl
theorem r_M_opens_25 {G : Nat → Value} {d : Nat} {st : List Value} {M : am_M} {l0 : Option Value} {q : Nat} (hq : am_cls M q = some 10) (h8 : am_sw st ≤ 8) : am_run G d K_M_opens (25, [l0], .ref q :: st, M) = am_k G d K_M_opens 28 [l0] st (am_ex G d K_M_next [.ref q] M) := am_run_iv (i := 260) (n := 0) (pl := 6037) (Bs := []) (z := K_M_next) (by decide +kernel) hq h8 rfl (Nat.le_of_ble_eq_true rfl) rfl
theorem r_M_opens_28 {G : Nat → Value} {d : Nat} {st : List Value} {M : am_M} {l0 : Option Value} : am_run G d K_M_opens (28, [l0], st, M) = am_run G d K_M_opens (29, [l0], .int 1 :: st, M) := am_run_next (x := (.iconst 1, 1, 0, 0, 0, 0)) (by decide +kernel) rfl
theorem r_M_opens_29 {G : Nat → Value} {d : Nat} {M : am_M} {l0 : Option Value} {a : Int32} (ha : a = 0 ∨ a = 1) : am_run G d K_M_opens (29, [l0], [.int a], M) = some (some (.int a), M) := am_run_ret (x := (.ireturn, 1, 0, 0, 0, 0)) (by decide +kernel) (if_pos (decide_eq_true ha))
theorem r_M_added_0 {G : Nat → Value} {d : Nat} {st : List Value} {M : am_M} {l1 l2 l3 : Option Value} {v : Value} (hv : am_isr v = true) : am_run G d K_M_added (0, [some v, l1, l2, l3], st, M) = am_run G d K_M_added (1, [some v, l1, l2, l3], v :: st, M) := by
  rcases am_isr_cases hv with ⟨q, rfl⟩ | rfl
  · exact am_run_next (x := (.aload_n 0, 1, 0, 0, 0, 0)) (by decide +kernel) rfl
  · exact am_run_next (x := (.aload_n 0, 1, 0, 0, 0, 0)) (by decide +kernel) rfl
theorem r_M_added_1 {G : Nat → Value} {d : Nat} {st : List Value} {M : am_M} {l0 l1 l2 l3 : Option Value} {q : Nat} (hq : am_cls M q = some 10) (h8 : am_sw st ≤ 8) : am_run G d K_M_added (1, [l0, l1, l2, l3], .ref q :: st, M) = am_k G d K_M_added 4 [l0, l1, l2, l3] st (am_ex G d K_M_term [.ref q] M) := am_run_iv (i := 299) (n := 0) (pl := 6087) (Bs := []) (z := K_M_term) (by decide +kernel) hq h8 rfl (Nat.le_of_ble_eq_true rfl) rfl
theorem r_M_added_4 {G : Nat → Value} {d : Nat} {st : List Value} {M : am_M} {l0 l1 l2 l3 : Option Value} {v : Int32} (hc : am_c1 l0 = true) : am_run G d K_M_added (4, [l0, l1, l2, l3], .int v :: st, M) = am_run G d K_M_added (5, [l0, some (.int v), l2, l3], st, M) := by
  rcases am_c1_cases hc with rfl | ⟨q, rfl⟩ | ⟨q, rfl⟩ | rfl
  · exact am_run_next (x := (.istore_n 1, 1, 0, 0, 0, 0)) (by decide +kernel) rfl
  · exact am_run_next (x := (.istore_n 1, 1, 0, 0, 0, 0)) (by decide +kernel) rfl
  · exact am_run_next (x := (.istore_n 1, 1, 0, 0, 0, 0)) (by decide +kernel) rfl
  · exact am_run_next (x := (.istore_n 1, 1, 0, 0, 0, 0)) (by decide +kernel) rfl
theorem r_M_added_4_k {G : Nat → Value} {d : Nat} {st : List Value} {M : am_M} {l1 l2 l3 : Option Value} {v : Int32} {z : Int64} : am_run G d K_M_added (4, [some (.long z), l1, l2, l3], .int v :: st, M) = am_run G d K_M_added (5, [none, some (.int v), l2, l3], st, M) := am_run_next (x := (.istore_n 1, 1, 0, 0, 0, 0)) (by decide +kernel) rfl
theorem r_M_added_5 {G : Nat → Value} {d : Nat} {st : List Value} {M : am_M} {l1 l2 l3 : Option Value} {v : Value} (hv : am_isr v = true) : am_run G d K_M_added (5, [some v, l1, l2, l3], st, M) = am_run G d K_M_added (6, [some v, l1, l2, l3], v :: st, M) := by
  rcases am_isr_cases hv with ⟨q, rfl⟩ | rfl
  · exact am_run_next (x := (.aload_n 0, 1, 0, 0, 0, 0)) (by decide +kernel) rfl
  · exact am_run_next (x := (.aload_n 0, 1, 0, 0, 0, 0)) (by decide +kernel) rfl
theorem r_M_added_6 {G : Nat → Value} {d : Nat} {st : List Value} {M : am_M} {l0 l1 l2 l3 : Option Value} : am_run G d K_M_added (6, [l0, l1, l2, l3], st, M) = am_run G d K_M_added (8, [l0, l1, l2, l3], .int 43 :: st, M) := am_run_next (x := (.bipush 43, 2, 0, 0, 0, 0)) (by decide +kernel) rfl
theorem r_M_added_8 {G : Nat → Value} {d : Nat} {st : List Value} {M : am_M} {l0 l1 l2 l3 : Option Value} {q : Nat} {a0 : Int32} (hq : am_cls M q = some 10) (h8 : am_sw st ≤ 8) : am_run G d K_M_added (8, [l0, l1, l2, l3], .int a0 :: .ref q :: st, M) = am_k G d K_M_added 11 [l0, l1, l2, l3] st (am_ex G d K_M_isSign [.ref q, .int a0] M) := am_run_iv (i := 282) (n := 1) (pl := 6095) (Bs := [.int a0]) (z := K_M_isSign) (by decide +kernel) hq h8 rfl (Nat.le_of_ble_eq_true rfl) rfl
theorem r_M_added_11 {G : Nat → Value} {d : Nat} {st : List Value} {M : am_M} {l0 l1 l2 l3 : Option Value} {a : Int32} : am_run G d K_M_added (11, [l0, l1, l2, l3], .int a :: st, M) = if ¬ a = 0 then am_run G d K_M_added (23, [l0, l1, l2, l3], st, M) else am_run G d K_M_added (14, [l0, l1, l2, l3], st, M) := by
  split
  · next h => exact am_run_next (x := (.ifCond .ne 12, 3, 0, 0, 0, 0)) (by decide +kernel) (am_br_t (decide_eq_true h) (by decide))
  · next h => exact am_run_next (x := (.ifCond .ne 12, 3, 0, 0, 0, 0)) (by decide +kernel) (am_br_f (decide_eq_false h) (by decide))
theorem r_M_added_14 {G : Nat → Value} {d : Nat} {st : List Value} {M : am_M} {l1 l2 l3 : Option Value} {v : Value} (hv : am_isr v = true) : am_run G d K_M_added (14, [some v, l1, l2, l3], st, M) = am_run G d K_M_added (15, [some v, l1, l2, l3], v :: st, M) := by
  rcases am_isr_cases hv with ⟨q, rfl⟩ | rfl
  · exact am_run_next (x := (.aload_n 0, 1, 0, 0, 0, 0)) (by decide +kernel) rfl
  · exact am_run_next (x := (.aload_n 0, 1, 0, 0, 0, 0)) (by decide +kernel) rfl
theorem r_M_added_15 {G : Nat → Value} {d : Nat} {st : List Value} {M : am_M} {l0 l1 l2 l3 : Option Value} : am_run G d K_M_added (15, [l0, l1, l2, l3], st, M) = am_run G d K_M_added (17, [l0, l1, l2, l3], .int 45 :: st, M) := am_run_next (x := (.bipush 45, 2, 0, 0, 0, 0)) (by decide +kernel) rfl
theorem r_M_added_17 {G : Nat → Value} {d : Nat} {st : List Value} {M : am_M} {l0 l1 l2 l3 : Option Value} {q : Nat} {a0 : Int32} (hq : am_cls M q = some 10) (h8 : am_sw st ≤ 8) : am_run G d K_M_added (17, [l0, l1, l2, l3], .int a0 :: .ref q :: st, M) = am_k G d K_M_added 20 [l0, l1, l2, l3] st (am_ex G d K_M_isSign [.ref q, .int a0] M) := am_run_iv (i := 282) (n := 1) (pl := 6095) (Bs := [.int a0]) (z := K_M_isSign) (by decide +kernel) hq h8 rfl (Nat.le_of_ble_eq_true rfl) rfl
theorem r_M_added_20 {G : Nat → Value} {d : Nat} {st : List Value} {M : am_M} {l0 l1 l2 l3 : Option Value} {a : Int32} : am_run G d K_M_added (20, [l0, l1, l2, l3], .int a :: st, M) = if a = 0 then am_run G d K_M_added (66, [l0, l1, l2, l3], st, M) else am_run G d K_M_added (23, [l0, l1, l2, l3], st, M) := by
  split
  · next h => exact am_run_next (x := (.ifCond .eq 46, 3, 0, 0, 0, 0)) (by decide +kernel) (am_br_t (decide_eq_true h) (by decide))
  · next h => exact am_run_next (x := (.ifCond .eq 46, 3, 0, 0, 0, 0)) (by decide +kernel) (am_br_f (decide_eq_false h) (by decide))
theorem r_M_added_23 {G : Nat → Value} {d : Nat} {st : List Value} {M : am_M} {l1 l2 l3 : Option Value} {v : Value} (hv : am_isr v = true) : am_run G d K_M_added (23, [some v, l1, l2, l3], st, M) = am_run G d K_M_added (24, [some v, l1, l2, l3], v :: st, M) := by
  rcases am_isr_cases hv with ⟨q, rfl⟩ | rfl
  · exact am_run_next (x := (.aload_n 0, 1, 0, 0, 0, 0)) (by decide +kernel) rfl
  · exact am_run_next (x := (.aload_n 0, 1, 0, 0, 0, 0)) (by decide +kernel) rfl
theorem r_M_added_24 {G : Nat → Value} {d : Nat} {st : List Value} {M : am_M} {l0 l1 l2 l3 : Option Value} {a : Nat} : am_run G d K_M_added (24, [l0, l1, l2, l3], .ref a :: st, M) = am_kf G d K_M_added 27 [l0, l1, l2, l3] st M (am_fld M a 10 32) := am_run_kf (x := (.getfield 231, 3, 10, 32, 5051, 0)) (by decide +kernel) rfl
theorem r_M_added_27 {G : Nat → Value} {d : Nat} {st : List Value} {M : am_M} {l0 l1 l2 l3 : Option Value} : am_run G d K_M_added (27, [l0, l1, l2, l3], st, M) = am_run G d K_M_added (30, [l0, l1, l2, l3], .long 43 :: st, M) := am_run_next (x := (.ldc2_w 302, 3, 0, 0, 6109, 43)) (by decide +kernel) rfl
theorem r_M_added_30 {G : Nat → Value} {d : Nat} {st : List Value} {M : am_M} {l0 l1 l2 l3 : Option Value} {a b : Int64} : am_run G d K_M_added (30, [l0, l1, l2, l3], .long b :: .long a :: st, M) = am_run G d K_M_added (31, [l0, l1, l2, l3], .int (lg_cmp a b) :: st, M) := am_run_next (x := (.lcmp, 1, 0, 0, 0, 0)) (by decide +kernel) rfl
theorem r_M_added_31 {G : Nat → Value} {d : Nat} {st : List Value} {M : am_M} {l0 l1 l2 l3 : Option Value} {a : Int32} : am_run G d K_M_added (31, [l0, l1, l2, l3], .int a :: st, M) = if ¬ a = 0 then am_run G d K_M_added (38, [l0, l1, l2, l3], st, M) else am_run G d K_M_added (34, [l0, l1, l2, l3], st, M) := by
  split
  · next h => exact am_run_next (x := (.ifCond .ne 7, 3, 0, 0, 0, 0)) (by decide +kernel) (am_br_t (decide_eq_true h) (by decide))
  · next h => exact am_run_next (x := (.ifCond .ne 7, 3, 0, 0, 0, 0)) (by decide +kernel) (am_br_f (decide_eq_false h) (by decide))
theorem r_M_added_34 {G : Nat → Value} {d : Nat} {st : List Value} {M : am_M} {l0 l1 l2 l3 : Option Value} : am_run G d K_M_added (34, [l0, l1, l2, l3], st, M) = am_run G d K_M_added (35, [l0, l1, l2, l3], .int 1 :: st, M) := am_run_next (x := (.iconst 1, 1, 0, 0, 0, 0)) (by decide +kernel) rfl
theorem r_M_added_35 {G : Nat → Value} {d : Nat} {st : List Value} {M : am_M} {l0 l1 l2 l3 : Option Value} : am_run G d K_M_added (35, [l0, l1, l2, l3], st, M) = am_run G d K_M_added (39, [l0, l1, l2, l3], st, M) := am_run_next (x := (.goto 4, 3, 0, 0, 0, 0)) (by decide +kernel) rfl
theorem r_M_added_38 {G : Nat → Value} {d : Nat} {st : List Value} {M : am_M} {l0 l1 l2 l3 : Option Value} : am_run G d K_M_added (38, [l0, l1, l2, l3], st, M) = am_run G d K_M_added (39, [l0, l1, l2, l3], .int 0 :: st, M) := am_run_next (x := (.iconst 0, 1, 0, 0, 0, 0)) (by decide +kernel) rfl
theorem r_M_added_39 {G : Nat → Value} {d : Nat} {st : List Value} {M : am_M} {l0 l1 l2 l3 : Option Value} {v : Int32} (hc : am_c1 l1 = true) : am_run G d K_M_added (39, [l0, l1, l2, l3], .int v :: st, M) = am_run G d K_M_added (40, [l0, l1, some (.int v), l3], st, M) := by
  rcases am_c1_cases hc with rfl | ⟨q, rfl⟩ | ⟨q, rfl⟩ | rfl
  · exact am_run_next (x := (.istore_n 2, 1, 0, 0, 0, 0)) (by decide +kernel) rfl
  · exact am_run_next (x := (.istore_n 2, 1, 0, 0, 0, 0)) (by decide +kernel) rfl
  · exact am_run_next (x := (.istore_n 2, 1, 0, 0, 0, 0)) (by decide +kernel) rfl
  · exact am_run_next (x := (.istore_n 2, 1, 0, 0, 0, 0)) (by decide +kernel) rfl
theorem r_M_added_39_k {G : Nat → Value} {d : Nat} {st : List Value} {M : am_M} {l0 l2 l3 : Option Value} {v : Int32} {z : Int64} : am_run G d K_M_added (39, [l0, some (.long z), l2, l3], .int v :: st, M) = am_run G d K_M_added (40, [l0, none, some (.int v), l3], st, M) := am_run_next (x := (.istore_n 2, 1, 0, 0, 0, 0)) (by decide +kernel) rfl
theorem r_M_added_40 {G : Nat → Value} {d : Nat} {st : List Value} {M : am_M} {l1 l2 l3 : Option Value} {v : Value} (hv : am_isr v = true) : am_run G d K_M_added (40, [some v, l1, l2, l3], st, M) = am_run G d K_M_added (41, [some v, l1, l2, l3], v :: st, M) := by
  rcases am_isr_cases hv with ⟨q, rfl⟩ | rfl
  · exact am_run_next (x := (.aload_n 0, 1, 0, 0, 0, 0)) (by decide +kernel) rfl
  · exact am_run_next (x := (.aload_n 0, 1, 0, 0, 0, 0)) (by decide +kernel) rfl
theorem r_M_added_41 {G : Nat → Value} {d : Nat} {st : List Value} {M : am_M} {l0 l1 l2 l3 : Option Value} {q : Nat} (hq : am_cls M q = some 10) (h8 : am_sw st ≤ 8) : am_run G d K_M_added (41, [l0, l1, l2, l3], .ref q :: st, M) = am_k G d K_M_added 44 [l0, l1, l2, l3] st (am_ex G d K_M_next [.ref q] M) := am_run_iv (i := 260) (n := 0) (pl := 6037) (Bs := []) (z := K_M_next) (by decide +kernel) hq h8 rfl (Nat.le_of_ble_eq_true rfl) rfl
theorem r_M_added_44 {G : Nat → Value} {d : Nat} {st : List Value} {M : am_M} {l1 l2 l3 : Option Value} {v : Value} (hv : am_isr v = true) : am_run G d K_M_added (44, [some v, l1, l2, l3], st, M) = am_run G d K_M_added (45, [some v, l1, l2, l3], v :: st, M) := by
  rcases am_isr_cases hv with ⟨q, rfl⟩ | rfl
  · exact am_run_next (x := (.aload_n 0, 1, 0, 0, 0, 0)) (by decide +kernel) rfl
  · exact am_run_next (x := (.aload_n 0, 1, 0, 0, 0, 0)) (by decide +kernel) rfl
theorem r_M_added_45 {G : Nat → Value} {d : Nat} {st : List Value} {M : am_M} {l0 l1 l2 l3 : Option Value} {q : Nat} (hq : am_cls M q = some 10) (h8 : am_sw st ≤ 8) : am_run G d K_M_added (45, [l0, l1, l2, l3], .ref q :: st, M) = am_k G d K_M_added 48 [l0, l1, l2, l3] st (am_ex G d K_M_term [.ref q] M) := am_run_iv (i := 299) (n := 0) (pl := 6087) (Bs := []) (z := K_M_term) (by decide +kernel) hq h8 rfl (Nat.le_of_ble_eq_true rfl) rfl
theorem r_M_added_48 {G : Nat → Value} {d : Nat} {st : List Value} {M : am_M} {l0 l1 l2 l3 : Option Value} {v : Int32} (hc : am_c1 l2 = true) : am_run G d K_M_added (48, [l0, l1, l2, l3], .int v :: st, M) = am_run G d K_M_added (49, [l0, l1, l2, some (.int v)], st, M) := by
  rcases am_c1_cases hc with rfl | ⟨q, rfl⟩ | ⟨q, rfl⟩ | rfl
  · exact am_run_next (x := (.istore_n 3, 1, 0, 0, 0, 0)) (by decide +kernel) rfl
  · exact am_run_next (x := (.istore_n 3, 1, 0, 0, 0, 0)) (by decide +kernel) rfl
  · exact am_run_next (x := (.istore_n 3, 1, 0, 0, 0, 0)) (by decide +kernel) rfl
  · exact am_run_next (x := (.istore_n 3, 1, 0, 0, 0, 0)) (by decide +kernel) rfl
theorem r_M_added_48_k {G : Nat → Value} {d : Nat} {st : List Value} {M : am_M} {l0 l1 l3 : Option Value} {v : Int32} {z : Int64} : am_run G d K_M_added (48, [l0, l1, some (.long z), l3], .int v :: st, M) = am_run G d K_M_added (49, [l0, l1, none, some (.int v)], st, M) := am_run_next (x := (.istore_n 3, 1, 0, 0, 0, 0)) (by decide +kernel) rfl
theorem r_M_added_49 {G : Nat → Value} {d : Nat} {st : List Value} {M : am_M} {l0 l1 l3 : Option Value} {v : Int32} : am_run G d K_M_added (49, [l0, l1, some (.int v), l3], st, M) = am_run G d K_M_added (50, [l0, l1, some (.int v), l3], .int v :: st, M) := am_run_next (x := (.iload_n 2, 1, 0, 0, 0, 0)) (by decide +kernel) rfl
theorem r_M_added_50 {G : Nat → Value} {d : Nat} {st : List Value} {M : am_M} {l0 l1 l2 l3 : Option Value} {a : Int32} : am_run G d K_M_added (50, [l0, l1, l2, l3], .int a :: st, M) = if a = 0 then am_run G d K_M_added (59, [l0, l1, l2, l3], st, M) else am_run G d K_M_added (53, [l0, l1, l2, l3], st, M) := by
  split
  · next h => exact am_run_next (x := (.ifCond .eq 9, 3, 0, 0, 0, 0)) (by decide +kernel) (am_br_t (decide_eq_true h) (by decide))
  · next h => exact am_run_next (x := (.ifCond .eq 9, 3, 0, 0, 0, 0)) (by decide +kernel) (am_br_f (decide_eq_false h) (by decide))
theorem r_M_added_53 {G : Nat → Value} {d : Nat} {st : List Value} {M : am_M} {l0 l2 l3 : Option Value} {v : Int32} : am_run G d K_M_added (53, [l0, some (.int v), l2, l3], st, M) = am_run G d K_M_added (54, [l0, some (.int v), l2, l3], .int v :: st, M) := am_run_next (x := (.iload_n 1, 1, 0, 0, 0, 0)) (by decide +kernel) rfl
theorem r_M_added_54 {G : Nat → Value} {d : Nat} {st : List Value} {M : am_M} {l0 l1 l2 : Option Value} {v : Int32} : am_run G d K_M_added (54, [l0, l1, l2, some (.int v)], st, M) = am_run G d K_M_added (55, [l0, l1, l2, some (.int v)], .int v :: st, M) := am_run_next (x := (.iload_n 3, 1, 0, 0, 0, 0)) (by decide +kernel) rfl
theorem r_M_added_55 {G : Nat → Value} {d : Nat} {st : List Value} {M : am_M} {l0 l1 l2 l3 : Option Value} {a b : Int32} : am_run G d K_M_added (55, [l0, l1, l2, l3], .int b :: .int a :: st, M) = am_run G d K_M_added (56, [l0, l1, l2, l3], .int (a + b) :: st, M) := am_run_next (x := (.iadd, 1, 0, 0, 0, 0)) (by decide +kernel) rfl
theorem r_M_added_56 {G : Nat → Value} {d : Nat} {st : List Value} {M : am_M} {l0 l1 l2 l3 : Option Value} : am_run G d K_M_added (56, [l0, l1, l2, l3], st, M) = am_run G d K_M_added (62, [l0, l1, l2, l3], st, M) := am_run_next (x := (.goto 6, 3, 0, 0, 0, 0)) (by decide +kernel) rfl
theorem r_M_added_59 {G : Nat → Value} {d : Nat} {st : List Value} {M : am_M} {l0 l2 l3 : Option Value} {v : Int32} : am_run G d K_M_added (59, [l0, some (.int v), l2, l3], st, M) = am_run G d K_M_added (60, [l0, some (.int v), l2, l3], .int v :: st, M) := am_run_next (x := (.iload_n 1, 1, 0, 0, 0, 0)) (by decide +kernel) rfl
theorem r_M_added_60 {G : Nat → Value} {d : Nat} {st : List Value} {M : am_M} {l0 l1 l2 : Option Value} {v : Int32} : am_run G d K_M_added (60, [l0, l1, l2, some (.int v)], st, M) = am_run G d K_M_added (61, [l0, l1, l2, some (.int v)], .int v :: st, M) := am_run_next (x := (.iload_n 3, 1, 0, 0, 0, 0)) (by decide +kernel) rfl
theorem r_M_added_61 {G : Nat → Value} {d : Nat} {st : List Value} {M : am_M} {l0 l1 l2 l3 : Option Value} {a b : Int32} : am_run G d K_M_added (61, [l0, l1, l2, l3], .int b :: .int a :: st, M) = am_run G d K_M_added (62, [l0, l1, l2, l3], .int (a - b) :: st, M) := am_run_next (x := (.isub, 1, 0, 0, 0, 0)) (by decide +kernel) rfl
theorem r_M_added_62 {G : Nat → Value} {d : Nat} {st : List Value} {M : am_M} {l0 l1 l2 l3 : Option Value} {v : Int32} (hc : am_c1 l0 = true) : am_run G d K_M_added (62, [l0, l1, l2, l3], .int v :: st, M) = am_run G d K_M_added (63, [l0, some (.int v), l2, l3], st, M) := by
  rcases am_c1_cases hc with rfl | ⟨q, rfl⟩ | ⟨q, rfl⟩ | rfl
  · exact am_run_next (x := (.istore_n 1, 1, 0, 0, 0, 0)) (by decide +kernel) rfl
  · exact am_run_next (x := (.istore_n 1, 1, 0, 0, 0, 0)) (by decide +kernel) rfl
  · exact am_run_next (x := (.istore_n 1, 1, 0, 0, 0, 0)) (by decide +kernel) rfl
  · exact am_run_next (x := (.istore_n 1, 1, 0, 0, 0, 0)) (by decide +kernel) rfl
theorem r_M_added_62_k {G : Nat → Value} {d : Nat} {st : List Value} {M : am_M} {l1 l2 l3 : Option Value} {v : Int32} {z : Int64} : am_run G d K_M_added (62, [some (.long z), l1, l2, l3], .int v :: st, M) = am_run G d K_M_added (63, [none, some (.int v), l2, l3], st, M) := am_run_next (x := (.istore_n 1, 1, 0, 0, 0, 0)) (by decide +kernel) rfl
theorem r_M_added_63 {G : Nat → Value} {d : Nat} {st : List Value} {M : am_M} {l0 l1 l2 l3 : Option Value} : am_run G d K_M_added (63, [l0, l1, l2, l3], st, M) = am_run G d K_M_added (5, [l0, l1, l2, l3], st, M) := am_run_next (x := (.goto (-58), 3, 0, 0, 0, 0)) (by decide +kernel) rfl
theorem r_M_added_66 {G : Nat → Value} {d : Nat} {st : List Value} {M : am_M} {l0 l2 l3 : Option Value} {v : Int32} : am_run G d K_M_added (66, [l0, some (.int v), l2, l3], st, M) = am_run G d K_M_added (67, [l0, some (.int v), l2, l3], .int v :: st, M) := am_run_next (x := (.iload_n 1, 1, 0, 0, 0, 0)) (by decide +kernel) rfl
theorem r_M_added_67 {G : Nat → Value} {d : Nat} {M : am_M} {l0 l1 l2 l3 : Option Value} {a : Int32} : am_run G d K_M_added (67, [l0, l1, l2, l3], [.int a], M) = some (some (.int a), M) := am_run_ret (x := (.ireturn, 1, 0, 0, 0, 0)) (by decide +kernel) rfl
theorem r_M_term_0 {G : Nat → Value} {d : Nat} {st : List Value} {M : am_M} {l1 : Option Value} {v : Value} (hv : am_isr v = true) : am_run G d K_M_term (0, [some v, l1], st, M) = am_run G d K_M_term (1, [some v, l1], v :: st, M) := by
  rcases am_isr_cases hv with ⟨q, rfl⟩ | rfl
  · exact am_run_next (x := (.aload_n 0, 1, 0, 0, 0, 0)) (by decide +kernel) rfl
  · exact am_run_next (x := (.aload_n 0, 1, 0, 0, 0, 0)) (by decide +kernel) rfl
theorem r_M_term_1 {G : Nat → Value} {d : Nat} {st : List Value} {M : am_M} {l0 l1 : Option Value} {q : Nat} (hq : am_cls M q = some 10) (h8 : am_sw st ≤ 8) : am_run G d K_M_term (1, [l0, l1], .ref q :: st, M) = am_k G d K_M_term 4 [l0, l1] st (am_ex G d K_M_one [.ref q] M) := am_run_iv (i := 289) (n := 0) (pl := 6091) (Bs := []) (z := K_M_one) (by decide +kernel) hq h8 rfl (Nat.le_of_ble_eq_true rfl) rfl
theorem r_M_term_4 {G : Nat → Value} {d : Nat} {st : List Value} {M : am_M} {l0 l1 : Option Value} {v : Int32} (hc : am_c1 l0 = true) : am_run G d K_M_term (4, [l0, l1], .int v :: st, M) = am_run G d K_M_term (5, [l0, some (.int v)], st, M) := by
  rcases am_c1_cases hc with rfl | ⟨q, rfl⟩ | ⟨q, rfl⟩ | rfl
  · exact am_run_next (x := (.istore_n 1, 1, 0, 0, 0, 0)) (by decide +kernel) rfl
  · exact am_run_next (x := (.istore_n 1, 1, 0, 0, 0, 0)) (by decide +kernel) rfl
  · exact am_run_next (x := (.istore_n 1, 1, 0, 0, 0, 0)) (by decide +kernel) rfl
  · exact am_run_next (x := (.istore_n 1, 1, 0, 0, 0, 0)) (by decide +kernel) rfl
theorem r_M_term_4_k {G : Nat → Value} {d : Nat} {st : List Value} {M : am_M} {l1 : Option Value} {v : Int32} {z : Int64} : am_run G d K_M_term (4, [some (.long z), l1], .int v :: st, M) = am_run G d K_M_term (5, [none, some (.int v)], st, M) := am_run_next (x := (.istore_n 1, 1, 0, 0, 0, 0)) (by decide +kernel) rfl
theorem r_M_term_5 {G : Nat → Value} {d : Nat} {st : List Value} {M : am_M} {l1 : Option Value} {v : Value} (hv : am_isr v = true) : am_run G d K_M_term (5, [some v, l1], st, M) = am_run G d K_M_term (6, [some v, l1], v :: st, M) := by
  rcases am_isr_cases hv with ⟨q, rfl⟩ | rfl
  · exact am_run_next (x := (.aload_n 0, 1, 0, 0, 0, 0)) (by decide +kernel) rfl
  · exact am_run_next (x := (.aload_n 0, 1, 0, 0, 0, 0)) (by decide +kernel) rfl
theorem r_M_term_6 {G : Nat → Value} {d : Nat} {st : List Value} {M : am_M} {l0 l1 : Option Value} : am_run G d K_M_term (6, [l0, l1], st, M) = am_run G d K_M_term (8, [l0, l1], .int 42 :: st, M) := am_run_next (x := (.bipush 42, 2, 0, 0, 0, 0)) (by decide +kernel) rfl
theorem r_M_term_8 {G : Nat → Value} {d : Nat} {st : List Value} {M : am_M} {l0 l1 : Option Value} {q : Nat} {a0 : Int32} (hq : am_cls M q = some 10) (h8 : am_sw st ≤ 8) : am_run G d K_M_term (8, [l0, l1], .int a0 :: .ref q :: st, M) = am_k G d K_M_term 11 [l0, l1] st (am_ex G d K_M_isSign [.ref q, .int a0] M) := am_run_iv (i := 282) (n := 1) (pl := 6095) (Bs := [.int a0]) (z := K_M_isSign) (by decide +kernel) hq h8 rfl (Nat.le_of_ble_eq_true rfl) rfl
theorem r_M_term_11 {G : Nat → Value} {d : Nat} {st : List Value} {M : am_M} {l0 l1 : Option Value} {a : Int32} : am_run G d K_M_term (11, [l0, l1], .int a :: st, M) = if a = 0 then am_run G d K_M_term (28, [l0, l1], st, M) else am_run G d K_M_term (14, [l0, l1], st, M) := by
  split
  · next h => exact am_run_next (x := (.ifCond .eq 17, 3, 0, 0, 0, 0)) (by decide +kernel) (am_br_t (decide_eq_true h) (by decide))
  · next h => exact am_run_next (x := (.ifCond .eq 17, 3, 0, 0, 0, 0)) (by decide +kernel) (am_br_f (decide_eq_false h) (by decide))
theorem r_M_term_14 {G : Nat → Value} {d : Nat} {st : List Value} {M : am_M} {l1 : Option Value} {v : Value} (hv : am_isr v = true) : am_run G d K_M_term (14, [some v, l1], st, M) = am_run G d K_M_term (15, [some v, l1], v :: st, M) := by
  rcases am_isr_cases hv with ⟨q, rfl⟩ | rfl
  · exact am_run_next (x := (.aload_n 0, 1, 0, 0, 0, 0)) (by decide +kernel) rfl
  · exact am_run_next (x := (.aload_n 0, 1, 0, 0, 0, 0)) (by decide +kernel) rfl
theorem r_M_term_15 {G : Nat → Value} {d : Nat} {st : List Value} {M : am_M} {l0 l1 : Option Value} {q : Nat} (hq : am_cls M q = some 10) (h8 : am_sw st ≤ 8) : am_run G d K_M_term (15, [l0, l1], .ref q :: st, M) = am_k G d K_M_term 18 [l0, l1] st (am_ex G d K_M_next [.ref q] M) := am_run_iv (i := 260) (n := 0) (pl := 6037) (Bs := []) (z := K_M_next) (by decide +kernel) hq h8 rfl (Nat.le_of_ble_eq_true rfl) rfl
theorem r_M_term_18 {G : Nat → Value} {d : Nat} {st : List Value} {M : am_M} {l0 : Option Value} {v : Int32} : am_run G d K_M_term (18, [l0, some (.int v)], st, M) = am_run G d K_M_term (19, [l0, some (.int v)], .int v :: st, M) := am_run_next (x := (.iload_n 1, 1, 0, 0, 0, 0)) (by decide +kernel) rfl
theorem r_M_term_19 {G : Nat → Value} {d : Nat} {st : List Value} {M : am_M} {l1 : Option Value} {v : Value} (hv : am_isr v = true) : am_run G d K_M_term (19, [some v, l1], st, M) = am_run G d K_M_term (20, [some v, l1], v :: st, M) := by
  rcases am_isr_cases hv with ⟨q, rfl⟩ | rfl
  · exact am_run_next (x := (.aload_n 0, 1, 0, 0, 0, 0)) (by decide +kernel) rfl
  · exact am_run_next (x := (.aload_n 0, 1, 0, 0, 0, 0)) (by decide +kernel) rfl
theorem r_M_term_20 {G : Nat → Value} {d : Nat} {st : List Value} {M : am_M} {l0 l1 : Option Value} {q : Nat} (hq : am_cls M q = some 10) (h8 : am_sw st ≤ 8) : am_run G d K_M_term (20, [l0, l1], .ref q :: st, M) = am_k G d K_M_term 23 [l0, l1] st (am_ex G d K_M_one [.ref q] M) := am_run_iv (i := 289) (n := 0) (pl := 6091) (Bs := []) (z := K_M_one) (by decide +kernel) hq h8 rfl (Nat.le_of_ble_eq_true rfl) rfl
theorem r_M_term_23 {G : Nat → Value} {d : Nat} {st : List Value} {M : am_M} {l0 l1 : Option Value} {a b : Int32} : am_run G d K_M_term (23, [l0, l1], .int b :: .int a :: st, M) = am_run G d K_M_term (24, [l0, l1], .int (a * b) :: st, M) := am_run_next (x := (.imul, 1, 0, 0, 0, 0)) (by decide +kernel) rfl
theorem r_M_term_24 {G : Nat → Value} {d : Nat} {st : List Value} {M : am_M} {l0 l1 : Option Value} {v : Int32} (hc : am_c1 l0 = true) : am_run G d K_M_term (24, [l0, l1], .int v :: st, M) = am_run G d K_M_term (25, [l0, some (.int v)], st, M) := by
  rcases am_c1_cases hc with rfl | ⟨q, rfl⟩ | ⟨q, rfl⟩ | rfl
  · exact am_run_next (x := (.istore_n 1, 1, 0, 0, 0, 0)) (by decide +kernel) rfl
  · exact am_run_next (x := (.istore_n 1, 1, 0, 0, 0, 0)) (by decide +kernel) rfl
  · exact am_run_next (x := (.istore_n 1, 1, 0, 0, 0, 0)) (by decide +kernel) rfl
  · exact am_run_next (x := (.istore_n 1, 1, 0, 0, 0, 0)) (by decide +kernel) rfl
theorem r_M_term_24_k {G : Nat → Value} {d : Nat} {st : List Value} {M : am_M} {l1 : Option Value} {v : Int32} {z : Int64} : am_run G d K_M_term (24, [some (.long z), l1], .int v :: st, M) = am_run G d K_M_term (25, [none, some (.int v)], st, M) := am_run_next (x := (.istore_n 1, 1, 0, 0, 0, 0)) (by decide +kernel) rfl
theorem r_M_term_25 {G : Nat → Value} {d : Nat} {st : List Value} {M : am_M} {l0 l1 : Option Value} : am_run G d K_M_term (25, [l0, l1], st, M) = am_run G d K_M_term (5, [l0, l1], st, M) := am_run_next (x := (.goto (-20), 3, 0, 0, 0, 0)) (by decide +kernel) rfl
theorem r_M_term_28 {G : Nat → Value} {d : Nat} {st : List Value} {M : am_M} {l0 : Option Value} {v : Int32} : am_run G d K_M_term (28, [l0, some (.int v)], st, M) = am_run G d K_M_term (29, [l0, some (.int v)], .int v :: st, M) := am_run_next (x := (.iload_n 1, 1, 0, 0, 0, 0)) (by decide +kernel) rfl
theorem r_M_term_29 {G : Nat → Value} {d : Nat} {M : am_M} {l0 l1 : Option Value} {a : Int32} : am_run G d K_M_term (29, [l0, l1], [.int a], M) = some (some (.int a), M) := am_run_ret (x := (.ireturn, 1, 0, 0, 0, 0)) (by decide +kernel) rfl
theorem r_M_one_0 {G : Nat → Value} {d : Nat} {st : List Value} {M : am_M} {l0 l1 : Option Value} : am_run G d K_M_one (0, [l0, l1], st, M) = am_run G d K_M_one (1, [l0, l1], .int 0 :: st, M) := am_run_next (x := (.iconst 0, 1, 0, 0, 0, 0)) (by decide +kernel) rfl
theorem r_M_one_1 {G : Nat → Value} {d : Nat} {st : List Value} {M : am_M} {l0 l1 : Option Value} {v : Int32} (hc : am_c1 l0 = true) : am_run G d K_M_one (1, [l0, l1], .int v :: st, M) = am_run G d K_M_one (2, [l0, some (.int v)], st, M) := by
  rcases am_c1_cases hc with rfl | ⟨q, rfl⟩ | ⟨q, rfl⟩ | rfl
  · exact am_run_next (x := (.istore_n 1, 1, 0, 0, 0, 0)) (by decide +kernel) rfl
  · exact am_run_next (x := (.istore_n 1, 1, 0, 0, 0, 0)) (by decide +kernel) rfl
  · exact am_run_next (x := (.istore_n 1, 1, 0, 0, 0, 0)) (by decide +kernel) rfl
  · exact am_run_next (x := (.istore_n 1, 1, 0, 0, 0, 0)) (by decide +kernel) rfl
theorem r_M_one_1_k {G : Nat → Value} {d : Nat} {st : List Value} {M : am_M} {l1 : Option Value} {v : Int32} {z : Int64} : am_run G d K_M_one (1, [some (.long z), l1], .int v :: st, M) = am_run G d K_M_one (2, [none, some (.int v)], st, M) := am_run_next (x := (.istore_n 1, 1, 0, 0, 0, 0)) (by decide +kernel) rfl
theorem r_M_one_2 {G : Nat → Value} {d : Nat} {st : List Value} {M : am_M} {l1 : Option Value} {v : Value} (hv : am_isr v = true) : am_run G d K_M_one (2, [some v, l1], st, M) = am_run G d K_M_one (3, [some v, l1], v :: st, M) := by
  rcases am_isr_cases hv with ⟨q, rfl⟩ | rfl
  · exact am_run_next (x := (.aload_n 0, 1, 0, 0, 0, 0)) (by decide +kernel) rfl
  · exact am_run_next (x := (.aload_n 0, 1, 0, 0, 0, 0)) (by decide +kernel) rfl
theorem r_M_one_3 {G : Nat → Value} {d : Nat} {st : List Value} {M : am_M} {l0 l1 : Option Value} : am_run G d K_M_one (3, [l0, l1], st, M) = am_run G d K_M_one (5, [l0, l1], .int 45 :: st, M) := am_run_next (x := (.bipush 45, 2, 0, 0, 0, 0)) (by decide +kernel) rfl
theorem r_M_one_5 {G : Nat → Value} {d : Nat} {st : List Value} {M : am_M} {l0 l1 : Option Value} {q : Nat} {a0 : Int32} (hq : am_cls M q = some 10) (h8 : am_sw st ≤ 8) : am_run G d K_M_one (5, [l0, l1], .int a0 :: .ref q :: st, M) = am_k G d K_M_one 8 [l0, l1] st (am_ex G d K_M_isSign [.ref q, .int a0] M) := am_run_iv (i := 282) (n := 1) (pl := 6095) (Bs := [.int a0]) (z := K_M_isSign) (by decide +kernel) hq h8 rfl (Nat.le_of_ble_eq_true rfl) rfl
theorem r_M_one_8 {G : Nat → Value} {d : Nat} {st : List Value} {M : am_M} {l0 l1 : Option Value} {a : Int32} : am_run G d K_M_one (8, [l0, l1], .int a :: st, M) = if a = 0 then am_run G d K_M_one (37, [l0, l1], st, M) else am_run G d K_M_one (11, [l0, l1], st, M) := by
  split
  · next h => exact am_run_next (x := (.ifCond .eq 29, 3, 0, 0, 0, 0)) (by decide +kernel) (am_br_t (decide_eq_true h) (by decide))
  · next h => exact am_run_next (x := (.ifCond .eq 29, 3, 0, 0, 0, 0)) (by decide +kernel) (am_br_f (decide_eq_false h) (by decide))
theorem r_M_one_11 {G : Nat → Value} {d : Nat} {st : List Value} {M : am_M} {l1 : Option Value} {v : Value} (hv : am_isr v = true) : am_run G d K_M_one (11, [some v, l1], st, M) = am_run G d K_M_one (12, [some v, l1], v :: st, M) := by
  rcases am_isr_cases hv with ⟨q, rfl⟩ | rfl
  · exact am_run_next (x := (.aload_n 0, 1, 0, 0, 0, 0)) (by decide +kernel) rfl
  · exact am_run_next (x := (.aload_n 0, 1, 0, 0, 0, 0)) (by decide +kernel) rfl
theorem r_M_one_12 {G : Nat → Value} {d : Nat} {st : List Value} {M : am_M} {l0 l1 : Option Value} {q : Nat} (hq : am_cls M q = some 10) (h8 : am_sw st ≤ 8) : am_run G d K_M_one (12, [l0, l1], .ref q :: st, M) = am_k G d K_M_one 15 [l0, l1] st (am_ex G d K_M_opens [.ref q] M) := am_run_iv (i := 285) (n := 0) (pl := 6079) (Bs := []) (z := K_M_opens) (by decide +kernel) hq h8 rfl (Nat.le_of_ble_eq_true rfl) rfl
theorem r_M_one_15 {G : Nat → Value} {d : Nat} {st : List Value} {M : am_M} {l0 l1 : Option Value} {a : Int32} : am_run G d K_M_one (15, [l0, l1], .int a :: st, M) = if a = 0 then am_run G d K_M_one (161, [l0, l1], st, M) else am_run G d K_M_one (18, [l0, l1], st, M) := by
  split
  · next h => exact am_run_next (x := (.ifCond .eq 146, 3, 0, 0, 0, 0)) (by decide +kernel) (am_br_t (decide_eq_true h) (by decide))
  · next h => exact am_run_next (x := (.ifCond .eq 146, 3, 0, 0, 0, 0)) (by decide +kernel) (am_br_f (decide_eq_false h) (by decide))
theorem r_M_one_18 {G : Nat → Value} {d : Nat} {st : List Value} {M : am_M} {l1 : Option Value} {v : Value} (hv : am_isr v = true) : am_run G d K_M_one (18, [some v, l1], st, M) = am_run G d K_M_one (19, [some v, l1], v :: st, M) := by
  rcases am_isr_cases hv with ⟨q, rfl⟩ | rfl
  · exact am_run_next (x := (.aload_n 0, 1, 0, 0, 0, 0)) (by decide +kernel) rfl
  · exact am_run_next (x := (.aload_n 0, 1, 0, 0, 0, 0)) (by decide +kernel) rfl
theorem r_M_one_19 {G : Nat → Value} {d : Nat} {st : List Value} {M : am_M} {l0 l1 : Option Value} {q : Nat} (hq : am_cls M q = some 10) (h8 : am_sw st ≤ 8) : am_run G d K_M_one (19, [l0, l1], .ref q :: st, M) = am_k G d K_M_one 22 [l0, l1] st (am_ex G d K_M_one [.ref q] M) := am_run_iv (i := 289) (n := 0) (pl := 6091) (Bs := []) (z := K_M_one) (by decide +kernel) hq h8 rfl (Nat.le_of_ble_eq_true rfl) rfl
theorem r_M_one_22 {G : Nat → Value} {d : Nat} {st : List Value} {M : am_M} {l0 l1 : Option Value} {a : Int32} : am_run G d K_M_one (22, [l0, l1], .int a :: st, M) = am_run G d K_M_one (23, [l0, l1], .int (-a) :: st, M) := am_run_next (x := (.ineg, 1, 0, 0, 0, 0)) (by decide +kernel) rfl
theorem r_M_one_23 {G : Nat → Value} {d : Nat} {st : List Value} {M : am_M} {l0 l1 : Option Value} {v : Int32} (hc : am_c1 l0 = true) : am_run G d K_M_one (23, [l0, l1], .int v :: st, M) = am_run G d K_M_one (24, [l0, some (.int v)], st, M) := by
  rcases am_c1_cases hc with rfl | ⟨q, rfl⟩ | ⟨q, rfl⟩ | rfl
  · exact am_run_next (x := (.istore_n 1, 1, 0, 0, 0, 0)) (by decide +kernel) rfl
  · exact am_run_next (x := (.istore_n 1, 1, 0, 0, 0, 0)) (by decide +kernel) rfl
  · exact am_run_next (x := (.istore_n 1, 1, 0, 0, 0, 0)) (by decide +kernel) rfl
  · exact am_run_next (x := (.istore_n 1, 1, 0, 0, 0, 0)) (by decide +kernel) rfl
theorem r_M_one_23_k {G : Nat → Value} {d : Nat} {st : List Value} {M : am_M} {l1 : Option Value} {v : Int32} {z : Int64} : am_run G d K_M_one (23, [some (.long z), l1], .int v :: st, M) = am_run G d K_M_one (24, [none, some (.int v)], st, M) := am_run_next (x := (.istore_n 1, 1, 0, 0, 0, 0)) (by decide +kernel) rfl
theorem r_M_one_24 {G : Nat → Value} {d : Nat} {st : List Value} {M : am_M} {l1 : Option Value} {v : Value} (hv : am_isr v = true) : am_run G d K_M_one (24, [some v, l1], st, M) = am_run G d K_M_one (25, [some v, l1], v :: st, M) := by
  rcases am_isr_cases hv with ⟨q, rfl⟩ | rfl
  · exact am_run_next (x := (.aload_n 0, 1, 0, 0, 0, 0)) (by decide +kernel) rfl
  · exact am_run_next (x := (.aload_n 0, 1, 0, 0, 0, 0)) (by decide +kernel) rfl
theorem r_M_one_25 {G : Nat → Value} {d : Nat} {st : List Value} {M : am_M} {l0 l1 : Option Value} {v : Value} (hv : v.category = 1) : am_run G d K_M_one (25, [l0, l1], v :: st, M) = am_run G d K_M_one (26, [l0, l1], v :: v :: st, M) := am_run_next (x := (.dup, 1, 0, 0, 0, 0)) (by decide +kernel) (if_pos hv)
theorem r_M_one_26 {G : Nat → Value} {d : Nat} {st : List Value} {M : am_M} {l0 l1 : Option Value} {a : Nat} : am_run G d K_M_one (26, [l0, l1], .ref a :: st, M) = am_kf G d K_M_one 29 [l0, l1] st M (am_fld M a 10 34) := am_run_kf (x := (.getfield 254, 3, 10, 34, 5053, 0)) (by decide +kernel) rfl
theorem r_M_one_29 {G : Nat → Value} {d : Nat} {st : List Value} {M : am_M} {l0 l1 : Option Value} : am_run G d K_M_one (29, [l0, l1], st, M) = am_run G d K_M_one (30, [l0, l1], .int 1 :: st, M) := am_run_next (x := (.iconst 1, 1, 0, 0, 0, 0)) (by decide +kernel) rfl
theorem r_M_one_30 {G : Nat → Value} {d : Nat} {st : List Value} {M : am_M} {l0 l1 : Option Value} {a b : Int32} : am_run G d K_M_one (30, [l0, l1], .int b :: .int a :: st, M) = am_run G d K_M_one (31, [l0, l1], .int (a - b) :: st, M) := am_run_next (x := (.isub, 1, 0, 0, 0, 0)) (by decide +kernel) rfl
theorem r_M_one_31 {G : Nat → Value} {d : Nat} {st : List Value} {M : am_M} {l0 l1 : Option Value} {a : Nat} {v : Value} : am_run G d K_M_one (31, [l0, l1], v :: .ref a :: st, M) = am_km G d K_M_one 34 [l0, l1] st (am_pf M a 10 34 .int v) := am_run_km (x := (.putfield 254, 3, 10, 34, 5053, 0)) (by decide +kernel) rfl
theorem r_M_one_34 {G : Nat → Value} {d : Nat} {st : List Value} {M : am_M} {l0 l1 : Option Value} : am_run G d K_M_one (34, [l0, l1], st, M) = am_run G d K_M_one (161, [l0, l1], st, M) := am_run_next (x := (.goto 127, 3, 0, 0, 0, 0)) (by decide +kernel) rfl
theorem r_M_one_37 {G : Nat → Value} {d : Nat} {st : List Value} {M : am_M} {l1 : Option Value} {v : Value} (hv : am_isr v = true) : am_run G d K_M_one (37, [some v, l1], st, M) = am_run G d K_M_one (38, [some v, l1], v :: st, M) := by
  rcases am_isr_cases hv with ⟨q, rfl⟩ | rfl
  · exact am_run_next (x := (.aload_n 0, 1, 0, 0, 0, 0)) (by decide +kernel) rfl
  · exact am_run_next (x := (.aload_n 0, 1, 0, 0, 0, 0)) (by decide +kernel) rfl
theorem r_M_one_38 {G : Nat → Value} {d : Nat} {st : List Value} {M : am_M} {l0 l1 : Option Value} : am_run G d K_M_one (38, [l0, l1], st, M) = am_run G d K_M_one (40, [l0, l1], .int 40 :: st, M) := am_run_next (x := (.bipush 40, 2, 0, 0, 0, 0)) (by decide +kernel) rfl
theorem r_M_one_40 {G : Nat → Value} {d : Nat} {st : List Value} {M : am_M} {l0 l1 : Option Value} {q : Nat} {a0 : Int32} (hq : am_cls M q = some 10) (h8 : am_sw st ≤ 8) : am_run G d K_M_one (40, [l0, l1], .int a0 :: .ref q :: st, M) = am_k G d K_M_one 43 [l0, l1] st (am_ex G d K_M_isSign [.ref q, .int a0] M) := am_run_iv (i := 282) (n := 1) (pl := 6095) (Bs := [.int a0]) (z := K_M_isSign) (by decide +kernel) hq h8 rfl (Nat.le_of_ble_eq_true rfl) rfl
theorem r_M_one_43 {G : Nat → Value} {d : Nat} {st : List Value} {M : am_M} {l0 l1 : Option Value} {a : Int32} : am_run G d K_M_one (43, [l0, l1], .int a :: st, M) = if a = 0 then am_run G d K_M_one (95, [l0, l1], st, M) else am_run G d K_M_one (46, [l0, l1], st, M) := by
  split
  · next h => exact am_run_next (x := (.ifCond .eq 52, 3, 0, 0, 0, 0)) (by decide +kernel) (am_br_t (decide_eq_true h) (by decide))
  · next h => exact am_run_next (x := (.ifCond .eq 52, 3, 0, 0, 0, 0)) (by decide +kernel) (am_br_f (decide_eq_false h) (by decide))
theorem r_M_one_46 {G : Nat → Value} {d : Nat} {st : List Value} {M : am_M} {l1 : Option Value} {v : Value} (hv : am_isr v = true) : am_run G d K_M_one (46, [some v, l1], st, M) = am_run G d K_M_one (47, [some v, l1], v :: st, M) := by
  rcases am_isr_cases hv with ⟨q, rfl⟩ | rfl
  · exact am_run_next (x := (.aload_n 0, 1, 0, 0, 0, 0)) (by decide +kernel) rfl
  · exact am_run_next (x := (.aload_n 0, 1, 0, 0, 0, 0)) (by decide +kernel) rfl
theorem r_M_one_47 {G : Nat → Value} {d : Nat} {st : List Value} {M : am_M} {l0 l1 : Option Value} {q : Nat} (hq : am_cls M q = some 10) (h8 : am_sw st ≤ 8) : am_run G d K_M_one (47, [l0, l1], .ref q :: st, M) = am_k G d K_M_one 50 [l0, l1] st (am_ex G d K_M_opens [.ref q] M) := am_run_iv (i := 285) (n := 0) (pl := 6079) (Bs := []) (z := K_M_opens) (by decide +kernel) hq h8 rfl (Nat.le_of_ble_eq_true rfl) rfl
theorem r_M_one_50 {G : Nat → Value} {d : Nat} {st : List Value} {M : am_M} {l0 l1 : Option Value} {a : Int32} : am_run G d K_M_one (50, [l0, l1], .int a :: st, M) = if a = 0 then am_run G d K_M_one (161, [l0, l1], st, M) else am_run G d K_M_one (53, [l0, l1], st, M) := by
  split
  · next h => exact am_run_next (x := (.ifCond .eq 111, 3, 0, 0, 0, 0)) (by decide +kernel) (am_br_t (decide_eq_true h) (by decide))
  · next h => exact am_run_next (x := (.ifCond .eq 111, 3, 0, 0, 0, 0)) (by decide +kernel) (am_br_f (decide_eq_false h) (by decide))
theorem r_M_one_53 {G : Nat → Value} {d : Nat} {st : List Value} {M : am_M} {l1 : Option Value} {v : Value} (hv : am_isr v = true) : am_run G d K_M_one (53, [some v, l1], st, M) = am_run G d K_M_one (54, [some v, l1], v :: st, M) := by
  rcases am_isr_cases hv with ⟨q, rfl⟩ | rfl
  · exact am_run_next (x := (.aload_n 0, 1, 0, 0, 0, 0)) (by decide +kernel) rfl
  · exact am_run_next (x := (.aload_n 0, 1, 0, 0, 0, 0)) (by decide +kernel) rfl
theorem r_M_one_54 {G : Nat → Value} {d : Nat} {st : List Value} {M : am_M} {l0 l1 : Option Value} {q : Nat} (hq : am_cls M q = some 10) (h8 : am_sw st ≤ 8) : am_run G d K_M_one (54, [l0, l1], .ref q :: st, M) = am_k G d K_M_one 57 [l0, l1] st (am_ex G d K_M_either [.ref q] M) := am_run_iv (i := 293) (n := 0) (pl := 6066) (Bs := []) (z := K_M_either) (by decide +kernel) hq h8 rfl (Nat.le_of_ble_eq_true rfl) rfl
theorem r_M_one_57 {G : Nat → Value} {d : Nat} {st : List Value} {M : am_M} {l0 l1 : Option Value} {v : Int32} (hc : am_c1 l0 = true) : am_run G d K_M_one (57, [l0, l1], .int v :: st, M) = am_run G d K_M_one (58, [l0, some (.int v)], st, M) := by
  rcases am_c1_cases hc with rfl | ⟨q, rfl⟩ | ⟨q, rfl⟩ | rfl
  · exact am_run_next (x := (.istore_n 1, 1, 0, 0, 0, 0)) (by decide +kernel) rfl
  · exact am_run_next (x := (.istore_n 1, 1, 0, 0, 0, 0)) (by decide +kernel) rfl
  · exact am_run_next (x := (.istore_n 1, 1, 0, 0, 0, 0)) (by decide +kernel) rfl
  · exact am_run_next (x := (.istore_n 1, 1, 0, 0, 0, 0)) (by decide +kernel) rfl
theorem r_M_one_57_k {G : Nat → Value} {d : Nat} {st : List Value} {M : am_M} {l1 : Option Value} {v : Int32} {z : Int64} : am_run G d K_M_one (57, [some (.long z), l1], .int v :: st, M) = am_run G d K_M_one (58, [none, some (.int v)], st, M) := am_run_next (x := (.istore_n 1, 1, 0, 0, 0, 0)) (by decide +kernel) rfl
theorem r_M_one_58 {G : Nat → Value} {d : Nat} {st : List Value} {M : am_M} {l1 : Option Value} {v : Value} (hv : am_isr v = true) : am_run G d K_M_one (58, [some v, l1], st, M) = am_run G d K_M_one (59, [some v, l1], v :: st, M) := by
  rcases am_isr_cases hv with ⟨q, rfl⟩ | rfl
  · exact am_run_next (x := (.aload_n 0, 1, 0, 0, 0, 0)) (by decide +kernel) rfl
  · exact am_run_next (x := (.aload_n 0, 1, 0, 0, 0, 0)) (by decide +kernel) rfl
theorem r_M_one_59 {G : Nat → Value} {d : Nat} {st : List Value} {M : am_M} {l0 l1 : Option Value} : am_run G d K_M_one (59, [l0, l1], st, M) = am_run G d K_M_one (61, [l0, l1], .int 41 :: st, M) := am_run_next (x := (.bipush 41, 2, 0, 0, 0, 0)) (by decide +kernel) rfl
theorem r_M_one_61 {G : Nat → Value} {d : Nat} {st : List Value} {M : am_M} {l0 l1 : Option Value} {q : Nat} {a0 : Int32} (hq : am_cls M q = some 10) (h8 : am_sw st ≤ 8) : am_run G d K_M_one (61, [l0, l1], .int a0 :: .ref q :: st, M) = am_k G d K_M_one 64 [l0, l1] st (am_ex G d K_M_isSign [.ref q, .int a0] M) := am_run_iv (i := 282) (n := 1) (pl := 6095) (Bs := [.int a0]) (z := K_M_isSign) (by decide +kernel) hq h8 rfl (Nat.le_of_ble_eq_true rfl) rfl
theorem r_M_one_64 {G : Nat → Value} {d : Nat} {st : List Value} {M : am_M} {l0 l1 : Option Value} {a : Int32} : am_run G d K_M_one (64, [l0, l1], .int a :: st, M) = if ¬ a = 0 then am_run G d K_M_one (71, [l0, l1], st, M) else am_run G d K_M_one (67, [l0, l1], st, M) := by
  split
  · next h => exact am_run_next (x := (.ifCond .ne 7, 3, 0, 0, 0, 0)) (by decide +kernel) (am_br_t (decide_eq_true h) (by decide))
  · next h => exact am_run_next (x := (.ifCond .ne 7, 3, 0, 0, 0, 0)) (by decide +kernel) (am_br_f (decide_eq_false h) (by decide))
theorem r_M_one_67 {G : Nat → Value} {d : Nat} {st : List Value} {M : am_M} {l1 : Option Value} {v : Value} (hv : am_isr v = true) : am_run G d K_M_one (67, [some v, l1], st, M) = am_run G d K_M_one (68, [some v, l1], v :: st, M) := by
  rcases am_isr_cases hv with ⟨q, rfl⟩ | rfl
  · exact am_run_next (x := (.aload_n 0, 1, 0, 0, 0, 0)) (by decide +kernel) rfl
  · exact am_run_next (x := (.aload_n 0, 1, 0, 0, 0, 0)) (by decide +kernel) rfl
theorem r_M_one_68 {G : Nat → Value} {d : Nat} {st : List Value} {M : am_M} {l0 l1 : Option Value} {q : Nat} (hq : am_cls M q = some 10) (h8 : am_sw st ≤ 8) : am_run G d K_M_one (68, [l0, l1], .ref q :: st, M) = am_k G d K_M_one 71 [l0, l1] st (am_ex G d K_M_fail [.ref q] M) := am_run_iv (i := 257) (n := 0) (pl := 6062) (Bs := []) (z := K_M_fail) (by decide +kernel) hq h8 rfl (Nat.le_of_ble_eq_true rfl) rfl
theorem r_M_one_71 {G : Nat → Value} {d : Nat} {st : List Value} {M : am_M} {l1 : Option Value} {v : Value} (hv : am_isr v = true) : am_run G d K_M_one (71, [some v, l1], st, M) = am_run G d K_M_one (72, [some v, l1], v :: st, M) := by
  rcases am_isr_cases hv with ⟨q, rfl⟩ | rfl
  · exact am_run_next (x := (.aload_n 0, 1, 0, 0, 0, 0)) (by decide +kernel) rfl
  · exact am_run_next (x := (.aload_n 0, 1, 0, 0, 0, 0)) (by decide +kernel) rfl
theorem r_M_one_72 {G : Nat → Value} {d : Nat} {st : List Value} {M : am_M} {l0 l1 : Option Value} {v : Value} (hv : v.category = 1) : am_run G d K_M_one (72, [l0, l1], v :: st, M) = am_run G d K_M_one (73, [l0, l1], v :: v :: st, M) := am_run_next (x := (.dup, 1, 0, 0, 0, 0)) (by decide +kernel) (if_pos hv)
theorem r_M_one_73 {G : Nat → Value} {d : Nat} {st : List Value} {M : am_M} {l0 l1 : Option Value} {a : Nat} : am_run G d K_M_one (73, [l0, l1], .ref a :: st, M) = am_kf G d K_M_one 76 [l0, l1] st M (am_fld M a 10 34) := am_run_kf (x := (.getfield 254, 3, 10, 34, 5053, 0)) (by decide +kernel) rfl
theorem r_M_one_76 {G : Nat → Value} {d : Nat} {st : List Value} {M : am_M} {l0 l1 : Option Value} : am_run G d K_M_one (76, [l0, l1], st, M) = am_run G d K_M_one (77, [l0, l1], .int 1 :: st, M) := am_run_next (x := (.iconst 1, 1, 0, 0, 0, 0)) (by decide +kernel) rfl
theorem r_M_one_77 {G : Nat → Value} {d : Nat} {st : List Value} {M : am_M} {l0 l1 : Option Value} {a b : Int32} : am_run G d K_M_one (77, [l0, l1], .int b :: .int a :: st, M) = am_run G d K_M_one (78, [l0, l1], .int (a - b) :: st, M) := am_run_next (x := (.isub, 1, 0, 0, 0, 0)) (by decide +kernel) rfl
theorem r_M_one_78 {G : Nat → Value} {d : Nat} {st : List Value} {M : am_M} {l0 l1 : Option Value} {a : Nat} {v : Value} : am_run G d K_M_one (78, [l0, l1], v :: .ref a :: st, M) = am_km G d K_M_one 81 [l0, l1] st (am_pf M a 10 34 .int v) := am_run_km (x := (.putfield 254, 3, 10, 34, 5053, 0)) (by decide +kernel) rfl
theorem r_M_one_81 {G : Nat → Value} {d : Nat} {st : List Value} {M : am_M} {l1 : Option Value} {v : Value} (hv : am_isr v = true) : am_run G d K_M_one (81, [some v, l1], st, M) = am_run G d K_M_one (82, [some v, l1], v :: st, M) := by
  rcases am_isr_cases hv with ⟨q, rfl⟩ | rfl
  · exact am_run_next (x := (.aload_n 0, 1, 0, 0, 0, 0)) (by decide +kernel) rfl
  · exact am_run_next (x := (.aload_n 0, 1, 0, 0, 0, 0)) (by decide +kernel) rfl
theorem r_M_one_82 {G : Nat → Value} {d : Nat} {st : List Value} {M : am_M} {l0 l1 : Option Value} {a : Nat} : am_run G d K_M_one (82, [l0, l1], .ref a :: st, M) = am_kf G d K_M_one 85 [l0, l1] st M (am_fld M a 10 35) := am_run_kf (x := (.getfield 247, 3, 10, 35, 5054, 0)) (by decide +kernel) rfl
theorem r_M_one_85 {G : Nat → Value} {d : Nat} {st : List Value} {M : am_M} {l0 l1 : Option Value} {a : Int32} : am_run G d K_M_one (85, [l0, l1], .int a :: st, M) = if ¬ a = 0 then am_run G d K_M_one (161, [l0, l1], st, M) else am_run G d K_M_one (88, [l0, l1], st, M) := by
  split
  · next h => exact am_run_next (x := (.ifCond .ne 76, 3, 0, 0, 0, 0)) (by decide +kernel) (am_br_t (decide_eq_true h) (by decide))
  · next h => exact am_run_next (x := (.ifCond .ne 76, 3, 0, 0, 0, 0)) (by decide +kernel) (am_br_f (decide_eq_false h) (by decide))
theorem r_M_one_88 {G : Nat → Value} {d : Nat} {st : List Value} {M : am_M} {l1 : Option Value} {v : Value} (hv : am_isr v = true) : am_run G d K_M_one (88, [some v, l1], st, M) = am_run G d K_M_one (89, [some v, l1], v :: st, M) := by
  rcases am_isr_cases hv with ⟨q, rfl⟩ | rfl
  · exact am_run_next (x := (.aload_n 0, 1, 0, 0, 0, 0)) (by decide +kernel) rfl
  · exact am_run_next (x := (.aload_n 0, 1, 0, 0, 0, 0)) (by decide +kernel) rfl
theorem r_M_one_89 {G : Nat → Value} {d : Nat} {st : List Value} {M : am_M} {l0 l1 : Option Value} {q : Nat} (hq : am_cls M q = some 10) (h8 : am_sw st ≤ 8) : am_run G d K_M_one (89, [l0, l1], .ref q :: st, M) = am_k G d K_M_one 92 [l0, l1] st (am_ex G d K_M_next [.ref q] M) := am_run_iv (i := 260) (n := 0) (pl := 6037) (Bs := []) (z := K_M_next) (by decide +kernel) hq h8 rfl (Nat.le_of_ble_eq_true rfl) rfl
theorem r_M_one_92 {G : Nat → Value} {d : Nat} {st : List Value} {M : am_M} {l0 l1 : Option Value} : am_run G d K_M_one (92, [l0, l1], st, M) = am_run G d K_M_one (161, [l0, l1], st, M) := am_run_next (x := (.goto 69, 3, 0, 0, 0, 0)) (by decide +kernel) rfl
theorem r_M_one_95 {G : Nat → Value} {d : Nat} {st : List Value} {M : am_M} {l1 : Option Value} {v : Value} (hv : am_isr v = true) : am_run G d K_M_one (95, [some v, l1], st, M) = am_run G d K_M_one (96, [some v, l1], v :: st, M) := by
  rcases am_isr_cases hv with ⟨q, rfl⟩ | rfl
  · exact am_run_next (x := (.aload_n 0, 1, 0, 0, 0, 0)) (by decide +kernel) rfl
  · exact am_run_next (x := (.aload_n 0, 1, 0, 0, 0, 0)) (by decide +kernel) rfl
theorem r_M_one_96 {G : Nat → Value} {d : Nat} {st : List Value} {M : am_M} {l0 l1 : Option Value} {a : Nat} : am_run G d K_M_one (96, [l0, l1], .ref a :: st, M) = am_kf G d K_M_one 99 [l0, l1] st M (am_fld M a 10 35) := am_run_kf (x := (.getfield 247, 3, 10, 35, 5054, 0)) (by decide +kernel) rfl
theorem r_M_one_99 {G : Nat → Value} {d : Nat} {st : List Value} {M : am_M} {l0 l1 : Option Value} {a : Int32} : am_run G d K_M_one (99, [l0, l1], .int a :: st, M) = if ¬ a = 0 then am_run G d K_M_one (123, [l0, l1], st, M) else am_run G d K_M_one (102, [l0, l1], st, M) := by
  split
  · next h => exact am_run_next (x := (.ifCond .ne 24, 3, 0, 0, 0, 0)) (by decide +kernel) (am_br_t (decide_eq_true h) (by decide))
  · next h => exact am_run_next (x := (.ifCond .ne 24, 3, 0, 0, 0, 0)) (by decide +kernel) (am_br_f (decide_eq_false h) (by decide))
theorem r_M_one_102 {G : Nat → Value} {d : Nat} {st : List Value} {M : am_M} {l1 : Option Value} {v : Value} (hv : am_isr v = true) : am_run G d K_M_one (102, [some v, l1], st, M) = am_run G d K_M_one (103, [some v, l1], v :: st, M) := by
  rcases am_isr_cases hv with ⟨q, rfl⟩ | rfl
  · exact am_run_next (x := (.aload_n 0, 1, 0, 0, 0, 0)) (by decide +kernel) rfl
  · exact am_run_next (x := (.aload_n 0, 1, 0, 0, 0, 0)) (by decide +kernel) rfl
theorem r_M_one_103 {G : Nat → Value} {d : Nat} {st : List Value} {M : am_M} {l0 l1 : Option Value} {a : Nat} : am_run G d K_M_one (103, [l0, l1], .ref a :: st, M) = am_kf G d K_M_one 106 [l0, l1] st M (am_fld M a 10 30) := am_run_kf (x := (.getfield 224, 3, 10, 30, 5049, 0)) (by decide +kernel) rfl
theorem r_M_one_106 {G : Nat → Value} {d : Nat} {st : List Value} {M : am_M} {l0 l1 : Option Value} : am_run G d K_M_one (106, [l0, l1], st, M) = am_run G d K_M_one (107, [l0, l1], .int 2 :: st, M) := am_run_next (x := (.iconst 2, 1, 0, 0, 0, 0)) (by decide +kernel) rfl
theorem r_M_one_107 {G : Nat → Value} {d : Nat} {st : List Value} {M : am_M} {l0 l1 : Option Value} {a b : Int32} : am_run G d K_M_one (107, [l0, l1], .int b :: .int a :: st, M) = if ¬ a = b then am_run G d K_M_one (123, [l0, l1], st, M) else am_run G d K_M_one (110, [l0, l1], st, M) := by
  split
  · next h => exact am_run_next (x := (.if_icmp .ne 16, 3, 0, 0, 0, 0)) (by decide +kernel) (am_br_t (decide_eq_true h) (by decide))
  · next h => exact am_run_next (x := (.if_icmp .ne 16, 3, 0, 0, 0, 0)) (by decide +kernel) (am_br_f (decide_eq_false h) (by decide))
theorem r_M_one_110 {G : Nat → Value} {d : Nat} {st : List Value} {M : am_M} {l1 : Option Value} {v : Value} (hv : am_isr v = true) : am_run G d K_M_one (110, [some v, l1], st, M) = am_run G d K_M_one (111, [some v, l1], v :: st, M) := by
  rcases am_isr_cases hv with ⟨q, rfl⟩ | rfl
  · exact am_run_next (x := (.aload_n 0, 1, 0, 0, 0, 0)) (by decide +kernel) rfl
  · exact am_run_next (x := (.aload_n 0, 1, 0, 0, 0, 0)) (by decide +kernel) rfl
theorem r_M_one_111 {G : Nat → Value} {d : Nat} {st : List Value} {M : am_M} {l0 l1 : Option Value} {a : Nat} : am_run G d K_M_one (111, [l0, l1], .ref a :: st, M) = am_kf G d K_M_one 114 [l0, l1] st M (am_fld M a 10 32) := am_run_kf (x := (.getfield 231, 3, 10, 32, 5051, 0)) (by decide +kernel) rfl
theorem r_M_one_114 {G : Nat → Value} {d : Nat} {st : List Value} {M : am_M} {l0 l1 : Option Value} {a : Int64} : am_run G d K_M_one (114, [l0, l1], .long a :: st, M) = am_run G d K_M_one (115, [l0, l1], .int a.toInt32 :: st, M) := am_run_next (x := (.l2i, 1, 0, 0, 0, 0)) (by decide +kernel) rfl
theorem r_M_one_115 {G : Nat → Value} {d : Nat} {st : List Value} {M : am_M} {l0 l1 : Option Value} {v : Int32} (hc : am_c1 l0 = true) : am_run G d K_M_one (115, [l0, l1], .int v :: st, M) = am_run G d K_M_one (116, [l0, some (.int v)], st, M) := by
  rcases am_c1_cases hc with rfl | ⟨q, rfl⟩ | ⟨q, rfl⟩ | rfl
  · exact am_run_next (x := (.istore_n 1, 1, 0, 0, 0, 0)) (by decide +kernel) rfl
  · exact am_run_next (x := (.istore_n 1, 1, 0, 0, 0, 0)) (by decide +kernel) rfl
  · exact am_run_next (x := (.istore_n 1, 1, 0, 0, 0, 0)) (by decide +kernel) rfl
  · exact am_run_next (x := (.istore_n 1, 1, 0, 0, 0, 0)) (by decide +kernel) rfl
theorem r_M_one_115_k {G : Nat → Value} {d : Nat} {st : List Value} {M : am_M} {l1 : Option Value} {v : Int32} {z : Int64} : am_run G d K_M_one (115, [some (.long z), l1], .int v :: st, M) = am_run G d K_M_one (116, [none, some (.int v)], st, M) := am_run_next (x := (.istore_n 1, 1, 0, 0, 0, 0)) (by decide +kernel) rfl
theorem r_M_one_116 {G : Nat → Value} {d : Nat} {st : List Value} {M : am_M} {l1 : Option Value} {v : Value} (hv : am_isr v = true) : am_run G d K_M_one (116, [some v, l1], st, M) = am_run G d K_M_one (117, [some v, l1], v :: st, M) := by
  rcases am_isr_cases hv with ⟨q, rfl⟩ | rfl
  · exact am_run_next (x := (.aload_n 0, 1, 0, 0, 0, 0)) (by decide +kernel) rfl
  · exact am_run_next (x := (.aload_n 0, 1, 0, 0, 0, 0)) (by decide +kernel) rfl
theorem r_M_one_117 {G : Nat → Value} {d : Nat} {st : List Value} {M : am_M} {l0 l1 : Option Value} {q : Nat} (hq : am_cls M q = some 10) (h8 : am_sw st ≤ 8) : am_run G d K_M_one (117, [l0, l1], .ref q :: st, M) = am_k G d K_M_one 120 [l0, l1] st (am_ex G d K_M_next [.ref q] M) := am_run_iv (i := 260) (n := 0) (pl := 6037) (Bs := []) (z := K_M_next) (by decide +kernel) hq h8 rfl (Nat.le_of_ble_eq_true rfl) rfl
theorem r_M_one_120 {G : Nat → Value} {d : Nat} {st : List Value} {M : am_M} {l0 l1 : Option Value} : am_run G d K_M_one (120, [l0, l1], st, M) = am_run G d K_M_one (161, [l0, l1], st, M) := am_run_next (x := (.goto 41, 3, 0, 0, 0, 0)) (by decide +kernel) rfl
theorem r_M_one_123 {G : Nat → Value} {d : Nat} {st : List Value} {M : am_M} {l1 : Option Value} {v : Value} (hv : am_isr v = true) : am_run G d K_M_one (123, [some v, l1], st, M) = am_run G d K_M_one (124, [some v, l1], v :: st, M) := by
  rcases am_isr_cases hv with ⟨q, rfl⟩ | rfl
  · exact am_run_next (x := (.aload_n 0, 1, 0, 0, 0, 0)) (by decide +kernel) rfl
  · exact am_run_next (x := (.aload_n 0, 1, 0, 0, 0, 0)) (by decide +kernel) rfl
theorem r_M_one_124 {G : Nat → Value} {d : Nat} {st : List Value} {M : am_M} {l0 l1 : Option Value} {a : Nat} : am_run G d K_M_one (124, [l0, l1], .ref a :: st, M) = am_kf G d K_M_one 127 [l0, l1] st M (am_fld M a 10 35) := am_run_kf (x := (.getfield 247, 3, 10, 35, 5054, 0)) (by decide +kernel) rfl
theorem r_M_one_127 {G : Nat → Value} {d : Nat} {st : List Value} {M : am_M} {l0 l1 : Option Value} {a : Int32} : am_run G d K_M_one (127, [l0, l1], .int a :: st, M) = if ¬ a = 0 then am_run G d K_M_one (157, [l0, l1], st, M) else am_run G d K_M_one (130, [l0, l1], st, M) := by
  split
  · next h => exact am_run_next (x := (.ifCond .ne 30, 3, 0, 0, 0, 0)) (by decide +kernel) (am_br_t (decide_eq_true h) (by decide))
  · next h => exact am_run_next (x := (.ifCond .ne 30, 3, 0, 0, 0, 0)) (by decide +kernel) (am_br_f (decide_eq_false h) (by decide))
theorem r_M_one_130 {G : Nat → Value} {d : Nat} {st : List Value} {M : am_M} {l1 : Option Value} {v : Value} (hv : am_isr v = true) : am_run G d K_M_one (130, [some v, l1], st, M) = am_run G d K_M_one (131, [some v, l1], v :: st, M) := by
  rcases am_isr_cases hv with ⟨q, rfl⟩ | rfl
  · exact am_run_next (x := (.aload_n 0, 1, 0, 0, 0, 0)) (by decide +kernel) rfl
  · exact am_run_next (x := (.aload_n 0, 1, 0, 0, 0, 0)) (by decide +kernel) rfl
theorem r_M_one_131 {G : Nat → Value} {d : Nat} {st : List Value} {M : am_M} {l0 l1 : Option Value} {a : Nat} : am_run G d K_M_one (131, [l0, l1], .ref a :: st, M) = am_kf G d K_M_one 134 [l0, l1] st M (am_fld M a 10 30) := am_run_kf (x := (.getfield 224, 3, 10, 30, 5049, 0)) (by decide +kernel) rfl
theorem r_M_one_134 {G : Nat → Value} {d : Nat} {st : List Value} {M : am_M} {l0 l1 : Option Value} : am_run G d K_M_one (134, [l0, l1], st, M) = am_run G d K_M_one (135, [l0, l1], .int 1 :: st, M) := am_run_next (x := (.iconst 1, 1, 0, 0, 0, 0)) (by decide +kernel) rfl
theorem r_M_one_135 {G : Nat → Value} {d : Nat} {st : List Value} {M : am_M} {l0 l1 : Option Value} {a b : Int32} : am_run G d K_M_one (135, [l0, l1], .int b :: .int a :: st, M) = if ¬ a = b then am_run G d K_M_one (157, [l0, l1], st, M) else am_run G d K_M_one (138, [l0, l1], st, M) := by
  split
  · next h => exact am_run_next (x := (.if_icmp .ne 22, 3, 0, 0, 0, 0)) (by decide +kernel) (am_br_t (decide_eq_true h) (by decide))
  · next h => exact am_run_next (x := (.if_icmp .ne 22, 3, 0, 0, 0, 0)) (by decide +kernel) (am_br_f (decide_eq_false h) (by decide))
theorem r_M_one_138 {G : Nat → Value} {d : Nat} {st : List Value} {M : am_M} {l1 : Option Value} {v : Value} (hv : am_isr v = true) : am_run G d K_M_one (138, [some v, l1], st, M) = am_run G d K_M_one (139, [some v, l1], v :: st, M) := by
  rcases am_isr_cases hv with ⟨q, rfl⟩ | rfl
  · exact am_run_next (x := (.aload_n 0, 1, 0, 0, 0, 0)) (by decide +kernel) rfl
  · exact am_run_next (x := (.aload_n 0, 1, 0, 0, 0, 0)) (by decide +kernel) rfl
theorem r_M_one_139 {G : Nat → Value} {d : Nat} {st : List Value} {M : am_M} {l0 l1 : Option Value} {q : Nat} (hq : am_cls M q = some 10) (h8 : am_sw st ≤ 8) : am_run G d K_M_one (139, [l0, l1], .ref q :: st, M) = am_k G d K_M_one 142 [l0, l1] st (am_ex G d K_M_name [.ref q] M) := am_run_iv (i := 296) (n := 0) (pl := 6099) (Bs := []) (z := K_M_name) (by decide +kernel) hq h8 rfl (Nat.le_of_ble_eq_true rfl) rfl
theorem r_M_one_142 {G : Nat → Value} {d : Nat} {st : List Value} {M : am_M} {l0 l1 : Option Value} {v : Int32} (hc : am_c1 l0 = true) : am_run G d K_M_one (142, [l0, l1], .int v :: st, M) = am_run G d K_M_one (143, [l0, some (.int v)], st, M) := by
  rcases am_c1_cases hc with rfl | ⟨q, rfl⟩ | ⟨q, rfl⟩ | rfl
  · exact am_run_next (x := (.istore_n 1, 1, 0, 0, 0, 0)) (by decide +kernel) rfl
  · exact am_run_next (x := (.istore_n 1, 1, 0, 0, 0, 0)) (by decide +kernel) rfl
  · exact am_run_next (x := (.istore_n 1, 1, 0, 0, 0, 0)) (by decide +kernel) rfl
  · exact am_run_next (x := (.istore_n 1, 1, 0, 0, 0, 0)) (by decide +kernel) rfl
theorem r_M_one_142_k {G : Nat → Value} {d : Nat} {st : List Value} {M : am_M} {l1 : Option Value} {v : Int32} {z : Int64} : am_run G d K_M_one (142, [some (.long z), l1], .int v :: st, M) = am_run G d K_M_one (143, [none, some (.int v)], st, M) := am_run_next (x := (.istore_n 1, 1, 0, 0, 0, 0)) (by decide +kernel) rfl
theorem r_M_one_143 {G : Nat → Value} {d : Nat} {st : List Value} {M : am_M} {l1 : Option Value} {v : Value} (hv : am_isr v = true) : am_run G d K_M_one (143, [some v, l1], st, M) = am_run G d K_M_one (144, [some v, l1], v :: st, M) := by
  rcases am_isr_cases hv with ⟨q, rfl⟩ | rfl
  · exact am_run_next (x := (.aload_n 0, 1, 0, 0, 0, 0)) (by decide +kernel) rfl
  · exact am_run_next (x := (.aload_n 0, 1, 0, 0, 0, 0)) (by decide +kernel) rfl
theorem r_M_one_144 {G : Nat → Value} {d : Nat} {st : List Value} {M : am_M} {l0 l1 : Option Value} {a : Nat} : am_run G d K_M_one (144, [l0, l1], .ref a :: st, M) = am_kf G d K_M_one 147 [l0, l1] st M (am_fld M a 10 35) := am_run_kf (x := (.getfield 247, 3, 10, 35, 5054, 0)) (by decide +kernel) rfl
theorem r_M_one_147 {G : Nat → Value} {d : Nat} {st : List Value} {M : am_M} {l0 l1 : Option Value} {a : Int32} : am_run G d K_M_one (147, [l0, l1], .int a :: st, M) = if ¬ a = 0 then am_run G d K_M_one (161, [l0, l1], st, M) else am_run G d K_M_one (150, [l0, l1], st, M) := by
  split
  · next h => exact am_run_next (x := (.ifCond .ne 14, 3, 0, 0, 0, 0)) (by decide +kernel) (am_br_t (decide_eq_true h) (by decide))
  · next h => exact am_run_next (x := (.ifCond .ne 14, 3, 0, 0, 0, 0)) (by decide +kernel) (am_br_f (decide_eq_false h) (by decide))
theorem r_M_one_150 {G : Nat → Value} {d : Nat} {st : List Value} {M : am_M} {l1 : Option Value} {v : Value} (hv : am_isr v = true) : am_run G d K_M_one (150, [some v, l1], st, M) = am_run G d K_M_one (151, [some v, l1], v :: st, M) := by
  rcases am_isr_cases hv with ⟨q, rfl⟩ | rfl
  · exact am_run_next (x := (.aload_n 0, 1, 0, 0, 0, 0)) (by decide +kernel) rfl
  · exact am_run_next (x := (.aload_n 0, 1, 0, 0, 0, 0)) (by decide +kernel) rfl
theorem r_M_one_151 {G : Nat → Value} {d : Nat} {st : List Value} {M : am_M} {l0 l1 : Option Value} {q : Nat} (hq : am_cls M q = some 10) (h8 : am_sw st ≤ 8) : am_run G d K_M_one (151, [l0, l1], .ref q :: st, M) = am_k G d K_M_one 154 [l0, l1] st (am_ex G d K_M_next [.ref q] M) := am_run_iv (i := 260) (n := 0) (pl := 6037) (Bs := []) (z := K_M_next) (by decide +kernel) hq h8 rfl (Nat.le_of_ble_eq_true rfl) rfl
theorem r_M_one_154 {G : Nat → Value} {d : Nat} {st : List Value} {M : am_M} {l0 l1 : Option Value} : am_run G d K_M_one (154, [l0, l1], st, M) = am_run G d K_M_one (161, [l0, l1], st, M) := am_run_next (x := (.goto 7, 3, 0, 0, 0, 0)) (by decide +kernel) rfl
theorem r_M_one_157 {G : Nat → Value} {d : Nat} {st : List Value} {M : am_M} {l1 : Option Value} {v : Value} (hv : am_isr v = true) : am_run G d K_M_one (157, [some v, l1], st, M) = am_run G d K_M_one (158, [some v, l1], v :: st, M) := by
  rcases am_isr_cases hv with ⟨q, rfl⟩ | rfl
  · exact am_run_next (x := (.aload_n 0, 1, 0, 0, 0, 0)) (by decide +kernel) rfl
  · exact am_run_next (x := (.aload_n 0, 1, 0, 0, 0, 0)) (by decide +kernel) rfl
theorem r_M_one_158 {G : Nat → Value} {d : Nat} {st : List Value} {M : am_M} {l0 l1 : Option Value} {q : Nat} (hq : am_cls M q = some 10) (h8 : am_sw st ≤ 8) : am_run G d K_M_one (158, [l0, l1], .ref q :: st, M) = am_k G d K_M_one 161 [l0, l1] st (am_ex G d K_M_fail [.ref q] M) := am_run_iv (i := 257) (n := 0) (pl := 6062) (Bs := []) (z := K_M_fail) (by decide +kernel) hq h8 rfl (Nat.le_of_ble_eq_true rfl) rfl
theorem r_M_one_161 {G : Nat → Value} {d : Nat} {st : List Value} {M : am_M} {l0 : Option Value} {v : Int32} : am_run G d K_M_one (161, [l0, some (.int v)], st, M) = am_run G d K_M_one (162, [l0, some (.int v)], .int v :: st, M) := am_run_next (x := (.iload_n 1, 1, 0, 0, 0, 0)) (by decide +kernel) rfl
theorem r_M_one_162 {G : Nat → Value} {d : Nat} {M : am_M} {l0 l1 : Option Value} {a : Int32} : am_run G d K_M_one (162, [l0, l1], [.int a], M) = some (some (.int a), M) := am_run_ret (x := (.ireturn, 1, 0, 0, 0, 0)) (by decide +kernel) rfl
theorem r_M_isSign_0 {G : Nat → Value} {d : Nat} {st : List Value} {M : am_M} {l1 : Option Value} {v : Value} (hv : am_isr v = true) : am_run G d K_M_isSign (0, [some v, l1], st, M) = am_run G d K_M_isSign (1, [some v, l1], v :: st, M) := by
  rcases am_isr_cases hv with ⟨q, rfl⟩ | rfl
  · exact am_run_next (x := (.aload_n 0, 1, 0, 0, 0, 0)) (by decide +kernel) rfl
  · exact am_run_next (x := (.aload_n 0, 1, 0, 0, 0, 0)) (by decide +kernel) rfl
theorem r_M_isSign_1 {G : Nat → Value} {d : Nat} {st : List Value} {M : am_M} {l0 l1 : Option Value} {a : Nat} : am_run G d K_M_isSign (1, [l0, l1], .ref a :: st, M) = am_kf G d K_M_isSign 4 [l0, l1] st M (am_fld M a 10 35) := am_run_kf (x := (.getfield 247, 3, 10, 35, 5054, 0)) (by decide +kernel) rfl
theorem r_M_isSign_4 {G : Nat → Value} {d : Nat} {st : List Value} {M : am_M} {l0 l1 : Option Value} {a : Int32} : am_run G d K_M_isSign (4, [l0, l1], .int a :: st, M) = if ¬ a = 0 then am_run G d K_M_isSign (29, [l0, l1], st, M) else am_run G d K_M_isSign (7, [l0, l1], st, M) := by
  split
  · next h => exact am_run_next (x := (.ifCond .ne 25, 3, 0, 0, 0, 0)) (by decide +kernel) (am_br_t (decide_eq_true h) (by decide))
  · next h => exact am_run_next (x := (.ifCond .ne 25, 3, 0, 0, 0, 0)) (by decide +kernel) (am_br_f (decide_eq_false h) (by decide))
theorem r_M_isSign_7 {G : Nat → Value} {d : Nat} {st : List Value} {M : am_M} {l1 : Option Value} {v : Value} (hv : am_isr v = true) : am_run G d K_M_isSign (7, [some v, l1], st, M) = am_run G d K_M_isSign (8, [some v, l1], v :: st, M) := by
  rcases am_isr_cases hv with ⟨q, rfl⟩ | rfl
  · exact am_run_next (x := (.aload_n 0, 1, 0, 0, 0, 0)) (by decide +kernel) rfl
  · exact am_run_next (x := (.aload_n 0, 1, 0, 0, 0, 0)) (by decide +kernel) rfl
theorem r_M_isSign_8 {G : Nat → Value} {d : Nat} {st : List Value} {M : am_M} {l0 l1 : Option Value} {a : Nat} : am_run G d K_M_isSign (8, [l0, l1], .ref a :: st, M) = am_kf G d K_M_isSign 11 [l0, l1] st M (am_fld M a 10 30) := am_run_kf (x := (.getfield 224, 3, 10, 30, 5049, 0)) (by decide +kernel) rfl
theorem r_M_isSign_11 {G : Nat → Value} {d : Nat} {st : List Value} {M : am_M} {l0 l1 : Option Value} : am_run G d K_M_isSign (11, [l0, l1], st, M) = am_run G d K_M_isSign (12, [l0, l1], .int 3 :: st, M) := am_run_next (x := (.iconst 3, 1, 0, 0, 0, 0)) (by decide +kernel) rfl
theorem r_M_isSign_12 {G : Nat → Value} {d : Nat} {st : List Value} {M : am_M} {l0 l1 : Option Value} {a b : Int32} : am_run G d K_M_isSign (12, [l0, l1], .int b :: .int a :: st, M) = if ¬ a = b then am_run G d K_M_isSign (29, [l0, l1], st, M) else am_run G d K_M_isSign (15, [l0, l1], st, M) := by
  split
  · next h => exact am_run_next (x := (.if_icmp .ne 17, 3, 0, 0, 0, 0)) (by decide +kernel) (am_br_t (decide_eq_true h) (by decide))
  · next h => exact am_run_next (x := (.if_icmp .ne 17, 3, 0, 0, 0, 0)) (by decide +kernel) (am_br_f (decide_eq_false h) (by decide))
theorem r_M_isSign_15 {G : Nat → Value} {d : Nat} {st : List Value} {M : am_M} {l1 : Option Value} {v : Value} (hv : am_isr v = true) : am_run G d K_M_isSign (15, [some v, l1], st, M) = am_run G d K_M_isSign (16, [some v, l1], v :: st, M) := by
  rcases am_isr_cases hv with ⟨q, rfl⟩ | rfl
  · exact am_run_next (x := (.aload_n 0, 1, 0, 0, 0, 0)) (by decide +kernel) rfl
  · exact am_run_next (x := (.aload_n 0, 1, 0, 0, 0, 0)) (by decide +kernel) rfl
theorem r_M_isSign_16 {G : Nat → Value} {d : Nat} {st : List Value} {M : am_M} {l0 l1 : Option Value} {a : Nat} : am_run G d K_M_isSign (16, [l0, l1], .ref a :: st, M) = am_kf G d K_M_isSign 19 [l0, l1] st M (am_fld M a 10 32) := am_run_kf (x := (.getfield 231, 3, 10, 32, 5051, 0)) (by decide +kernel) rfl
theorem r_M_isSign_19 {G : Nat → Value} {d : Nat} {st : List Value} {M : am_M} {l0 : Option Value} {v : Int32} : am_run G d K_M_isSign (19, [l0, some (.int v)], st, M) = am_run G d K_M_isSign (20, [l0, some (.int v)], .int v :: st, M) := am_run_next (x := (.iload_n 1, 1, 0, 0, 0, 0)) (by decide +kernel) rfl
theorem r_M_isSign_20 {G : Nat → Value} {d : Nat} {st : List Value} {M : am_M} {l0 l1 : Option Value} {a : Int32} : am_run G d K_M_isSign (20, [l0, l1], .int a :: st, M) = am_run G d K_M_isSign (21, [l0, l1], .long a.toInt64 :: st, M) := am_run_next (x := (.i2l, 1, 0, 0, 0, 0)) (by decide +kernel) rfl
theorem r_M_isSign_21 {G : Nat → Value} {d : Nat} {st : List Value} {M : am_M} {l0 l1 : Option Value} {a b : Int64} : am_run G d K_M_isSign (21, [l0, l1], .long b :: .long a :: st, M) = am_run G d K_M_isSign (22, [l0, l1], .int (lg_cmp a b) :: st, M) := am_run_next (x := (.lcmp, 1, 0, 0, 0, 0)) (by decide +kernel) rfl
theorem r_M_isSign_22 {G : Nat → Value} {d : Nat} {st : List Value} {M : am_M} {l0 l1 : Option Value} {a : Int32} : am_run G d K_M_isSign (22, [l0, l1], .int a :: st, M) = if ¬ a = 0 then am_run G d K_M_isSign (29, [l0, l1], st, M) else am_run G d K_M_isSign (25, [l0, l1], st, M) := by
  split
  · next h => exact am_run_next (x := (.ifCond .ne 7, 3, 0, 0, 0, 0)) (by decide +kernel) (am_br_t (decide_eq_true h) (by decide))
  · next h => exact am_run_next (x := (.ifCond .ne 7, 3, 0, 0, 0, 0)) (by decide +kernel) (am_br_f (decide_eq_false h) (by decide))
theorem r_M_isSign_25 {G : Nat → Value} {d : Nat} {st : List Value} {M : am_M} {l0 l1 : Option Value} : am_run G d K_M_isSign (25, [l0, l1], st, M) = am_run G d K_M_isSign (26, [l0, l1], .int 1 :: st, M) := am_run_next (x := (.iconst 1, 1, 0, 0, 0, 0)) (by decide +kernel) rfl
theorem r_M_isSign_26 {G : Nat → Value} {d : Nat} {st : List Value} {M : am_M} {l0 l1 : Option Value} : am_run G d K_M_isSign (26, [l0, l1], st, M) = am_run G d K_M_isSign (30, [l0, l1], st, M) := am_run_next (x := (.goto 4, 3, 0, 0, 0, 0)) (by decide +kernel) rfl
theorem r_M_isSign_29 {G : Nat → Value} {d : Nat} {st : List Value} {M : am_M} {l0 l1 : Option Value} : am_run G d K_M_isSign (29, [l0, l1], st, M) = am_run G d K_M_isSign (30, [l0, l1], .int 0 :: st, M) := am_run_next (x := (.iconst 0, 1, 0, 0, 0, 0)) (by decide +kernel) rfl
theorem r_M_isSign_30 {G : Nat → Value} {d : Nat} {M : am_M} {l0 l1 : Option Value} {a : Int32} (ha : a = 0 ∨ a = 1) : am_run G d K_M_isSign (30, [l0, l1], [.int a], M) = some (some (.int a), M) := am_run_ret (x := (.ireturn, 1, 0, 0, 0, 0)) (by decide +kernel) (if_pos (decide_eq_true ha))
theorem r_M_name_0 {G : Nat → Value} {d : Nat} {st : List Value} {M : am_M} {v : Value} (hv : am_isr v = true) : am_run G d K_M_name (0, [some v], st, M) = am_run G d K_M_name (1, [some v], v :: st, M) := by
  rcases am_isr_cases hv with ⟨q, rfl⟩ | rfl
  · exact am_run_next (x := (.aload_n 0, 1, 0, 0, 0, 0)) (by decide +kernel) rfl
  · exact am_run_next (x := (.aload_n 0, 1, 0, 0, 0, 0)) (by decide +kernel) rfl
theorem r_M_name_1 {G : Nat → Value} {d : Nat} {st : List Value} {M : am_M} {l0 : Option Value} : am_run G d K_M_name (1, [l0], st, M) = am_run G d K_M_name (4, [l0], .long 223456 :: st, M) := am_run_next (x := (.ldc2_w 263, 3, 0, 0, 6103, 223456)) (by decide +kernel) rfl
theorem r_M_name_4 {G : Nat → Value} {d : Nat} {st : List Value} {M : am_M} {l0 : Option Value} {q : Nat} {a0 : Int64} (hq : am_cls M q = some 10) (h8 : am_sw st ≤ 8) : am_run G d K_M_name (4, [l0], .long a0 :: .ref q :: st, M) = am_k G d K_M_name 7 [l0] st (am_ex G d K_M_isWord [.ref q, .long a0] M) := am_run_iv (i := 265) (n := 1) (pl := 6058) (Bs := [.long a0]) (z := K_M_isWord) (by decide +kernel) hq h8 rfl (Nat.le_of_ble_eq_true rfl) rfl
theorem r_M_name_7 {G : Nat → Value} {d : Nat} {st : List Value} {M : am_M} {l0 : Option Value} {a : Int32} : am_run G d K_M_name (7, [l0], .int a :: st, M) = if a = 0 then am_run G d K_M_name (20, [l0], st, M) else am_run G d K_M_name (10, [l0], st, M) := by
  split
  · next h => exact am_run_next (x := (.ifCond .eq 13, 3, 0, 0, 0, 0)) (by decide +kernel) (am_br_t (decide_eq_true h) (by decide))
  · next h => exact am_run_next (x := (.ifCond .eq 13, 3, 0, 0, 0, 0)) (by decide +kernel) (am_br_f (decide_eq_false h) (by decide))
theorem r_M_name_10 {G : Nat → Value} {d : Nat} {st : List Value} {M : am_M} {v : Value} (hv : am_isr v = true) : am_run G d K_M_name (10, [some v], st, M) = am_run G d K_M_name (11, [some v], v :: st, M) := by
  rcases am_isr_cases hv with ⟨q, rfl⟩ | rfl
  · exact am_run_next (x := (.aload_n 0, 1, 0, 0, 0, 0)) (by decide +kernel) rfl
  · exact am_run_next (x := (.aload_n 0, 1, 0, 0, 0, 0)) (by decide +kernel) rfl
theorem r_M_name_11 {G : Nat → Value} {d : Nat} {st : List Value} {M : am_M} {l0 : Option Value} {a : Nat} : am_run G d K_M_name (11, [l0], .ref a :: st, M) = am_kf G d K_M_name 14 [l0] st M (am_fld M a 10 21) := am_run_kf (x := (.getfield 47, 3, 10, 21, 5040, 0)) (by decide +kernel) rfl
theorem r_M_name_14 {G : Nat → Value} {d : Nat} {st : List Value} {M : am_M} {v : Value} (hv : am_isr v = true) : am_run G d K_M_name (14, [some v], st, M) = am_run G d K_M_name (15, [some v], v :: st, M) := by
  rcases am_isr_cases hv with ⟨q, rfl⟩ | rfl
  · exact am_run_next (x := (.aload_n 0, 1, 0, 0, 0, 0)) (by decide +kernel) rfl
  · exact am_run_next (x := (.aload_n 0, 1, 0, 0, 0, 0)) (by decide +kernel) rfl
theorem r_M_name_15 {G : Nat → Value} {d : Nat} {st : List Value} {M : am_M} {l0 : Option Value} {a : Nat} : am_run G d K_M_name (15, [l0], .ref a :: st, M) = am_kf G d K_M_name 18 [l0] st M (am_fld M a 10 37) := am_run_kf (x := (.getfield 269, 3, 10, 37, 5056, 0)) (by decide +kernel) rfl
theorem r_M_name_18 {G : Nat → Value} {d : Nat} {st : List Value} {M : am_M} {l0 : Option Value} {a : Nat} {i : Int32} : am_run G d K_M_name (18, [l0], .int i :: .ref a :: st, M) = am_kf G d K_M_name 19 [l0] st M (am_ag 0 M a i) := am_run_kf (x := (.iaload, 1, 0, 0, 0, 0)) (by decide +kernel) rfl
theorem r_M_name_19 {G : Nat → Value} {d : Nat} {M : am_M} {l0 : Option Value} {a : Int32} : am_run G d K_M_name (19, [l0], [.int a], M) = some (some (.int a), M) := am_run_ret (x := (.ireturn, 1, 0, 0, 0, 0)) (by decide +kernel) rfl
theorem r_M_name_20 {G : Nat → Value} {d : Nat} {st : List Value} {M : am_M} {v : Value} (hv : am_isr v = true) : am_run G d K_M_name (20, [some v], st, M) = am_run G d K_M_name (21, [some v], v :: st, M) := by
  rcases am_isr_cases hv with ⟨q, rfl⟩ | rfl
  · exact am_run_next (x := (.aload_n 0, 1, 0, 0, 0, 0)) (by decide +kernel) rfl
  · exact am_run_next (x := (.aload_n 0, 1, 0, 0, 0, 0)) (by decide +kernel) rfl
theorem r_M_name_21 {G : Nat → Value} {d : Nat} {st : List Value} {M : am_M} {l0 : Option Value} : am_run G d K_M_name (21, [l0], st, M) = am_run G d K_M_name (24, [l0], .long 257011 :: st, M) := am_run_next (x := (.ldc2_w 272, 3, 0, 0, 6104, 257011)) (by decide +kernel) rfl
theorem r_M_name_24 {G : Nat → Value} {d : Nat} {st : List Value} {M : am_M} {l0 : Option Value} {q : Nat} {a0 : Int64} (hq : am_cls M q = some 10) (h8 : am_sw st ≤ 8) : am_run G d K_M_name (24, [l0], .long a0 :: .ref q :: st, M) = am_k G d K_M_name 27 [l0] st (am_ex G d K_M_isWord [.ref q, .long a0] M) := am_run_iv (i := 265) (n := 1) (pl := 6058) (Bs := [.long a0]) (z := K_M_isWord) (by decide +kernel) hq h8 rfl (Nat.le_of_ble_eq_true rfl) rfl
theorem r_M_name_27 {G : Nat → Value} {d : Nat} {st : List Value} {M : am_M} {l0 : Option Value} {a : Int32} : am_run G d K_M_name (27, [l0], .int a :: st, M) = if a = 0 then am_run G d K_M_name (40, [l0], st, M) else am_run G d K_M_name (30, [l0], st, M) := by
  split
  · next h => exact am_run_next (x := (.ifCond .eq 13, 3, 0, 0, 0, 0)) (by decide +kernel) (am_br_t (decide_eq_true h) (by decide))
  · next h => exact am_run_next (x := (.ifCond .eq 13, 3, 0, 0, 0, 0)) (by decide +kernel) (am_br_f (decide_eq_false h) (by decide))
theorem r_M_name_30 {G : Nat → Value} {d : Nat} {st : List Value} {M : am_M} {v : Value} (hv : am_isr v = true) : am_run G d K_M_name (30, [some v], st, M) = am_run G d K_M_name (31, [some v], v :: st, M) := by
  rcases am_isr_cases hv with ⟨q, rfl⟩ | rfl
  · exact am_run_next (x := (.aload_n 0, 1, 0, 0, 0, 0)) (by decide +kernel) rfl
  · exact am_run_next (x := (.aload_n 0, 1, 0, 0, 0, 0)) (by decide +kernel) rfl
theorem r_M_name_31 {G : Nat → Value} {d : Nat} {st : List Value} {M : am_M} {l0 : Option Value} {a : Nat} : am_run G d K_M_name (31, [l0], .ref a :: st, M) = am_kf G d K_M_name 34 [l0] st M (am_fld M a 10 24) := am_run_kf (x := (.getfield 56, 3, 10, 24, 5043, 0)) (by decide +kernel) rfl
theorem r_M_name_34 {G : Nat → Value} {d : Nat} {st : List Value} {M : am_M} {v : Value} (hv : am_isr v = true) : am_run G d K_M_name (34, [some v], st, M) = am_run G d K_M_name (35, [some v], v :: st, M) := by
  rcases am_isr_cases hv with ⟨q, rfl⟩ | rfl
  · exact am_run_next (x := (.aload_n 0, 1, 0, 0, 0, 0)) (by decide +kernel) rfl
  · exact am_run_next (x := (.aload_n 0, 1, 0, 0, 0, 0)) (by decide +kernel) rfl
theorem r_M_name_35 {G : Nat → Value} {d : Nat} {st : List Value} {M : am_M} {l0 : Option Value} {a : Nat} : am_run G d K_M_name (35, [l0], .ref a :: st, M) = am_kf G d K_M_name 38 [l0] st M (am_fld M a 10 37) := am_run_kf (x := (.getfield 269, 3, 10, 37, 5056, 0)) (by decide +kernel) rfl
theorem r_M_name_38 {G : Nat → Value} {d : Nat} {st : List Value} {M : am_M} {l0 : Option Value} {a : Nat} {i : Int32} : am_run G d K_M_name (38, [l0], .int i :: .ref a :: st, M) = am_kf G d K_M_name 39 [l0] st M (am_ag 0 M a i) := am_run_kf (x := (.iaload, 1, 0, 0, 0, 0)) (by decide +kernel) rfl
theorem r_M_name_39 {G : Nat → Value} {d : Nat} {M : am_M} {l0 : Option Value} {a : Int32} : am_run G d K_M_name (39, [l0], [.int a], M) = some (some (.int a), M) := am_run_ret (x := (.ireturn, 1, 0, 0, 0, 0)) (by decide +kernel) rfl
theorem r_M_name_40 {G : Nat → Value} {d : Nat} {st : List Value} {M : am_M} {v : Value} (hv : am_isr v = true) : am_run G d K_M_name (40, [some v], st, M) = am_run G d K_M_name (41, [some v], v :: st, M) := by
  rcases am_isr_cases hv with ⟨q, rfl⟩ | rfl
  · exact am_run_next (x := (.aload_n 0, 1, 0, 0, 0, 0)) (by decide +kernel) rfl
  · exact am_run_next (x := (.aload_n 0, 1, 0, 0, 0, 0)) (by decide +kernel) rfl
theorem r_M_name_41 {G : Nat → Value} {d : Nat} {st : List Value} {M : am_M} {l0 : Option Value} : am_run G d K_M_name (41, [l0], st, M) = am_run G d K_M_name (44, [l0], .long 8694872 :: st, M) := am_run_next (x := (.ldc2_w 274, 3, 0, 0, 6105, 8694872)) (by decide +kernel) rfl
theorem r_M_name_44 {G : Nat → Value} {d : Nat} {st : List Value} {M : am_M} {l0 : Option Value} {q : Nat} {a0 : Int64} (hq : am_cls M q = some 10) (h8 : am_sw st ≤ 8) : am_run G d K_M_name (44, [l0], .long a0 :: .ref q :: st, M) = am_k G d K_M_name 47 [l0] st (am_ex G d K_M_isWord [.ref q, .long a0] M) := am_run_iv (i := 265) (n := 1) (pl := 6058) (Bs := [.long a0]) (z := K_M_isWord) (by decide +kernel) hq h8 rfl (Nat.le_of_ble_eq_true rfl) rfl
theorem r_M_name_47 {G : Nat → Value} {d : Nat} {st : List Value} {M : am_M} {l0 : Option Value} {a : Int32} : am_run G d K_M_name (47, [l0], .int a :: st, M) = if a = 0 then am_run G d K_M_name (60, [l0], st, M) else am_run G d K_M_name (50, [l0], st, M) := by
  split
  · next h => exact am_run_next (x := (.ifCond .eq 13, 3, 0, 0, 0, 0)) (by decide +kernel) (am_br_t (decide_eq_true h) (by decide))
  · next h => exact am_run_next (x := (.ifCond .eq 13, 3, 0, 0, 0, 0)) (by decide +kernel) (am_br_f (decide_eq_false h) (by decide))
theorem r_M_name_50 {G : Nat → Value} {d : Nat} {st : List Value} {M : am_M} {v : Value} (hv : am_isr v = true) : am_run G d K_M_name (50, [some v], st, M) = am_run G d K_M_name (51, [some v], v :: st, M) := by
  rcases am_isr_cases hv with ⟨q, rfl⟩ | rfl
  · exact am_run_next (x := (.aload_n 0, 1, 0, 0, 0, 0)) (by decide +kernel) rfl
  · exact am_run_next (x := (.aload_n 0, 1, 0, 0, 0, 0)) (by decide +kernel) rfl
theorem r_M_name_51 {G : Nat → Value} {d : Nat} {st : List Value} {M : am_M} {l0 : Option Value} {a : Nat} : am_run G d K_M_name (51, [l0], .ref a :: st, M) = am_kf G d K_M_name 54 [l0] st M (am_fld M a 10 23) := am_run_kf (x := (.getfield 53, 3, 10, 23, 5042, 0)) (by decide +kernel) rfl
theorem r_M_name_54 {G : Nat → Value} {d : Nat} {st : List Value} {M : am_M} {v : Value} (hv : am_isr v = true) : am_run G d K_M_name (54, [some v], st, M) = am_run G d K_M_name (55, [some v], v :: st, M) := by
  rcases am_isr_cases hv with ⟨q, rfl⟩ | rfl
  · exact am_run_next (x := (.aload_n 0, 1, 0, 0, 0, 0)) (by decide +kernel) rfl
  · exact am_run_next (x := (.aload_n 0, 1, 0, 0, 0, 0)) (by decide +kernel) rfl
theorem r_M_name_55 {G : Nat → Value} {d : Nat} {st : List Value} {M : am_M} {l0 : Option Value} {a : Nat} : am_run G d K_M_name (55, [l0], .ref a :: st, M) = am_kf G d K_M_name 58 [l0] st M (am_fld M a 10 37) := am_run_kf (x := (.getfield 269, 3, 10, 37, 5056, 0)) (by decide +kernel) rfl
theorem r_M_name_58 {G : Nat → Value} {d : Nat} {st : List Value} {M : am_M} {l0 : Option Value} {a : Nat} {i : Int32} : am_run G d K_M_name (58, [l0], .int i :: .ref a :: st, M) = am_kf G d K_M_name 59 [l0] st M (am_ag 0 M a i) := am_run_kf (x := (.iaload, 1, 0, 0, 0, 0)) (by decide +kernel) rfl
theorem r_M_name_59 {G : Nat → Value} {d : Nat} {M : am_M} {l0 : Option Value} {a : Int32} : am_run G d K_M_name (59, [l0], [.int a], M) = some (some (.int a), M) := am_run_ret (x := (.ireturn, 1, 0, 0, 0, 0)) (by decide +kernel) rfl
theorem r_M_name_60 {G : Nat → Value} {d : Nat} {st : List Value} {M : am_M} {v : Value} (hv : am_isr v = true) : am_run G d K_M_name (60, [some v], st, M) = am_run G d K_M_name (61, [some v], v :: st, M) := by
  rcases am_isr_cases hv with ⟨q, rfl⟩ | rfl
  · exact am_run_next (x := (.aload_n 0, 1, 0, 0, 0, 0)) (by decide +kernel) rfl
  · exact am_run_next (x := (.aload_n 0, 1, 0, 0, 0, 0)) (by decide +kernel) rfl
theorem r_M_name_61 {G : Nat → Value} {d : Nat} {st : List Value} {M : am_M} {l0 : Option Value} : am_run G d K_M_name (61, [l0], st, M) = am_run G d K_M_name (64, [l0], .long 158529 :: st, M) := am_run_next (x := (.ldc2_w 276, 3, 0, 0, 6106, 158529)) (by decide +kernel) rfl
theorem r_M_name_64 {G : Nat → Value} {d : Nat} {st : List Value} {M : am_M} {l0 : Option Value} {q : Nat} {a0 : Int64} (hq : am_cls M q = some 10) (h8 : am_sw st ≤ 8) : am_run G d K_M_name (64, [l0], .long a0 :: .ref q :: st, M) = am_k G d K_M_name 67 [l0] st (am_ex G d K_M_isWord [.ref q, .long a0] M) := am_run_iv (i := 265) (n := 1) (pl := 6058) (Bs := [.long a0]) (z := K_M_isWord) (by decide +kernel) hq h8 rfl (Nat.le_of_ble_eq_true rfl) rfl
theorem r_M_name_67 {G : Nat → Value} {d : Nat} {st : List Value} {M : am_M} {l0 : Option Value} {a : Int32} : am_run G d K_M_name (67, [l0], .int a :: st, M) = if a = 0 then am_run G d K_M_name (80, [l0], st, M) else am_run G d K_M_name (70, [l0], st, M) := by
  split
  · next h => exact am_run_next (x := (.ifCond .eq 13, 3, 0, 0, 0, 0)) (by decide +kernel) (am_br_t (decide_eq_true h) (by decide))
  · next h => exact am_run_next (x := (.ifCond .eq 13, 3, 0, 0, 0, 0)) (by decide +kernel) (am_br_f (decide_eq_false h) (by decide))
theorem r_M_name_70 {G : Nat → Value} {d : Nat} {st : List Value} {M : am_M} {v : Value} (hv : am_isr v = true) : am_run G d K_M_name (70, [some v], st, M) = am_run G d K_M_name (71, [some v], v :: st, M) := by
  rcases am_isr_cases hv with ⟨q, rfl⟩ | rfl
  · exact am_run_next (x := (.aload_n 0, 1, 0, 0, 0, 0)) (by decide +kernel) rfl
  · exact am_run_next (x := (.aload_n 0, 1, 0, 0, 0, 0)) (by decide +kernel) rfl
theorem r_M_name_71 {G : Nat → Value} {d : Nat} {st : List Value} {M : am_M} {l0 : Option Value} {a : Nat} : am_run G d K_M_name (71, [l0], .ref a :: st, M) = am_kf G d K_M_name 74 [l0] st M (am_fld M a 10 22) := am_run_kf (x := (.getfield 50, 3, 10, 22, 5041, 0)) (by decide +kernel) rfl
theorem r_M_name_74 {G : Nat → Value} {d : Nat} {st : List Value} {M : am_M} {v : Value} (hv : am_isr v = true) : am_run G d K_M_name (74, [some v], st, M) = am_run G d K_M_name (75, [some v], v :: st, M) := by
  rcases am_isr_cases hv with ⟨q, rfl⟩ | rfl
  · exact am_run_next (x := (.aload_n 0, 1, 0, 0, 0, 0)) (by decide +kernel) rfl
  · exact am_run_next (x := (.aload_n 0, 1, 0, 0, 0, 0)) (by decide +kernel) rfl
theorem r_M_name_75 {G : Nat → Value} {d : Nat} {st : List Value} {M : am_M} {l0 : Option Value} {a : Nat} : am_run G d K_M_name (75, [l0], .ref a :: st, M) = am_kf G d K_M_name 78 [l0] st M (am_fld M a 10 37) := am_run_kf (x := (.getfield 269, 3, 10, 37, 5056, 0)) (by decide +kernel) rfl
theorem r_M_name_78 {G : Nat → Value} {d : Nat} {st : List Value} {M : am_M} {l0 : Option Value} {a : Nat} {i : Int32} : am_run G d K_M_name (78, [l0], .int i :: .ref a :: st, M) = am_kf G d K_M_name 79 [l0] st M (am_ag 0 M a i) := am_run_kf (x := (.iaload, 1, 0, 0, 0, 0)) (by decide +kernel) rfl
theorem r_M_name_79 {G : Nat → Value} {d : Nat} {M : am_M} {l0 : Option Value} {a : Int32} : am_run G d K_M_name (79, [l0], [.int a], M) = some (some (.int a), M) := am_run_ret (x := (.ireturn, 1, 0, 0, 0, 0)) (by decide +kernel) rfl
theorem r_M_name_80 {G : Nat → Value} {d : Nat} {st : List Value} {M : am_M} {v : Value} (hv : am_isr v = true) : am_run G d K_M_name (80, [some v], st, M) = am_run G d K_M_name (81, [some v], v :: st, M) := by
  rcases am_isr_cases hv with ⟨q, rfl⟩ | rfl
  · exact am_run_next (x := (.aload_n 0, 1, 0, 0, 0, 0)) (by decide +kernel) rfl
  · exact am_run_next (x := (.aload_n 0, 1, 0, 0, 0, 0)) (by decide +kernel) rfl
theorem r_M_name_81 {G : Nat → Value} {d : Nat} {st : List Value} {M : am_M} {l0 : Option Value} : am_run G d K_M_name (81, [l0], st, M) = am_run G d K_M_name (84, [l0], .long 400577 :: st, M) := am_run_next (x := (.ldc2_w 278, 3, 0, 0, 6107, 400577)) (by decide +kernel) rfl
theorem r_M_name_84 {G : Nat → Value} {d : Nat} {st : List Value} {M : am_M} {l0 : Option Value} {q : Nat} {a0 : Int64} (hq : am_cls M q = some 10) (h8 : am_sw st ≤ 8) : am_run G d K_M_name (84, [l0], .long a0 :: .ref q :: st, M) = am_k G d K_M_name 87 [l0] st (am_ex G d K_M_isWord [.ref q, .long a0] M) := am_run_iv (i := 265) (n := 1) (pl := 6058) (Bs := [.long a0]) (z := K_M_isWord) (by decide +kernel) hq h8 rfl (Nat.le_of_ble_eq_true rfl) rfl
theorem r_M_name_87 {G : Nat → Value} {d : Nat} {st : List Value} {M : am_M} {l0 : Option Value} {a : Int32} : am_run G d K_M_name (87, [l0], .int a :: st, M) = if a = 0 then am_run G d K_M_name (100, [l0], st, M) else am_run G d K_M_name (90, [l0], st, M) := by
  split
  · next h => exact am_run_next (x := (.ifCond .eq 13, 3, 0, 0, 0, 0)) (by decide +kernel) (am_br_t (decide_eq_true h) (by decide))
  · next h => exact am_run_next (x := (.ifCond .eq 13, 3, 0, 0, 0, 0)) (by decide +kernel) (am_br_f (decide_eq_false h) (by decide))
theorem r_M_name_90 {G : Nat → Value} {d : Nat} {st : List Value} {M : am_M} {v : Value} (hv : am_isr v = true) : am_run G d K_M_name (90, [some v], st, M) = am_run G d K_M_name (91, [some v], v :: st, M) := by
  rcases am_isr_cases hv with ⟨q, rfl⟩ | rfl
  · exact am_run_next (x := (.aload_n 0, 1, 0, 0, 0, 0)) (by decide +kernel) rfl
  · exact am_run_next (x := (.aload_n 0, 1, 0, 0, 0, 0)) (by decide +kernel) rfl
theorem r_M_name_91 {G : Nat → Value} {d : Nat} {st : List Value} {M : am_M} {l0 : Option Value} {a : Nat} : am_run G d K_M_name (91, [l0], .ref a :: st, M) = am_kf G d K_M_name 94 [l0] st M (am_fld M a 10 25) := am_run_kf (x := (.getfield 59, 3, 10, 25, 5044, 0)) (by decide +kernel) rfl
theorem r_M_name_94 {G : Nat → Value} {d : Nat} {st : List Value} {M : am_M} {v : Value} (hv : am_isr v = true) : am_run G d K_M_name (94, [some v], st, M) = am_run G d K_M_name (95, [some v], v :: st, M) := by
  rcases am_isr_cases hv with ⟨q, rfl⟩ | rfl
  · exact am_run_next (x := (.aload_n 0, 1, 0, 0, 0, 0)) (by decide +kernel) rfl
  · exact am_run_next (x := (.aload_n 0, 1, 0, 0, 0, 0)) (by decide +kernel) rfl
theorem r_M_name_95 {G : Nat → Value} {d : Nat} {st : List Value} {M : am_M} {l0 : Option Value} {a : Nat} : am_run G d K_M_name (95, [l0], .ref a :: st, M) = am_kf G d K_M_name 98 [l0] st M (am_fld M a 10 37) := am_run_kf (x := (.getfield 269, 3, 10, 37, 5056, 0)) (by decide +kernel) rfl
theorem r_M_name_98 {G : Nat → Value} {d : Nat} {st : List Value} {M : am_M} {l0 : Option Value} {a : Nat} {i : Int32} : am_run G d K_M_name (98, [l0], .int i :: .ref a :: st, M) = am_kf G d K_M_name 99 [l0] st M (am_ag 0 M a i) := am_run_kf (x := (.iaload, 1, 0, 0, 0, 0)) (by decide +kernel) rfl
theorem r_M_name_99 {G : Nat → Value} {d : Nat} {M : am_M} {l0 : Option Value} {a : Int32} : am_run G d K_M_name (99, [l0], [.int a], M) = some (some (.int a), M) := am_run_ret (x := (.ireturn, 1, 0, 0, 0, 0)) (by decide +kernel) rfl
theorem r_M_name_100 {G : Nat → Value} {d : Nat} {st : List Value} {M : am_M} {v : Value} (hv : am_isr v = true) : am_run G d K_M_name (100, [some v], st, M) = am_run G d K_M_name (101, [some v], v :: st, M) := by
  rcases am_isr_cases hv with ⟨q, rfl⟩ | rfl
  · exact am_run_next (x := (.aload_n 0, 1, 0, 0, 0, 0)) (by decide +kernel) rfl
  · exact am_run_next (x := (.aload_n 0, 1, 0, 0, 0, 0)) (by decide +kernel) rfl
theorem r_M_name_101 {G : Nat → Value} {d : Nat} {st : List Value} {M : am_M} {l0 : Option Value} : am_run G d K_M_name (101, [l0], st, M) = am_run G d K_M_name (104, [l0], .long 10819228 :: st, M) := am_run_next (x := (.ldc2_w 280, 3, 0, 0, 6108, 10819228)) (by decide +kernel) rfl
theorem r_M_name_104 {G : Nat → Value} {d : Nat} {st : List Value} {M : am_M} {l0 : Option Value} {q : Nat} {a0 : Int64} (hq : am_cls M q = some 10) (h8 : am_sw st ≤ 8) : am_run G d K_M_name (104, [l0], .long a0 :: .ref q :: st, M) = am_k G d K_M_name 107 [l0] st (am_ex G d K_M_isWord [.ref q, .long a0] M) := am_run_iv (i := 265) (n := 1) (pl := 6058) (Bs := [.long a0]) (z := K_M_isWord) (by decide +kernel) hq h8 rfl (Nat.le_of_ble_eq_true rfl) rfl
theorem r_M_name_107 {G : Nat → Value} {d : Nat} {st : List Value} {M : am_M} {l0 : Option Value} {a : Int32} : am_run G d K_M_name (107, [l0], .int a :: st, M) = if a = 0 then am_run G d K_M_name (120, [l0], st, M) else am_run G d K_M_name (110, [l0], st, M) := by
  split
  · next h => exact am_run_next (x := (.ifCond .eq 13, 3, 0, 0, 0, 0)) (by decide +kernel) (am_br_t (decide_eq_true h) (by decide))
  · next h => exact am_run_next (x := (.ifCond .eq 13, 3, 0, 0, 0, 0)) (by decide +kernel) (am_br_f (decide_eq_false h) (by decide))
theorem r_M_name_110 {G : Nat → Value} {d : Nat} {st : List Value} {M : am_M} {v : Value} (hv : am_isr v = true) : am_run G d K_M_name (110, [some v], st, M) = am_run G d K_M_name (111, [some v], v :: st, M) := by
  rcases am_isr_cases hv with ⟨q, rfl⟩ | rfl
  · exact am_run_next (x := (.aload_n 0, 1, 0, 0, 0, 0)) (by decide +kernel) rfl
  · exact am_run_next (x := (.aload_n 0, 1, 0, 0, 0, 0)) (by decide +kernel) rfl
theorem r_M_name_111 {G : Nat → Value} {d : Nat} {st : List Value} {M : am_M} {l0 : Option Value} {a : Nat} : am_run G d K_M_name (111, [l0], .ref a :: st, M) = am_kf G d K_M_name 114 [l0] st M (am_fld M a 10 26) := am_run_kf (x := (.getfield 62, 3, 10, 26, 5045, 0)) (by decide +kernel) rfl
theorem r_M_name_114 {G : Nat → Value} {d : Nat} {st : List Value} {M : am_M} {v : Value} (hv : am_isr v = true) : am_run G d K_M_name (114, [some v], st, M) = am_run G d K_M_name (115, [some v], v :: st, M) := by
  rcases am_isr_cases hv with ⟨q, rfl⟩ | rfl
  · exact am_run_next (x := (.aload_n 0, 1, 0, 0, 0, 0)) (by decide +kernel) rfl
  · exact am_run_next (x := (.aload_n 0, 1, 0, 0, 0, 0)) (by decide +kernel) rfl
theorem r_M_name_115 {G : Nat → Value} {d : Nat} {st : List Value} {M : am_M} {l0 : Option Value} {a : Nat} : am_run G d K_M_name (115, [l0], .ref a :: st, M) = am_kf G d K_M_name 118 [l0] st M (am_fld M a 10 37) := am_run_kf (x := (.getfield 269, 3, 10, 37, 5056, 0)) (by decide +kernel) rfl
theorem r_M_name_118 {G : Nat → Value} {d : Nat} {st : List Value} {M : am_M} {l0 : Option Value} {a : Nat} {i : Int32} : am_run G d K_M_name (118, [l0], .int i :: .ref a :: st, M) = am_kf G d K_M_name 119 [l0] st M (am_ag 0 M a i) := am_run_kf (x := (.iaload, 1, 0, 0, 0, 0)) (by decide +kernel) rfl
theorem r_M_name_119 {G : Nat → Value} {d : Nat} {M : am_M} {l0 : Option Value} {a : Int32} : am_run G d K_M_name (119, [l0], [.int a], M) = some (some (.int a), M) := am_run_ret (x := (.ireturn, 1, 0, 0, 0, 0)) (by decide +kernel) rfl
theorem r_M_name_120 {G : Nat → Value} {d : Nat} {st : List Value} {M : am_M} {v : Value} (hv : am_isr v = true) : am_run G d K_M_name (120, [some v], st, M) = am_run G d K_M_name (121, [some v], v :: st, M) := by
  rcases am_isr_cases hv with ⟨q, rfl⟩ | rfl
  · exact am_run_next (x := (.aload_n 0, 1, 0, 0, 0, 0)) (by decide +kernel) rfl
  · exact am_run_next (x := (.aload_n 0, 1, 0, 0, 0, 0)) (by decide +kernel) rfl
theorem r_M_name_121 {G : Nat → Value} {d : Nat} {st : List Value} {M : am_M} {l0 : Option Value} {q : Nat} (hq : am_cls M q = some 10) (h8 : am_sw st ≤ 8) : am_run G d K_M_name (121, [l0], .ref q :: st, M) = am_k G d K_M_name 124 [l0] st (am_ex G d K_M_fail [.ref q] M) := am_run_iv (i := 257) (n := 0) (pl := 6062) (Bs := []) (z := K_M_fail) (by decide +kernel) hq h8 rfl (Nat.le_of_ble_eq_true rfl) rfl
theorem r_M_name_124 {G : Nat → Value} {d : Nat} {st : List Value} {M : am_M} {l0 : Option Value} : am_run G d K_M_name (124, [l0], st, M) = am_run G d K_M_name (125, [l0], .int 0 :: st, M) := am_run_next (x := (.iconst 0, 1, 0, 0, 0, 0)) (by decide +kernel) rfl
theorem r_M_name_125 {G : Nat → Value} {d : Nat} {M : am_M} {l0 : Option Value} {a : Int32} : am_run G d K_M_name (125, [l0], [.int a], M) = some (some (.int a), M) := am_run_ret (x := (.ireturn, 1, 0, 0, 0, 0)) (by decide +kernel) rfl
theorem r_M_dueOf_0 {G : Nat → Value} {d : Nat} {st : List Value} {M : am_M} {l1 : Option Value} {v : Value} (hv : am_isr v = true) : am_run G d K_M_dueOf (0, [some v, l1], st, M) = am_run G d K_M_dueOf (1, [some v, l1], v :: st, M) := by
  rcases am_isr_cases hv with ⟨q, rfl⟩ | rfl
  · exact am_run_next (x := (.aload_n 0, 1, 0, 0, 0, 0)) (by decide +kernel) rfl
  · exact am_run_next (x := (.aload_n 0, 1, 0, 0, 0, 0)) (by decide +kernel) rfl
theorem r_M_dueOf_1 {G : Nat → Value} {d : Nat} {st : List Value} {M : am_M} {l0 l1 : Option Value} {a : Nat} : am_run G d K_M_dueOf (1, [l0, l1], .ref a :: st, M) = am_kf G d K_M_dueOf 4 [l0, l1] st M (am_fld M a 10 14) := am_run_kf (x := (.getfield 29, 3, 10, 14, 5033, 0)) (by decide +kernel) rfl
theorem r_M_dueOf_4 {G : Nat → Value} {d : Nat} {st : List Value} {M : am_M} {l1 : Option Value} {v : Value} (hv : am_isr v = true) : am_run G d K_M_dueOf (4, [some v, l1], st, M) = am_run G d K_M_dueOf (5, [some v, l1], v :: st, M) := by
  rcases am_isr_cases hv with ⟨q, rfl⟩ | rfl
  · exact am_run_next (x := (.aload_n 0, 1, 0, 0, 0, 0)) (by decide +kernel) rfl
  · exact am_run_next (x := (.aload_n 0, 1, 0, 0, 0, 0)) (by decide +kernel) rfl
theorem r_M_dueOf_5 {G : Nat → Value} {d : Nat} {st : List Value} {M : am_M} {l0 l1 : Option Value} {a : Nat} : am_run G d K_M_dueOf (5, [l0, l1], .ref a :: st, M) = am_kf G d K_M_dueOf 8 [l0, l1] st M (am_fld M a 10 22) := am_run_kf (x := (.getfield 50, 3, 10, 22, 5041, 0)) (by decide +kernel) rfl
theorem r_M_dueOf_8 {G : Nat → Value} {d : Nat} {st : List Value} {M : am_M} {l0 : Option Value} {v : Int32} : am_run G d K_M_dueOf (8, [l0, some (.int v)], st, M) = am_run G d K_M_dueOf (9, [l0, some (.int v)], .int v :: st, M) := am_run_next (x := (.iload_n 1, 1, 0, 0, 0, 0)) (by decide +kernel) rfl
theorem r_M_dueOf_9 {G : Nat → Value} {d : Nat} {st : List Value} {M : am_M} {l0 l1 : Option Value} {a : Nat} {i : Int32} : am_run G d K_M_dueOf (9, [l0, l1], .int i :: .ref a :: st, M) = am_kf G d K_M_dueOf 10 [l0, l1] st M (am_ag 0 M a i) := am_run_kf (x := (.iaload, 1, 0, 0, 0, 0)) (by decide +kernel) rfl
theorem r_M_dueOf_10 {G : Nat → Value} {d : Nat} {st : List Value} {M : am_M} {l0 l1 : Option Value} {a : Nat} {i : Int32} : am_run G d K_M_dueOf (10, [l0, l1], .int i :: .ref a :: st, M) = am_kf G d K_M_dueOf 11 [l0, l1] st M (am_ag 0 M a i) := am_run_kf (x := (.iaload, 1, 0, 0, 0, 0)) (by decide +kernel) rfl
theorem r_M_dueOf_11 {G : Nat → Value} {d : Nat} {st : List Value} {M : am_M} {l0 l1 : Option Value} {a : Int32} : am_run G d K_M_dueOf (11, [l0, l1], .int a :: st, M) = am_run G d K_M_dueOf (12, [l0, l1], .long a.toInt64 :: st, M) := am_run_next (x := (.i2l, 1, 0, 0, 0, 0)) (by decide +kernel) rfl
theorem r_M_dueOf_12 {G : Nat → Value} {d : Nat} {st : List Value} {M : am_M} {l1 : Option Value} {v : Value} (hv : am_isr v = true) : am_run G d K_M_dueOf (12, [some v, l1], st, M) = am_run G d K_M_dueOf (13, [some v, l1], v :: st, M) := by
  rcases am_isr_cases hv with ⟨q, rfl⟩ | rfl
  · exact am_run_next (x := (.aload_n 0, 1, 0, 0, 0, 0)) (by decide +kernel) rfl
  · exact am_run_next (x := (.aload_n 0, 1, 0, 0, 0, 0)) (by decide +kernel) rfl
theorem r_M_dueOf_13 {G : Nat → Value} {d : Nat} {st : List Value} {M : am_M} {l0 l1 : Option Value} {a : Nat} : am_run G d K_M_dueOf (13, [l0, l1], .ref a :: st, M) = am_kf G d K_M_dueOf 16 [l0, l1] st M (am_fld M a 10 7) := am_run_kf (x := (.getfield 111, 3, 10, 7, 5026, 0)) (by decide +kernel) rfl
theorem r_M_dueOf_16 {G : Nat → Value} {d : Nat} {st : List Value} {M : am_M} {l0 l1 : Option Value} {a : Int32} : am_run G d K_M_dueOf (16, [l0, l1], .int a :: st, M) = am_run G d K_M_dueOf (17, [l0, l1], .long a.toInt64 :: st, M) := am_run_next (x := (.i2l, 1, 0, 0, 0, 0)) (by decide +kernel) rfl
theorem r_M_dueOf_17 {G : Nat → Value} {d : Nat} {st : List Value} {M : am_M} {l1 : Option Value} {v : Value} (hv : am_isr v = true) : am_run G d K_M_dueOf (17, [some v, l1], st, M) = am_run G d K_M_dueOf (18, [some v, l1], v :: st, M) := by
  rcases am_isr_cases hv with ⟨q, rfl⟩ | rfl
  · exact am_run_next (x := (.aload_n 0, 1, 0, 0, 0, 0)) (by decide +kernel) rfl
  · exact am_run_next (x := (.aload_n 0, 1, 0, 0, 0, 0)) (by decide +kernel) rfl
theorem r_M_dueOf_18 {G : Nat → Value} {d : Nat} {st : List Value} {M : am_M} {l1 : Option Value} {v : Value} (hv : am_isr v = true) : am_run G d K_M_dueOf (18, [some v, l1], st, M) = am_run G d K_M_dueOf (19, [some v, l1], v :: st, M) := by
  rcases am_isr_cases hv with ⟨q, rfl⟩ | rfl
  · exact am_run_next (x := (.aload_n 0, 1, 0, 0, 0, 0)) (by decide +kernel) rfl
  · exact am_run_next (x := (.aload_n 0, 1, 0, 0, 0, 0)) (by decide +kernel) rfl
theorem r_M_dueOf_19 {G : Nat → Value} {d : Nat} {st : List Value} {M : am_M} {l0 l1 : Option Value} {a : Nat} : am_run G d K_M_dueOf (19, [l0, l1], .ref a :: st, M) = am_kf G d K_M_dueOf 22 [l0, l1] st M (am_fld M a 10 22) := am_run_kf (x := (.getfield 50, 3, 10, 22, 5041, 0)) (by decide +kernel) rfl
theorem r_M_dueOf_22 {G : Nat → Value} {d : Nat} {st : List Value} {M : am_M} {l0 : Option Value} {v : Int32} : am_run G d K_M_dueOf (22, [l0, some (.int v)], st, M) = am_run G d K_M_dueOf (23, [l0, some (.int v)], .int v :: st, M) := am_run_next (x := (.iload_n 1, 1, 0, 0, 0, 0)) (by decide +kernel) rfl
theorem r_M_dueOf_23 {G : Nat → Value} {d : Nat} {st : List Value} {M : am_M} {l0 l1 : Option Value} {a : Nat} {i : Int32} : am_run G d K_M_dueOf (23, [l0, l1], .int i :: .ref a :: st, M) = am_kf G d K_M_dueOf 24 [l0, l1] st M (am_ag 0 M a i) := am_run_kf (x := (.iaload, 1, 0, 0, 0, 0)) (by decide +kernel) rfl
theorem r_M_dueOf_24 {G : Nat → Value} {d : Nat} {st : List Value} {M : am_M} {l1 : Option Value} {v : Value} (hv : am_isr v = true) : am_run G d K_M_dueOf (24, [some v, l1], st, M) = am_run G d K_M_dueOf (25, [some v, l1], v :: st, M) := by
  rcases am_isr_cases hv with ⟨q, rfl⟩ | rfl
  · exact am_run_next (x := (.aload_n 0, 1, 0, 0, 0, 0)) (by decide +kernel) rfl
  · exact am_run_next (x := (.aload_n 0, 1, 0, 0, 0, 0)) (by decide +kernel) rfl
theorem r_M_dueOf_25 {G : Nat → Value} {d : Nat} {st : List Value} {M : am_M} {l0 l1 : Option Value} {a : Nat} : am_run G d K_M_dueOf (25, [l0, l1], .ref a :: st, M) = am_kf G d K_M_dueOf 28 [l0, l1] st M (am_fld M a 10 23) := am_run_kf (x := (.getfield 53, 3, 10, 23, 5042, 0)) (by decide +kernel) rfl
theorem r_M_dueOf_28 {G : Nat → Value} {d : Nat} {st : List Value} {M : am_M} {l0 : Option Value} {v : Int32} : am_run G d K_M_dueOf (28, [l0, some (.int v)], st, M) = am_run G d K_M_dueOf (29, [l0, some (.int v)], .int v :: st, M) := am_run_next (x := (.iload_n 1, 1, 0, 0, 0, 0)) (by decide +kernel) rfl
theorem r_M_dueOf_29 {G : Nat → Value} {d : Nat} {st : List Value} {M : am_M} {l0 l1 : Option Value} {a : Nat} {i : Int32} : am_run G d K_M_dueOf (29, [l0, l1], .int i :: .ref a :: st, M) = am_kf G d K_M_dueOf 30 [l0, l1] st M (am_ag 0 M a i) := am_run_kf (x := (.iaload, 1, 0, 0, 0, 0)) (by decide +kernel) rfl
theorem r_M_dueOf_30 {G : Nat → Value} {d : Nat} {st : List Value} {M : am_M} {l0 l1 : Option Value} {q : Nat} {a0 : Int32} {a1 : Int32} (hq : am_cls M q = some 10) (h8 : am_sw st ≤ 8) : am_run G d K_M_dueOf (30, [l0, l1], .int a1 :: .int a0 :: .ref q :: st, M) = am_k G d K_M_dueOf 33 [l0, l1] st (am_ex G d K_M_eatenIn [.ref q, .int a0, .int a1] M) := am_run_iv (i := 162) (n := 2) (pl := 5239) (Bs := [.int a0, .int a1]) (z := K_M_eatenIn) (by decide +kernel) hq h8 rfl (Nat.le_of_ble_eq_true rfl) rfl
theorem r_M_dueOf_33 {G : Nat → Value} {d : Nat} {st : List Value} {M : am_M} {l1 : Option Value} {v : Value} (hv : am_isr v = true) : am_run G d K_M_dueOf (33, [some v, l1], st, M) = am_run G d K_M_dueOf (34, [some v, l1], v :: st, M) := by
  rcases am_isr_cases hv with ⟨q, rfl⟩ | rfl
  · exact am_run_next (x := (.aload_n 0, 1, 0, 0, 0, 0)) (by decide +kernel) rfl
  · exact am_run_next (x := (.aload_n 0, 1, 0, 0, 0, 0)) (by decide +kernel) rfl
theorem r_M_dueOf_34 {G : Nat → Value} {d : Nat} {st : List Value} {M : am_M} {l0 : Option Value} {v : Int32} : am_run G d K_M_dueOf (34, [l0, some (.int v)], st, M) = am_run G d K_M_dueOf (35, [l0, some (.int v)], .int v :: st, M) := am_run_next (x := (.iload_n 1, 1, 0, 0, 0, 0)) (by decide +kernel) rfl
theorem r_M_dueOf_35 {G : Nat → Value} {d : Nat} {st : List Value} {M : am_M} {l1 : Option Value} {v : Value} (hv : am_isr v = true) : am_run G d K_M_dueOf (35, [some v, l1], st, M) = am_run G d K_M_dueOf (36, [some v, l1], v :: st, M) := by
  rcases am_isr_cases hv with ⟨q, rfl⟩ | rfl
  · exact am_run_next (x := (.aload_n 0, 1, 0, 0, 0, 0)) (by decide +kernel) rfl
  · exact am_run_next (x := (.aload_n 0, 1, 0, 0, 0, 0)) (by decide +kernel) rfl
theorem r_M_dueOf_36 {G : Nat → Value} {d : Nat} {st : List Value} {M : am_M} {l0 l1 : Option Value} {a : Nat} : am_run G d K_M_dueOf (36, [l0, l1], .ref a :: st, M) = am_kf G d K_M_dueOf 39 [l0, l1] st M (am_fld M a 10 8) := am_run_kf (x := (.getfield 114, 3, 10, 8, 5027, 0)) (by decide +kernel) rfl
theorem r_M_dueOf_39 {G : Nat → Value} {d : Nat} {st : List Value} {M : am_M} {l0 l1 : Option Value} {q : Nat} {a0 : Int32} {a1 : Int32} (hq : am_cls M q = some 10) (h8 : am_sw st ≤ 8) : am_run G d K_M_dueOf (39, [l0, l1], .int a1 :: .int a0 :: .ref q :: st, M) = am_k G d K_M_dueOf 42 [l0, l1] st (am_ex G d K_M_moreBy [.ref q, .int a0, .int a1] M) := am_run_iv (i := 187) (n := 2) (pl := 6025) (Bs := [.int a0, .int a1]) (z := K_M_moreBy) (by decide +kernel) hq h8 rfl (Nat.le_of_ble_eq_true rfl) rfl
theorem r_M_dueOf_42 {G : Nat → Value} {d : Nat} {st : List Value} {M : am_M} {l0 l1 : Option Value} {a b : Int64} : am_run G d K_M_dueOf (42, [l0, l1], .long b :: .long a :: st, M) = am_run G d K_M_dueOf (43, [l0, l1], .long (a + b) :: st, M) := am_run_next (x := (.ladd, 1, 0, 0, 0, 0)) (by decide +kernel) rfl
theorem r_M_dueOf_43 {G : Nat → Value} {d : Nat} {st : List Value} {M : am_M} {l0 l1 : Option Value} {a0 : Int64} {a1 : Int64} {a2 : Int64} (h8 : am_sw st ≤ 8) : am_run G d K_M_dueOf (43, [l0, l1], .long a2 :: .long a1 :: .long a0 :: st, M) = am_k G d K_M_dueOf 46 [l0, l1] st (am_ex G d K_M_timeBy [.long a0, .long a1, .long a2] M) := am_run_is (i := 166) (n := 3) (pl := 6004) (Bs := [.long a0, .long a1, .long a2]) (z := K_M_timeBy) (v := 1) (by decide) (by decide) (by decide +kernel) h8 rfl (Nat.le_of_ble_eq_true rfl) rfl
theorem r_M_dueOf_46 {G : Nat → Value} {d : Nat} {st : List Value} {M : am_M} {l1 : Option Value} {v : Value} (hv : am_isr v = true) : am_run G d K_M_dueOf (46, [some v, l1], st, M) = am_run G d K_M_dueOf (47, [some v, l1], v :: st, M) := by
  rcases am_isr_cases hv with ⟨q, rfl⟩ | rfl
  · exact am_run_next (x := (.aload_n 0, 1, 0, 0, 0, 0)) (by decide +kernel) rfl
  · exact am_run_next (x := (.aload_n 0, 1, 0, 0, 0, 0)) (by decide +kernel) rfl
theorem r_M_dueOf_47 {G : Nat → Value} {d : Nat} {st : List Value} {M : am_M} {l0 : Option Value} {v : Int32} : am_run G d K_M_dueOf (47, [l0, some (.int v)], st, M) = am_run G d K_M_dueOf (48, [l0, some (.int v)], .int v :: st, M) := am_run_next (x := (.iload_n 1, 1, 0, 0, 0, 0)) (by decide +kernel) rfl
theorem r_M_dueOf_48 {G : Nat → Value} {d : Nat} {st : List Value} {M : am_M} {l0 l1 : Option Value} {q : Nat} {a0 : Int32} (hq : am_cls M q = some 10) (h8 : am_sw st ≤ 8) : am_run G d K_M_dueOf (48, [l0, l1], .int a0 :: .ref q :: st, M) = am_k G d K_M_dueOf 51 [l0, l1] st (am_ex G d K_M_lateOf [.ref q, .int a0] M) := am_run_iv (i := 190) (n := 1) (pl := 6029) (Bs := [.int a0]) (z := K_M_lateOf) (by decide +kernel) hq h8 rfl (Nat.le_of_ble_eq_true rfl) rfl
theorem r_M_dueOf_51 {G : Nat → Value} {d : Nat} {st : List Value} {M : am_M} {l0 l1 : Option Value} {a : Int32} : am_run G d K_M_dueOf (51, [l0, l1], .int a :: st, M) = am_run G d K_M_dueOf (52, [l0, l1], .long a.toInt64 :: st, M) := am_run_next (x := (.i2l, 1, 0, 0, 0, 0)) (by decide +kernel) rfl
theorem r_M_dueOf_52 {G : Nat → Value} {d : Nat} {st : List Value} {M : am_M} {l0 l1 : Option Value} {a b : Int64} : am_run G d K_M_dueOf (52, [l0, l1], .long b :: .long a :: st, M) = am_run G d K_M_dueOf (53, [l0, l1], .long (a + b) :: st, M) := am_run_next (x := (.ladd, 1, 0, 0, 0, 0)) (by decide +kernel) rfl
theorem r_M_dueOf_53 {G : Nat → Value} {d : Nat} {M : am_M} {l0 l1 : Option Value} {a : Int64} : am_run G d K_M_dueOf (53, [l0, l1], [.long a], M) = some (some (.long a), M) := am_run_ret (x := (.lreturn, 1, 0, 0, 0, 0)) (by decide +kernel) rfl
