/-! words of the tables: classes, arrays, members of the JDK -/
def am_lp : List (List Nat) := [[4069, 4071, 4073, 4075, 4077, 4079, 4081, 4083, 4085], [4118, 4120, 4122, 4124, 4126, 4128], [2223, 2225, 2227, 2229, 2231, 2233, 2235, 2237], [3087, 3089, 3091, 3093, 3095, 3097, 3099], [2117, 2119, 2121], [1099, 1101, 1103, 1105, 1107, 1109, 1111, 1113, 1115, 1117, 1119], [2195, 2197], [1056, 1058, 1060, 1062, 1064, 1066, 1068, 1070, 1072], [2098, 2100, 2102], [2142, 2144, 2146, 2148, 2150, 2152, 2154, 2156, 2158, 2160, 2162, 2164, 2166, 2168, 2170, 2172, 2174, 2176], [5077, 5079, 5081, 5083, 5085, 5087, 5089, 5091, 5093, 5095, 5097, 5099, 5101, 5103, 5105, 5107, 5109, 5111, 5113, 5115, 5117, 5119, 5121, 5123, 5125, 5127, 5129, 5131, 5133, 5135, 5137, 5139, 5141, 5143, 5145, 5147, 5149, 5151, 5153, 5155, 5157, 5159, 5161, 5163, 5165, 5167, 5169, 5171, 5173, 5175, 5177, 5179, 5181, 5183, 5185, 5187, 5189, 5191]]
theorem am_lp_ok : (List.range 11).all (fun ci => (List.range (am_nf ci)).all (fun k => am_word ((am_lp.getD ci []).getD k 0) (u_lay (am_nm ci) (am_T ci) k))) = true := by decide +kernel
theorem am_c_in {ci : Nat} (h : ci < 11) : ∀ w ∈ u_ws (am_nm ci) (am_T ci) (am_nf ci), w ∈ lw_tbl := by
  intro w hw
  unfold u_ws at hw
  obtain ⟨k, hk, rfl⟩ := List.mem_map.mp hw
  exact am_word_in (List.all_eq_true.mp (List.all_eq_true.mp am_lp_ok ci (List.mem_range.mpr h)) k hk)
theorem am_ty_ok : (List.range 11).all (fun ci => (List.range (am_nf ci)).all (fun k => decide (parseFieldDescriptor (am_fl ci k).2.1 = some (am_fty ci k)))) = true := by decide +kernel
theorem am_c_ty {ci : Nat} (h : ci < 11) : ∀ k, k < am_nf ci → parseFieldDescriptor (am_T ci k).2.2.1 = some (am_fty ci k) := fun k hk => of_decide_eq_true (List.all_eq_true.mp (List.all_eq_true.mp am_ty_ok ci (List.mem_range.mpr h)) k (List.mem_range.mpr hk))
theorem am_nm_ok : (List.range 11).all (fun ci => (List.range (am_nf ci)).all (fun a => (List.range (am_nf ci)).all (fun b => decide (a ≠ b → (am_fl ci a).1 ≠ (am_fl ci b).1)))) = true := by decide +kernel
theorem am_c_nm {ci : Nat} (h : ci < 11) : ∀ a, a < am_nf ci → ∀ b, b < am_nf ci → a ≠ b → (am_T ci a).2.1 ≠ (am_T ci b).2.1 := fun a ha b hb => of_decide_eq_true (List.all_eq_true.mp (List.all_eq_true.mp (List.all_eq_true.mp am_nm_ok ci (List.mem_range.mpr h)) a (List.mem_range.mpr ha)) b (List.mem_range.mpr hb))
def am_ip : List (Nat × Nat) := [(4047, 1019), (4107, 1020), (2205, 1016), (3066, 1017), (2106, 1013), (1077, 1003), (2187, 1015), (1040, 1002), (2089, 1012), (1022, 1001), (5005, 1014)]
theorem am_ip_ok : (List.range 11).all (fun ci => am_word (am_ip.getD ci (0, 0)).1 (.instantiable (am_nm ci) (am_nf ci)) && am_word (am_ip.getD ci (0, 0)).2 (.initialized (am_nm ci))) = true := by decide +kernel
theorem am_c_is {ci : Nat} (h : ci < 11) : Jvm.Cond.instantiable (am_nm ci) (am_nf ci) ∈ lw_tbl ∧ Jvm.Cond.initialized (am_nm ci) ∈ lw_tbl := by
  have h1 := List.all_eq_true.mp am_ip_ok ci (List.mem_range.mpr h)
  rw [Bool.and_eq_true] at h1
  exact ⟨am_word_in h1.1, am_word_in h1.2⟩
theorem am_x_ac_int : (.arrayClass .int : Jvm.Cond) ∈ lw_tbl := am_word_in (i := 1075) (by decide +kernel)
theorem am_x_ac_long : (.arrayClass .long : Jvm.Cond) ∈ lw_tbl := am_word_in (i := 1122) (by decide +kernel)
theorem am_x_ac_boolean : (.arrayClass .boolean : Jvm.Cond) ∈ lw_tbl := am_word_in (i := 5194) (by decide +kernel)
theorem am_x_ao_2 : (.arrayOver (.object (am_nm 2)) : Jvm.Cond) ∈ lw_tbl := am_word_in (i := 1032) (by decide +kernel)
theorem am_x_ao_3 : (.arrayOver (.object (am_nm 3)) : Jvm.Cond) ∈ lw_tbl := am_word_in (i := 1034) (by decide +kernel)
theorem am_x_ao_4 : (.arrayOver (.object (am_nm 4)) : Jvm.Cond) ∈ lw_tbl := am_word_in (i := 1038) (by decide +kernel)
theorem am_x_ao_6 : (.arrayOver (.object (am_nm 6)) : Jvm.Cond) ∈ lw_tbl := am_word_in (i := 1030) (by decide +kernel)
theorem am_x_ao_8 : (.arrayOver (.object (am_nm 8)) : Jvm.Cond) ∈ lw_tbl := am_word_in (i := 1036) (by decide +kernel)
theorem am_x_acn : (.native arraycopyName : Jvm.Cond) ∈ lw_tbl := am_word_in (i := 2087) (by decide +kernel)
theorem am_x_acs : (.static arraycopyName : Jvm.Cond) ∈ lw_tbl := am_word_in (i := 2086) (by decide +kernel)
theorem am_x_isy : (.initialized "java/lang/System" : Jvm.Cond) ∈ lw_tbl := am_word_in (i := 1011) (by decide +kernel)
theorem am_x_ima : (.initialized "java/lang/Math" : Jvm.Cond) ∈ lw_tbl := am_word_in (i := 1008) (by decide +kernel)
theorem am_x_ms_max : (.static Lib.Math.max.name : Jvm.Cond) ∈ lw_tbl := am_word_in (i := 1239) (by decide +kernel)
theorem am_x_mc_max : (.code Lib.Math.max.name Lib.Math.max.code 2 (some .int) : Jvm.Cond) ∈ lw_tbl := am_word_in (i := 2000) (by decide +kernel)
theorem am_x_ms_min : (.static Lib.Math.min.name : Jvm.Cond) ∈ lw_tbl := am_word_in (i := 2002) (by decide +kernel)
theorem am_x_mc_min : (.code Lib.Math.min.name Lib.Math.min.code 2 (some .int) : Jvm.Cond) ∈ lw_tbl := am_word_in (i := 2003) (by decide +kernel)
theorem am_x_ms_maxl : (.static Lib.MathLoose.max_long.x : Jvm.Cond) ∈ lw_tbl := am_word_in (i := 3233) (by decide +kernel)
theorem am_x_mc_maxl : (.code Lib.MathLoose.max_long.x Lib.MathLoose.max_long.code 4 (some .long) : Jvm.Cond) ∈ lw_tbl := am_word_in (i := 3234) (by decide +kernel)
theorem am_x_ms_minl : (.static Lib.MathLoose.min_long.x : Jvm.Cond) ∈ lw_tbl := am_word_in (i := 4001) (by decide +kernel)
theorem am_x_mc_minl : (.code Lib.MathLoose.min_long.x Lib.MathLoose.min_long.code 4 (some .long) : Jvm.Cond) ∈ lw_tbl := am_word_in (i := 4002) (by decide +kernel)
theorem am_x_ms_absl : (.static Lib.MathLoose.abs_long.x : Jvm.Cond) ∈ lw_tbl := am_word_in (i := 3210) (by decide +kernel)
theorem am_x_mc_absl : (.code Lib.MathLoose.abs_long.x Lib.MathLoose.abs_long.code 2 (some .long) : Jvm.Cond) ∈ lw_tbl := am_word_in (i := 3211) (by decide +kernel)
theorem am_x_oi : (.instanceMethod Lib.objectInit : Jvm.Cond) ∈ lw_tbl := am_word_in (i := 1027) (by decide +kernel)
theorem am_x_oc : (.code Lib.objectInit ⟨#[0xb1]⟩ 1 none : Jvm.Cond) ∈ lw_tbl := am_word_in (i := 1028) (by decide +kernel)
