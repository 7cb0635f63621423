/-! the start: constants, the script, the first memory -/
def am_ln : List Nat := [33, 4, 4, 5, 4, 4, 5, 4, 5, 2, 3, 3, 8]
def am_by : List (List Int32) := [[108, 97, 116, 101, 32, 116, 105, 114, 101, 100, 32, 42, 32, 50, 32, 59, 32, 108, 101, 97, 118, 101, 32, 116, 105, 109, 101, 32, 61, 32, 48, 32, 59], [107, 105, 110, 100], [104, 97, 108, 108], [112, 105, 116, 99, 104], [109, 97, 110, 121], [116, 105, 109, 101], [116, 105, 114, 101, 100], [108, 97, 116, 101], [108, 101, 97, 118, 101], [111, 114], [97, 110, 100], [110, 111, 116], [40, 41, 59, 43, 45, 42, 60, 61]]
def am_tm (i : Nat) : Jvm.Term := match i with
  | 0 => .string "CushionHall" 67
  | 1 => .string "CushionHall$Tape" 120
  | 2 => .string "CushionHall$Tape" 122
  | 3 => .string "CushionHall$Tape" 124
  | 4 => .string "CushionHall$Tape" 126
  | 5 => .string "CushionHall$Tape" 128
  | 6 => .string "CushionHall$Tape" 130
  | 7 => .string "CushionHall$Tape" 132
  | 8 => .string "CushionHall$Tape" 134
  | 9 => .string "CushionHall$Tape" 136
  | 10 => .string "CushionHall$Tape" 138
  | 11 => .string "CushionHall$Tape" 140
  | _ => .string "CushionHall$Tape" 97
def am_flat : List Jvm.Cond := flatC (Jvm.Cond.and given_1 narrow_1)
theorem am_f_ex : (List.range 13).all (fun i => decide (Jvm.Cond.exactly (am_tm i) "java/lang/String" ∈ am_flat)) = true := by decide +kernel
theorem am_f_co : (List.range 13).all (fun i => decide (Jvm.Cond.eq (.field (am_tm i) "java/lang/String" "coder" "B") (.int 0) ∈ am_flat)) = true := by decide +kernel
theorem am_f_ar : (List.range 13).all (fun i => decide (Jvm.Cond.arrayOf (.field (am_tm i) "java/lang/String" "value" "[B") .byte ∈ am_flat)) = true := by decide +kernel
theorem am_f_le : (List.range 13).all (fun i => decide (Jvm.Cond.eq (.length (.field (am_tm i) "java/lang/String" "value" "[B")) (.int (Int32.ofNat (am_ln.getD i 0))) ∈ am_flat)) = true := by decide +kernel
theorem am_f_el : (List.range 13).all (fun i => (List.range (am_ln.getD i 0)).all (fun j => decide (Jvm.Cond.eq (.elem (.field (am_tm i) "java/lang/String" "value" "[B") (.int (Int32.ofNat j))) (.int ((am_by.getD i []).getD j 0)) ∈ am_flat))) = true := by decide +kernel
theorem am_f_sr : (List.range 13).all (fun i => match am_strs[i]? with
    | some q => decide (q.2.2.1 = 10 + i) && (decide (am_tm i = .string q.1 q.2.1) && am_word ([1123, 1198, 1199, 1200, 1201, 1202, 1203, 1204, 1205, 1206, 1207, 1208, 1222].getD i 0) (.stringRef q.1 q.2.1 q.2.2.2))
    | none => false) = true := by decide +kernel
theorem am_by_inj : (List.range 13).all (fun i => (List.range 13).all (fun j => decide (am_by.getD i [] = am_by.getD j [] → i = j))) = true := by decide +kernel
theorem am_by_len : (List.range 13).all (fun i => decide ((am_by.getD i []).length = am_ln.getD i 0 ∧ am_ln.getD i 0 < 100)) = true := by decide +kernel
theorem am_f_un : (List.range 6).all (fun j => decide (Jvm.Cond.eq (.elem (.static "CushionHall" "UNDER" "[I") (.int (Int32.ofNat j))) (.int (([-1, 0, 0, 1, 1, 2] : List Int32).getD j 0)) ∈ am_flat)) = true := by decide +kernel
theorem am_f_u1 : Jvm.Cond.arrayOf (.static "CushionHall" "UNDER" "[I") .int ∈ am_flat := by decide +kernel
theorem am_f_u2 : Jvm.Cond.eq (.length (.static "CushionHall" "UNDER" "[I")) (.int 6) ∈ am_flat := by decide +kernel
theorem am_f_c : Jvm.Cond.eq (.static "java/lang/String" "COMPACT_STRINGS" "Z") (.int 1) ∈ am_flat := by decide +kernel
theorem am_f_s : Jvm.Cond.isRef (.static "jdk/internal/util/Preconditions" "SIOOBE_FORMATTER" "Ljava/util/function/BiFunction;") ∈ am_flat := by decide +kernel
theorem am_x_ls0 : (Jvm.Cond.laysStatic "CushionHall" "UNDER" "[I") ∈ lw_tbl := am_word_in (i := 5003) (by decide +kernel)
theorem am_x_li0 : (Jvm.Cond.initialized "CushionHall") ∈ lw_tbl := am_word_in (i := 1001) (by decide +kernel)
theorem am_x_ls1 : (Jvm.Cond.laysStatic "java/lang/String" "COMPACT_STRINGS" "Z") ∈ lw_tbl := am_word_in (i := 1133) (by decide +kernel)
theorem am_x_li1 : (Jvm.Cond.initialized "java/lang/String") ∈ lw_tbl := am_word_in (i := 1004) (by decide +kernel)
theorem am_x_ls2 : (Jvm.Cond.laysStatic "jdk/internal/util/Preconditions" "SIOOBE_FORMATTER" "Ljava/util/function/BiFunction;") ∈ lw_tbl := am_word_in (i := 1149) (by decide +kernel)
theorem am_x_li2 : (Jvm.Cond.initialized "jdk/internal/util/Preconditions") ∈ lw_tbl := am_word_in (i := 1006) (by decide +kernel)
/-- words in which no argument is named -/
def am_nt (w : Jvm.Cond) : Bool := match w with
  | .initialized _ | .classLink _ _ _ | .instantiable _ _ | .methodLink _ _ _ | .instanceMethod _ | .code _ _ _ _ | .arrayOver _ | .methodLinkNest _ _ _ _ | .fieldLink _ _ _ _ _ | .fieldLinkNest _ _ _ _ _ _ | .laysFinal _ _ _ _ | .soleField _ _ | .lays _ _ _ _ | .superclass _ _ | .arrayClass _ | .stringRef _ _ _ | .selects _ _ _ | .laysStatic _ _ _ | .static _ | .privateMethod _ | .constant _ _ _ | .sameMethod _ _ _ _ | .native _ | .castable _ _ | .constantLong _ _ _ => true
  | _ => false
theorem am_nt_before {w : Jvm.Cond} (h : am_nt w = true) {A A' : Array Value} {s : State} (hb : w.before A s = true) : w.before A' s = true := by
  cases w
  all_goals first | exact hb | (simp [am_nt] at h; done)
set_option maxRecDepth 100000 in
theorem am_ntT : (List.range 8).all (fun j => (am_tab j).all am_nt) = true := by decide +kernel
theorem am_on {w : Jvm.Cond} (h : w ∈ lw_tbl) : am_nt w = true := by
  have h : w ∈ k2_sels lw_privs ++ (tables_1_1 ++ (tables_1_2 ++ (tables_1_3 ++ (tables_1_4 ++ (tables_1_5 ++ (tables_1_6 ++ tables_1_7)))))) := h
  simp only [List.mem_append] at h
  have key : ∀ j, j < 8 → ∀ w ∈ am_tab j, am_nt w = true := fun j hj w hw => List.all_eq_true.mp (List.all_eq_true.mp am_ntT j (List.mem_range.mpr hj)) w hw
  rcases h with h | h | h | h | h | h | h | h
  · exact key 0 (by decide) w h
  · exact key 1 (by decide) w h
  · exact key 2 (by decide) w h
  · exact key 3 (by decide) w h
  · exact key 4 (by decide) w h
  · exact key 5 (by decide) w h
  · exact key 6 (by decide) w h
  · exact key 7 (by decide) w h
def am_und (j : Nat) : Int32 := ([-1, 0, 0, 1, 1, 2] : List Int32).getD j 0
def am_bf (i j : Nat) : Int32 := (am_by.getD i []).getD j 0
/-- an int array's cell holds ints alone -/
theorem am_fit_int {s : State} (hf : heapFits s = true) {a : Nat} {cell : Cell} (hc : s.heap[a]? = some cell) (hk : s.isArrayOf cell .int ∨ s.isArrayOf cell .byte) {i : Nat} {v : Value} (hv : cell.slots[i]? = some v) : ∃ x, v = .int x := by
  obtain ⟨hlt, hget⟩ := Array.getElem?_eq_some_iff.mp hc
  have h1 : cellFits s cell = true := by
    have := Array.all_eq_true.mp hf a hlt
    rw [hget] at this
    exact this
  have hi : i < cell.slots.size := (Array.getElem?_eq_some_iff.mp hv).1
  have h2 := List.all_eq_true.mp h1 i (List.mem_range.mpr hi)
  rw [hv] at h2
  have h2 : s.fitsSlot cell.cls cell.vm i v = true := h2
  have key : ∀ ty : FieldType, s.isArrayOf cell ty → fits ty v = true := by
    intro ty h
    obtain ⟨hst, k, hk, comp, hkind⟩ := h
    unfold State.fitsSlot State.slotType? at h2
    cases hvm : cell.vm with
    | statics q => exact absurd hvm (hst q)
    | _ => simpa [hvm, hk, hkind] using h2
  rcases hk with h | h
  · have := key _ h
    cases v <;> simp [fits] at this
    exact ⟨_, rfl⟩
  · have := key _ h
    cases v <;> simp [fits] at this
    exact ⟨_, rfl⟩
