/-- the tables' words in eight lists; the place 1000 * list + index -/
def am_tab (j : Nat) : List Jvm.Cond := match j with
  | 0 => k2_sels lw_privs
  | 1 => tables_1_1
  | 2 => tables_1_2
  | 3 => tables_1_3
  | 4 => tables_1_4
  | 5 => tables_1_5
  | 6 => tables_1_6
  | _ => tables_1_7
def am_word (i : Nat) (w : Jvm.Cond) : Bool := decide ((am_tab (i / 1000))[i % 1000]? = some w)
theorem am_tab_in {j : Nat} {w : Jvm.Cond} (h : w ∈ am_tab j) : w ∈ lw_tbl := by
  show w ∈ k2_sels lw_privs ++ (tables_1_1 ++ (tables_1_2 ++ (tables_1_3 ++ (tables_1_4 ++ (tables_1_5 ++ (tables_1_6 ++ tables_1_7))))))
  simp only [List.mem_append]
  match j, h with
  | 0, h => exact Or.inl h
  | 1, h => exact Or.inr (Or.inl h)
  | 2, h => exact Or.inr (Or.inr (Or.inl h))
  | 3, h => exact Or.inr (Or.inr (Or.inr (Or.inl h)))
  | 4, h => exact Or.inr (Or.inr (Or.inr (Or.inr (Or.inl h))))
  | 5, h => exact Or.inr (Or.inr (Or.inr (Or.inr (Or.inr (Or.inl h)))))
  | 6, h => exact Or.inr (Or.inr (Or.inr (Or.inr (Or.inr (Or.inr (Or.inl h))))))
  | _ + 7, h => exact Or.inr (Or.inr (Or.inr (Or.inr (Or.inr (Or.inr (Or.inr h))))))
theorem am_word_in {i : Nat} {w : Jvm.Cond} (h : am_word i w = true) : w ∈ lw_tbl := am_tab_in (List.mem_of_getElem? (of_decide_eq_true h))
def am_lenok (i : Instr) (n : Nat) : Bool := match i with
  | .bipush _ | .ldc _ | .iload _ | .lload _ | .aload _ | .istore _ | .lstore _ | .astore _ | .newarray _ => n == 2
  | .sipush _ | .ldc2_w _ | .ldc_w _ | .iinc _ _ | .ifCond _ _ | .if_icmp _ _ | .ifnull _ | .ifnonnull _ | .goto _ | .getfield _ | .putfield _ | .getstatic _ | .invokevirtual _ | .invokestatic _ | .invokespecial _ | .new _ | .anewarray _ => n == 3
  | .tableswitch _ _ _ _ | .lookupswitch _ _ => true
  | _ => n == 1
/-- a method that is called: its words -/
def am_mchk (y : Nat) : Bool := am_word (am_m y).2.2.2.2.1 (.code (am_mN y) (am_mB y) (am_mL y) (am_mR y)) && (am_word (am_m y).2.2.2.2.2.1 (.initialized (am_mN y).cls) && (decide ((am_mN y).cls ≠ "java/lang/invoke/MethodHandle") && (decide ((am_mN y).cls ≠ "java/lang/invoke/VarHandle") && (Jvm.plainName (am_mN y).cls && decide (am_mL y ≤ 40)))))
def am_own (y : Nat) : String := (am_mN y).cls
def am_fl (ci k : Nat) : String × String × Bool := (am_fd.getD ci []).getD k ("", "", false)
def am_nm (ci : Nat) : String := am_cn.getD ci ""
def am_flchk (own : String) (i : Nat) (r : Nat × Nat × Nat × Int) : Bool := decide (r.2.1 < (am_fd.getD r.1 []).length) && (if r.2.2.2 = 0 then am_word r.2.2.1 (.fieldLink own i (am_nm r.1) (am_fl r.1 r.2.1).1 (am_fl r.1 r.2.1).2.1) else am_word r.2.2.1 (.fieldLinkNest own i (am_nm r.1) (am_fl r.1 r.2.1).1 (am_fl r.1 r.2.1).2.1 "CushionHall"))
def am_args (y n : Nat) : Bool := decide ((parseMethodDescriptor (am_mN y).desc).map (fun d => d.parameters.length) = some n)
def am_lchk (y : Nat) (x : am_I) : Bool := match x.1 with
  | .getfield i => am_flchk (am_own y) i x.2.2
  | .putfield i => am_flchk (am_own y) i x.2.2 && (decide (x.2.2.1 < 11) && (if (am_fl x.2.2.1 x.2.2.2.1).2.2 = true then decide (am_own y = am_nm x.2.2.1) && (decide ((am_mN y).name = "<init>") && decide (x.2.2.2.2.2 = 0)) else true))
  | .getstatic i => if x.2.2.1 = 0 then am_word x.2.2.2.2.1 (.fieldLink (am_own y) i "CushionHall" "UNDER" "[I") else if x.2.2.1 = 1 then am_word x.2.2.2.2.1 (.fieldLink (am_own y) i "java/lang/String" "COMPACT_STRINGS" "Z") else decide (x.2.2.1 = 2) && am_word x.2.2.2.2.1 (.fieldLink (am_own y) i "jdk/internal/util/Preconditions" "SIOOBE_FORMATTER" "Ljava/util/function/BiFunction;")
  | .ldc i => if x.2.2.1 = 0 then am_word x.2.2.2.2.1 (.constant (am_own y) i (Int32.ofInt x.2.2.2.2.2)) else decide ((am_own y, i, x.2.2.2.1) ∈ [("CushionHall", 67, 10), ("CushionHall$Tape", 120, 11), ("CushionHall$Tape", 122, 12), ("CushionHall$Tape", 124, 13), ("CushionHall$Tape", 126, 14), ("CushionHall$Tape", 128, 15), ("CushionHall$Tape", 130, 16), ("CushionHall$Tape", 132, 17), ("CushionHall$Tape", 134, 18), ("CushionHall$Tape", 136, 19), ("CushionHall$Tape", 138, 20), ("CushionHall$Tape", 140, 21), ("CushionHall$Tape", 97, 22)])
  | .ldc_w i => am_word x.2.2.2.2.1 (.constant (am_own y) i (Int32.ofInt x.2.2.2.2.2))
  | .ldc2_w i => am_word x.2.2.2.2.1 (.constantLong (am_own y) i (Int64.ofInt x.2.2.2.2.2))
  | .new i => decide (x.2.2.1 < 11) && am_word x.2.2.2.2.1 (.classLink (am_own y) i (am_nm x.2.2.1))
  | .anewarray i => decide (x.2.2.1 ∈ [2, 3, 4, 6, 8]) && am_word x.2.2.2.2.1 (.classLink (am_own y) i (am_nm x.2.2.1))
  | .newarray t => decide (t = .int ∨ t = .long ∨ t = .boolean)
  | .invokevirtual i => am_mchk x.2.2.1 && (am_args x.2.2.1 x.2.2.2.1 && (decide (x.2.2.2.2.2 = 0) && (am_word x.2.2.2.2.1 (.methodLink (am_own y) i (am_mN x.2.2.1)) && (decide (am_mC x.2.2.1 < 12 ∧ am_nm (am_mC x.2.2.1) = (am_mN x.2.2.1).cls) && (am_word (am_m x.2.2.1).2.2.2.2.2.2.1 (.instanceMethod (am_mN x.2.2.1)) && am_word (am_m x.2.2.1).2.2.2.2.2.2.2.1 (.selects (am_mN x.2.2.1).cls (am_mN x.2.2.1) (am_mN x.2.2.1)))))))
  | .invokestatic i => if x.2.2.2.2.2 = 6 then am_word x.2.2.2.2.1 (.methodLink (am_own y) i arraycopyName) else if 10 ≤ x.2.2.2.2.2 then am_word x.2.2.2.2.1 (.methodLink (am_own y) i (if x.2.2.2.2.2 = 10 then Lib.Math.max.name else if x.2.2.2.2.2 = 11 then Lib.Math.min.name else if x.2.2.2.2.2 = 12 then Lib.MathLoose.max_long.x else if x.2.2.2.2.2 = 13 then Lib.MathLoose.min_long.x else Lib.MathLoose.abs_long.x)) && decide (x.2.2.2.2.2 ≤ 14) else am_mchk x.2.2.1 && (am_args x.2.2.1 x.2.2.2.1 && (am_word (am_m x.2.2.1).2.2.2.2.2.2.1 (.static (am_mN x.2.2.1)) && (if x.2.2.2.2.2 = 1 then am_word x.2.2.2.2.1 (.methodLink (am_own y) i (am_mN x.2.2.1)) else am_word x.2.2.2.2.1 (.methodLinkNest (am_own y) i (am_mN x.2.2.1) "CushionHall"))))
  | .invokespecial i => if x.2.2.2.2.2 = 5 then am_word x.2.2.2.2.1 (.methodLink (am_own y) i Lib.objectInit) else am_mchk x.2.2.1 && (am_args x.2.2.1 x.2.2.2.1 && (am_word (am_m x.2.2.1).2.2.2.2.2.2.1 (.instanceMethod (am_mN x.2.2.1)) && (decide ((am_mN x.2.2.1).name = "<init>") && (decide (am_mR x.2.2.1 = none) && (if x.2.2.2.2.2 = 2 then am_word x.2.2.2.2.1 (.methodLink (am_own y) i (am_mN x.2.2.1)) else am_word x.2.2.2.2.1 (.methodLinkNest (am_own y) i (am_mN x.2.2.1) "CushionHall"))))))
  | _ => true
def am_ichk (y : Nat) (q : Nat × am_I) : Bool := decide (decode (am_mB y) q.1 = .ok (q.2.1, q.2.2.1)) && (am_lenok q.2.1 q.2.2.1 && am_lchk y q.2)
