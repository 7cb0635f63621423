section
variable {p : Program} {l : Launch} {e : Env} {R : Room} {s : State} {m : MethodId} {args : Array Value} {below : List Frame} {meth : Method} {c : Code} {Q : State → Prop} {s0 : State} {b0 : Nat} {G : Nat → Value} {D : va_G} {dA : Nat → ClassId} {y pc : Nat} {L : am_L} {st : List Value} {M : am_M} {c' : am_F} {cells slots : Nat} {H : Heap} {locs : List Loc} {ls : Array Slot}
theorem am_nf_le {ci : Nat} (h : ci < 11) : am_nf ci ≤ 1000 := by
  have : (List.range 11).all (fun ci => decide (am_nf ci ≤ 1000)) = true := by decide +kernel
  exact of_decide_eq_true (List.all_eq_true.mp this ci (List.mem_range.mpr h))
theorem am_dv_len {ci : Nat} (h : ci < 11) : (am_dv ci).length = am_nf ci := by
  have : (List.range 11).all (fun ci => decide ((am_dv ci).length = am_nf ci)) = true := by decide +kernel
  exact of_decide_eq_true (List.all_eq_true.mp this ci (List.mem_range.mpr h))
theorem am_dv_at {ci : Nat} (h : ci < 11) : ∀ j, j < am_nf ci → defaultValue (am_fty ci j) = vp_V (am_dv ci) j := by
  have : (List.range 11).all (fun ci => (List.range (am_nf ci)).all (fun j => decide (defaultValue (am_fty ci j) = vp_V (am_dv ci) j))) = true := by decide +kernel
  intro j hj
  exact of_decide_eq_true (List.all_eq_true.mp (List.all_eq_true.mp this ci (List.mem_range.mpr h)) j (List.mem_range.mpr hj))
theorem am_new (X : am_Ctx p R s m meth c s0 b0 G D dA y) {i ci : Nat} (hd : decode (am_mB y) pc = .ok (.new i, 3)) (hci : ci < 11) (hw : Jvm.Cond.classLink (am_own y) i (am_nm ci) ∈ lw_tbl) (hc1 : cells + 1 ≤ R.cells) (hs1 : slots + 1000 ≤ R.slots) (ha : am_go (pc + 3) L (.ref M.1 :: st) (am_add M (.inr (ci, am_dv ci))) = some (.inl c')) (K : am_W p l e R s m args below meth c Q s0 b0 D dA y c' (cells + 1) (slots + 1000)) : am_W p l e R s m args below meth c Q s0 b0 D dA y (pc, L, st, M) cells slots := by
  rw [am_go] at ha
  cases ha
  intro H ls locs hR hl hL hq
  have hR : am_Rel s0 b0 D dA M H := hR
  have hKn := (am_K X).1 ci _ (am_cl_at hci)
  have hn := am_nf_le hci
  refine W.newcK X.1 X.2.1 X.2.2.2.1 (am_wd X.2.2.2.2.2.2.2.2 X.2.2.2.2.2.1 hw (by first | rfl | simp [goodWord, Cond.onTables, Cond.keeps, Cond.steady])) (am_wd X.2.2.2.2.2.2.2.2 X.2.2.2.2.2.1 (am_c_is hci).1 (by first | rfl | simp [goodWord, Cond.onTables, Cond.keeps, Cond.steady])) (am_wd X.2.2.2.2.2.2.2.2 X.2.2.2.2.2.1 (am_c_is hci).2 (by first | rfl | simp [goodWord, Cond.onTables, Cond.keeps, Cond.steady])) rfl hd hc1 (by omega) hKn.2.1 rfl fun H1 kC hkC e1 z1 o1 => ?_
  refine W.widen (k := cells + 1) (n := slots + 1000) (Nat.le_refl _) (by omega) ?_
  have K2 := K H1 ls locs (am_Rel_add hR (Or.inl ⟨hci, hR.2.1, am_dv_len hci, (u_born (am_fty ci) (am_hts X hci (args := args)) (fun _ h => h) hKn hkC e1 (am_c_ty hci)).to (am_dv_at hci)⟩) z1 o1) hl hL hq
  rw [hR.1] at K2
  exact K2
theorem am_newprim (X : am_Ctx p R s m meth c s0 b0 G D dA y) {t : ArrayType} {n : Int32} {k : Nat} {f : (Nat → Int32) ⊕ (Nat → Int64) ⊕ (Nat → UInt32) ⊕ (Nat → UInt64) ⊕ (Nat → Option Nat)} (hd : decode (am_mB y) pc = .ok (.newarray t, 2)) (hw : Jvm.Cond.arrayClass (newarray.typeOf t) ∈ lw_tbl) (hk : am_kok k = true) (hty : am_ty k = newarray.typeOf t) (hcb : componentBytes (newarray.typeOf t) ≤ 8) (hra : ∀ cA : ClassId, va_RA s cA (am_ty k) → s.vm.findClass ("[" ++ (newarray.typeOf t).toString) = some cA) (hf : ∀ j, am_rd f j = defaultValue (newarray.typeOf t)) (hn0 : 0 ≤ n) (hn : n.toNatClampNeg ≤ 1000) (hc1 : cells + 1 ≤ R.cells) (hs1 : slots + 1000 ≤ R.slots) (ha : am_go (pc + 2) L (.ref M.1 :: st) (am_add M (.inl (k, n.toNatClampNeg, f))) = some (.inl c')) (K : am_W p l e R s m args below meth c Q s0 b0 D dA y c' (cells + 1) (slots + 1000)) : am_W p l e R s m args below meth c Q s0 b0 D dA y (pc, L, .int n :: st, M) cells slots := by
  rw [am_go] at ha
  cases ha
  intro H ls locs hR hl hL hq
  have hR : am_Rel s0 b0 D dA M H := hR
  refine va_newaK X.1 X.2.1 (am_wd X.2.2.2.2.2.2.2.2 X.2.2.2.2.2.1 hw rfl) rfl hd rfl (Int32.not_lt.mpr hn0) rfl (by
    have := Nat.mul_le_mul hn hcb
    omega) hc1 (by omega) rfl fun H1 cA e1 z1 o1 hAr hNm => ?_
  refine W.widen (k := cells + 1) (n := slots + 1000) (Nat.le_refl _) (by omega) ?_
  have hcA : cA = dA k := Option.some.inj (hNm.symm.trans (hra (dA k) ((X.2.2.2.2.2.2.2.2.2.2.1 k hk).2.moved X.2.2.2.2.2.1.alike)))
  subst hcA
  have K2 := K H1 ls locs (am_Rel_add hR (Or.inl ⟨hk, hR.2.1, by rw [e1]; congr 2; funext j; exact (hf j).symm⟩) z1 o1) hl hL hq
  rw [hR.1] at K2
  exact K2
theorem am_newa_t (X : am_Ctx p R s m meth c s0 b0 G D dA y) {t : ArrayType} {n : Int32} (hd : decode (am_mB y) pc = .ok (.newarray t, 2)) (ht : t = .int ∨ t = .long ∨ t = .boolean) (hc1 : cells + 1 ≤ R.cells) (hs1 : slots + 1000 ≤ R.slots) (ha : am_opt (am_newa (am_nk t) n M) (pc + 2) L (.ref M.1 :: st) = some (.inl c')) (K : am_W p l e R s m args below meth c Q s0 b0 D dA y c' (cells + 1) (slots + 1000)) : am_W p l e R s m args below meth c Q s0 b0 D dA y (pc, L, .int n :: st, M) cells slots := by
  unfold am_opt at ha
  split at ha
  · next M' hM' =>
    rcases ht with rfl | rfl | rfl
    · simp only [am_nk, am_newa] at hM'
      split at hM'
      · next hc =>
        cases hM'
        exact am_newprim X hd am_x_ac_int (k := 0) rfl rfl (by decide) (fun cA h => h) (fun j => rfl) hc.1 hc.2 hc1 hs1 ha K
      · cases hM'
    · simp only [am_nk, am_newa] at hM'
      split at hM'
      · next hc =>
        cases hM'
        exact am_newprim X hd am_x_ac_long (k := 1) rfl rfl (by decide) (fun cA h => h) (fun j => rfl) hc.1 hc.2 hc1 hs1 ha K
      · cases hM'
    · simp only [am_nk, am_newa] at hM'
      split at hM'
      · next hc =>
        cases hM'
        exact am_newprim X hd am_x_ac_boolean (k := 2) rfl rfl (by decide) (fun cA h => h) (fun j => rfl) hc.1 hc.2 hc1 hs1 ha K
      · cases hM'
  · cases ha
theorem am_newref (X : am_Ctx p R s m meth c s0 b0 G D dA y) {i ci : Nat} {n : Int32} (hd : decode (am_mB y) pc = .ok (.anewarray i, 3)) (hci : ci ∈ [2, 3, 4, 6, 8]) (hw : Jvm.Cond.classLink (am_own y) i (am_nm ci) ∈ lw_tbl) (hc1 : cells + 1 ≤ R.cells) (hs1 : slots + 1000 ≤ R.slots) (ha : am_opt (am_newa (some (10 + ci, .inr (.inr (.inr (.inr (fun _ => none)))))) n M) (pc + 3) L (.ref M.1 :: st) = some (.inl c')) (K : am_W p l e R s m args below meth c Q s0 b0 D dA y c' (cells + 1) (slots + 1000)) : am_W p l e R s m args below meth c Q s0 b0 D dA y (pc, L, .int n :: st, M) cells slots := by
  unfold am_opt at ha
  split at ha
  · next M' hM' =>
    simp only [am_newa] at hM'
    split at hM'
    · next hc =>
      obtain ⟨hn0, hn⟩ := hc
      cases hM'
      rw [am_go] at ha
      cases ha
      intro H ls locs hR hl hL hq
      have hR : am_Rel s0 b0 D dA M H := hR
      have hk : am_kok (10 + ci) = true := by
        simp only [List.mem_cons, List.not_mem_nil, or_false] at hci
        rcases hci with rfl | rfl | rfl | rfl | rfl <;> rfl
      have hao : va_AO (am_nm ci) s := by
        have h0 : va_AO (am_nm ci) s0 := by
          simp only [List.mem_cons, List.not_mem_nil, or_false] at hci
          rcases hci with rfl | rfl | rfl | rfl | rfl
          · exact X.2.2.2.2.2.2.2.2.1 _ am_x_ao_2
          · exact X.2.2.2.2.2.2.2.2.1 _ am_x_ao_3
          · exact X.2.2.2.2.2.2.2.2.1 _ am_x_ao_4
          · exact X.2.2.2.2.2.2.2.2.1 _ am_x_ao_6
          · exact X.2.2.2.2.2.2.2.2.1 _ am_x_ao_8
        exact h0.moved X.2.2.2.2.2.1.alike
      refine W.anew X.1 X.2.1 X.2.2.2.1 (am_wd X.2.2.2.2.2.2.2.2 X.2.2.2.2.2.1 hw (by first | rfl | simp [goodWord, Cond.onTables, Cond.keeps, Cond.steady])) (va_AO.use hao) rfl hd rfl (Int32.not_lt.mpr hn0) (by omega) hc1 (by omega) fun cA kA comp f1 f2 f3 f4 => ?_
      refine W.widen (k := cells + 1) (n := slots + 1000) (Nat.le_refl _) (by omega) ?_
      have hra := (X.2.2.2.2.2.2.2.2.2.2.1 (10 + ci) hk).2.moved X.2.2.2.2.2.1.alike
      rw [am_ty_ref (by omega), Nat.add_sub_cancel_left] at hra
      obtain ⟨kA', comp', -, -, -, r4⟩ := hra
      have hcA : cA = dA (10 + ci) := Option.some.inj (f1.symm.trans r4)
      subst hcA
      have K2 := K (H.push { cls := dA (10 + ci), slots := Array.replicate n.toNatClampNeg .null, vm := .none }) ls locs (am_Rel_add hR (Or.inl ⟨hk, hR.2.1, by rw [Array.getElem?_push_size, arrV_new]; rfl⟩) (Array.size_push _) (fun q hq => by rw [Array.getElem?_push, if_neg (Nat.ne_of_lt hq)])) hl hL hq
      rw [hR.1] at K2
      exact K2
    · cases hM'
  · cases ha
theorem am_oinit (X : am_Ctx p R s m meth c s0 b0 G D dA y) {i a : Nat} (hd : decode (am_mB y) pc = .ok (.invokespecial i, 3)) (hw : Jvm.Cond.methodLink (am_own y) i Lib.objectInit ∈ lw_tbl) (hs : am_sw st ≤ 8) (ha : am_go (pc + 3) L st M = some (.inl c')) (K : am_W p l e R s m args below meth c Q s0 b0 D dA y c' cells slots) : am_W p l e R s m args below meth c Q s0 b0 D dA y (pc, L, .ref a :: st, M) cells slots := by
  rw [am_go] at ha
  cases ha
  intro H ls locs hR hl hL hq
  exact W.objInit X.1 X.2.1 X.2.2.2.1 (am_wd X.2.2.2.2.2.2.2.2 X.2.2.2.2.2.1 hw (by first | rfl | simp [goodWord, Cond.onTables, Cond.keeps, Cond.steady])) (am_wd X.2.2.2.2.2.2.2.2 X.2.2.2.2.2.1 am_x_oi (by first | rfl | simp [goodWord, Cond.onTables, Cond.keeps, Cond.steady])) (am_wd X.2.2.2.2.2.2.2.2 X.2.2.2.2.2.1 am_x_oc (by first | rfl | simp [goodWord, Cond.onTables, Cond.keeps, Cond.steady])) rfl (by rw [X.2.2.1]; exact hl.1) rfl hd X.2.2.2.2.2.2.1 (by
    have h1 := X.2.2.2.2.2.2.2.1
    have h2 : (st.map fun v => v.category).sum ≤ 8 := hs
    show 2 * 0 + (st.map fun v => v.category).sum + 12 ≤ R.locals
    omega) (K H ls locs hR hl hL hq)
theorem am_math (X : am_Ctx p R s m meth c s0 b0 G D dA y) {i : Nat} {v : Int} (h10 : 10 ≤ v) (h14 : v ≤ 14) (hd : decode (am_mB y) pc = .ok (.invokestatic i, 3)) (hw : Jvm.Cond.methodLink (am_own y) i (if v = 10 then Lib.Math.max.name else if v = 11 then Lib.Math.min.name else if v = 12 then Lib.MathLoose.max_long.x else if v = 13 then Lib.MathLoose.min_long.x else Lib.MathLoose.abs_long.x) ∈ lw_tbl) (hc : cells ≤ R.cells) (hs : slots ≤ R.slots) (ha : am_ms v pc L st M = some (.inl c')) (K : am_W p l e R s m args below meth c Q s0 b0 D dA y c' cells slots) : am_W p l e R s m args below meth c Q s0 b0 D dA y (pc, L, st, M) cells slots := by
  have E := X.2.2.2.2.2.2.2.2
  have hW := X.2.2.2.2.2.1
  have hlo := X.2.2.2.2.2.2.2.1
  have wd : ∀ {w : Jvm.Cond}, w ∈ lw_tbl → goodWord w = true → w.before args s = true := fun h1 h2 => am_wd E hW h1 h2
  unfold am_ms at ha
  intro H ls locs hR hl hL hq
  have hml : c.maxLocals = ls.size := X.2.2.1.trans hl.1.symm
  split at ha
  · next hv =>
    subst hv
    split at ha
    · next b a r =>
      split at ha
      · next h8 =>
        have h8 : (r.map fun v => v.category).sum ≤ 8 := h8
        rw [am_go] at ha
        cases ha
        exact va_mmax X.1 X.2.1 hml X.2.2.2.1 (wd hw (by first | rfl | simp [goodWord, Cond.onTables, Cond.keeps, Cond.steady])) (wd am_x_ms_max (by first | rfl | simp [goodWord, Cond.onTables, Cond.keeps, Cond.steady])) (wd am_x_ima (by first | rfl | simp [goodWord, Cond.onTables, Cond.keeps, Cond.steady])) (wd am_x_mc_max (by first | rfl | simp [goodWord, Cond.onTables, Cond.keeps, Cond.steady])) X.2.2.2.2.2.2.1 (by omega) hc hs hd (K H ls locs hR hl hL hq)
      · cases ha
    · cases ha
  · next hv0 =>
    rw [if_neg hv0] at hw
    split at ha
    · next hv =>
      subst hv
      split at ha
      · next b a r =>
        split at ha
        · next h8 =>
          have h8 : (r.map fun v => v.category).sum ≤ 8 := h8
          rw [am_go] at ha
          cases ha
          exact va_mmin X.1 X.2.1 hml X.2.2.2.1 (wd hw (by first | rfl | simp [goodWord, Cond.onTables, Cond.keeps, Cond.steady])) (wd am_x_ms_min (by first | rfl | simp [goodWord, Cond.onTables, Cond.keeps, Cond.steady])) (wd am_x_ima (by first | rfl | simp [goodWord, Cond.onTables, Cond.keeps, Cond.steady])) (wd am_x_mc_min (by first | rfl | simp [goodWord, Cond.onTables, Cond.keeps, Cond.steady])) X.2.2.2.2.2.2.1 (by omega) hc hs hd (K H ls locs hR hl hL hq)
        · cases ha
      · cases ha
    · next hv1 =>
      rw [if_neg hv1] at hw
      split at ha
      · next hv =>
        subst hv
        split at ha
        · next b a r =>
          split at ha
          · next h8 =>
            have h8 : (r.map fun v => v.category).sum ≤ 8 := h8
            rw [am_go] at ha
            cases ha
            exact va_mmax_long X.1 X.2.1 hml X.2.2.2.1 (wd hw (by first | rfl | simp [goodWord, Cond.onTables, Cond.keeps, Cond.steady])) (wd am_x_ms_maxl (by first | rfl | simp [goodWord, Cond.onTables, Cond.keeps, Cond.steady])) (wd am_x_ima (by first | rfl | simp [goodWord, Cond.onTables, Cond.keeps, Cond.steady])) (wd am_x_mc_maxl (by first | rfl | simp [goodWord, Cond.onTables, Cond.keeps, Cond.steady])) X.2.2.2.2.2.2.1 (by omega) hc hs hd (K H ls locs hR hl hL hq)
          · cases ha
        · cases ha
      · next hv2 =>
        rw [if_neg hv2] at hw
        split at ha
        · next hv =>
          subst hv
          split at ha
          · next b a r =>
            split at ha
            · next h8 =>
              have h8 : (r.map fun v => v.category).sum ≤ 8 := h8
              rw [am_go] at ha
              cases ha
              exact va_mmin_long X.1 X.2.1 hml X.2.2.2.1 (wd hw (by first | rfl | simp [goodWord, Cond.onTables, Cond.keeps, Cond.steady])) (wd am_x_ms_minl (by first | rfl | simp [goodWord, Cond.onTables, Cond.keeps, Cond.steady])) (wd am_x_ima (by first | rfl | simp [goodWord, Cond.onTables, Cond.keeps, Cond.steady])) (wd am_x_mc_minl (by first | rfl | simp [goodWord, Cond.onTables, Cond.keeps, Cond.steady])) X.2.2.2.2.2.2.1 (by omega) hc hs hd (K H ls locs hR hl hL hq)
            · cases ha
          · cases ha
        · next hv3 =>
          rw [if_neg hv3] at hw
          split at ha
          · next a r =>
            split at ha
            · next h8 =>
              have h8 : (r.map fun v => v.category).sum ≤ 8 := h8
              rw [am_go] at ha
              cases ha
              exact va_mabs_long X.1 X.2.1 hml X.2.2.2.1 (wd hw (by first | rfl | simp [goodWord, Cond.onTables, Cond.keeps, Cond.steady])) (wd am_x_ms_absl (by first | rfl | simp [goodWord, Cond.onTables, Cond.keeps, Cond.steady])) (wd am_x_ima (by first | rfl | simp [goodWord, Cond.onTables, Cond.keeps, Cond.steady])) (wd am_x_mc_absl (by first | rfl | simp [goodWord, Cond.onTables, Cond.keeps, Cond.steady])) X.2.2.2.2.2.2.1 (by omega) hc hs hd (K H ls locs hR hl hL hq)
            · cases ha
          · cases ha
theorem am_acopy (X : am_Ctx p R s m meth c s0 b0 G D dA y) {i a a0 : Nat} {sp dp n : Int32} (hd : decode (am_mB y) pc = .ok (.invokestatic i, 3)) (hw : Jvm.Cond.methodLink (am_own y) i arraycopyName ∈ lw_tbl) (hs : am_sw st ≤ 8) (ha : am_opt (am_cp M a0 sp a dp n) (pc + 3) L st = some (.inl c')) (K : am_W p l e R s m args below meth c Q s0 b0 D dA y c' cells slots) : am_W p l e R s m args below meth c Q s0 b0 D dA y (pc, L, .int n :: .int dp :: .ref a :: .int sp :: .ref a0 :: st, M) cells slots := by
  have wd : ∀ {w : Jvm.Cond}, w ∈ lw_tbl → goodWord w = true → w.before args s = true := fun h1 h2 => am_wd X.2.2.2.2.2.2.2.2 X.2.2.2.2.2.1 h1 h2
  unfold am_opt at ha
  split at ha
  · next M' hM' =>
    rw [am_go] at ha
    cases ha
    intro H ls locs hR hl hL hq
    have hR : am_Rel s0 b0 D dA M H := hR
    unfold am_cp at hM'
    split at hM'
    · next k0 n0 f k1 n1 g hM0 hM1 =>
      split at hM'
      · next hc =>
        obtain ⟨rfl, rfl, h1, h2, h3, h4, h5⟩ := hc
        cases hM'
        have h1 := Int32.not_lt.mpr h1
        have h2 := Int32.not_lt.mpr h2
        have h3 := Int32.not_lt.mpr h3
        rcases hR.2.2.2 a0 _ hM0 with ⟨hk, hb0, hc0⟩ | ⟨hk, -⟩
        · rcases hR.2.2.2 a _ hM1 with ⟨-, hb1, hc1⟩ | ⟨hk, -⟩
          · have nn : ∀ z : Int32, ¬ z < 0 → z.toInt = (z.toNatClampNeg : Int) := by
              intro z hz
              have hz0 : (0 : Int) ≤ z.toInt := by
                have := Int32.not_lt.mp hz
                simpa using Int32.le_iff_toInt_le.mp this
              show z.toInt = ((z.toInt.toNat : Nat) : Int)
              omega
            intro T hT Y
            have hArr := arrOfT_moved X.2.2.2.2.2.1.alike (X.2.2.2.2.2.2.2.2.2.2.1 0 hk).1
            obtain ⟨-, k0, hk0, cm0, hkk0⟩ := hArr n0 (am_rd (.inl f))
            obtain ⟨-, k1, hk1, cm1, hkk1⟩ := hArr n1 (am_rd (.inl g))
            obtain ⟨vm', X', step⟩ := Y.arraycopy X.1 X.2.2.2.1 (wd hw (by first | rfl | simp [goodWord, Cond.onTables, Cond.keeps, Cond.steady])) (wd am_x_acn (by first | rfl | simp [goodWord, Cond.onTables, Cond.keeps, Cond.steady])) (wd am_x_acs (by first | rfl | simp [goodWord, Cond.onTables, Cond.keeps, Cond.steady])) (wd am_x_isy (by first | rfl | simp [goodWord, Cond.onTables, Cond.keeps, Cond.steady])) (src := a0) (dst := a) (cs := arrV (dA 0) n0 (am_rd (.inl f))) (cd := arrV (dA 0) n1 (am_rd (.inl g))) (srcPos := sp) (destPos := dp) (n := n) (by rw [hT]; exact hc0) (by rw [hT]; exact hc1)
              (fun _ h => by cases h) (fun _ h => by cases h) (fun h => by cases h) (fun h => by cases h) hk0 hk1 hkk0 hkk1 (by simp [am_ty, refKind]) h1 h2 h3
              (by rw [nn sp h1, nn n h3, arrV_size]; omega)
              (by rw [nn dp h2, nn n h3, arrV_size]; omega)
              (fun vm₁ _ i hi => by
                have e : (arrV (dA 0) n0 (am_rd (.inl f))).slots.getD (sp.toNatClampNeg + i) .null = .int (f (sp.toNatClampNeg + i)) := by
                  rw [Array.getD_eq_getD_getElem?, arrV_read _ _ (by omega)]
                  rfl
                refine ⟨?_, ?_⟩
                · rw [e]
                  rfl
                · rw [e]
                  exact trivial)
              (g := F0 m pc ls (.int n :: .int dp :: .ref a :: .int sp :: .ref a0 :: st)) rfl (by rw [X.2.2.1]; exact hl.1) (rest := st) rfl (by rw [X.2.1]; exact hd) X.2.2.2.2.2.2.1 (by
                have g1 := X.2.2.2.2.2.2.2.1
                have g2 : (st.map fun v => v.category).sum ≤ 8 := hs
                have g3 : nativeFrameWords "java/lang/System" "arraycopy" 5 + 11 ≤ 40 := by decide
                show 2 * 0 + (st.map fun v => v.category).sum + (nativeFrameWords "java/lang/System" "arraycopy" 5 + 11) ≤ R.locals
                omega)
            have e1 : copied (arrV (dA 0) n0 (am_rd (.inl f))) (arrV (dA 0) n1 (am_rd (.inl g))) sp dp n = arrV (dA 0) n1 (am_rd (.inl (va_cpy f g sp.toNatClampNeg dp.toNatClampNeg n.toNatClampNeg))) := va_copied (fun z => .int z) (dA 0) (dA 0) f g h4
            rw [e1] at X' step
            have hlt : a < H.size := (Array.getElem?_eq_some_iff.mp hc1).1
            have hheap : ((T.setVm vm').setCell a (arrV (dA 0) n1 (am_rd (.inl (va_cpy f g sp.toNatClampNeg dp.toNatClampNeg n.toNatClampNeg))))).heap = H.setIfInBounds a (arrV (dA 0) n1 (am_rd (.inl (va_cpy f g sp.toNatClampNeg dp.toNatClampNeg n.toNatClampNeg)))) := by rw [← hT]; rfl
            obtain ⟨t, a1, b1⟩ := K (H.setIfInBounds a (arrV (dA 0) n1 (am_rd (.inl (va_cpy f g sp.toNatClampNeg dp.toNatClampNeg n.toNatClampNeg))))) ls _ (am_Rel_set hR hb1 (Or.inl ⟨hk, hb1, by simp [Array.getElem?_setIfInBounds, hlt]⟩) (by simp) (fun q hq => by simp [Array.getElem?_setIfInBounds, Ne.symm hq])) hl hL (fun q hq' => by
              rcases List.mem_append.mp hq' with h | h
              · exact hq q h
              · obtain ⟨z, -, hz⟩ := List.mem_map.mp h
                rw [← hz]
                exact hb1) _ hheap X'
            exact ⟨t, step t a1, b1⟩
          · omega
        · omega
      · cases hM'
    · cases hM'
  · cases ha
end
