theorem am_okf_spec {ty : FieldType} {v : Value} (h : am_okf ty v = true) : narrow ty v = v ∧ fits ty v = true := by
  unfold am_okf at h
  split at h
  · exact ⟨rfl, rfl⟩
  · exact ⟨rfl, rfl⟩
  · next x =>
    rcases of_decide_eq_true h with rfl | rfl
    · exact ⟨by decide, by decide⟩
    · exact ⟨by decide, by decide⟩
  · exact ⟨rfl, rfl⟩
  · exact ⟨rfl, rfl⟩
  · exact ⟨rfl, rfl⟩
  · exact ⟨rfl, rfl⟩
  · cases h
theorem am_good_lay (C : String) (T : u_T) (k : Nat) : goodWord (u_lay C T k) = true := by
  unfold u_lay
  split
  · first | rfl | simp [goodWord, Cond.onTables, Cond.keeps, Cond.steady]
  · first | rfl | simp [goodWord, Cond.onTables, Cond.keeps, Cond.steady]
section
variable {p : Program} {l : Launch} {e : Env} {R : Room} {s : State} {m : MethodId} {args : Array Value} {below : List Frame} {meth : Method} {c : Code} {Q : State → Prop} {s0 : State} {b0 : Nat} {G : Nat → Value} {D : va_G} {dA : Nat → ClassId} {y pc : Nat} {L : am_L} {st : List Value} {M : am_M} {c' : am_F} {cells slots : Nat} {H : Heap} {locs : List Loc} {ls : Array Slot}
theorem am_K (X : am_Ctx p R s m meth c s0 b0 G D dA y) : va_K D am_cl [] s := ⟨fun ci q h => u_Kn_moved X.2.2.2.2.2.1.alike (X.2.2.2.2.2.2.2.2.2.1 ci q h), fun k q h => by simp at h⟩
theorem am_hts (X : am_Ctx p R s m meth c s0 b0 G D dA y) {ci : Nat} (hci : ci < 11) : ∀ w ∈ u_ws (am_nm ci) (am_T ci) (am_nf ci), w.before args s = true := by
  intro w hw
  have h1 := am_c_in hci w hw
  unfold u_ws at hw
  obtain ⟨k, -, rfl⟩ := List.mem_map.mp hw
  exact am_wd X.2.2.2.2.2.2.2.2 X.2.2.2.2.2.1 h1 (am_good_lay _ _ _)
theorem am_nestF (X : am_Ctx p R s m meth c s0 b0 G D dA y) {a : String} {i : Nat} {b n d h : String} (hw : Jvm.Cond.fieldLinkNest a i b n d h ∈ lw_tbl) : (Jvm.Cond.fieldLinkNest a i b n d h).before args s = true := va_Nw.use rfl (va_Nw.warmF X.2.2.2.2.2.1 (X.2.2.2.2.2.2.2.2.1 _ hw))
theorem am_getf (X : am_Ctx p R s m meth c s0 b0 G D dA y) {i ci k pl a : Nat} {vv : Int} (hd : decode (am_mB y) pc = .ok (.getfield i, 3)) (hf : am_flchk (am_own y) i (ci, k, pl, vv) = true) (ha : am_psh (am_fld M a ci k) (pc + 3) L st M = some (.inl c')) (K : am_W p l e R s m args below meth c Q s0 b0 D dA y c' cells slots) : am_W p l e R s m args below meth c Q s0 b0 D dA y (pc, L, .ref a :: st, M) cells slots := by
  unfold am_psh at ha
  split at ha
  · next v hv =>
    rw [am_go] at ha
    cases ha
    intro H ls locs hR hl hL hq
    have hR : am_Rel s0 b0 D dA M H := hR
    unfold am_fld at hv
    split at hv
    · next c2 fs hM =>
      split at hv
      · next hc =>
        subst hc
        unfold am_flchk at hf
        simp only [Bool.and_eq_true, decide_eq_true_eq] at hf
        obtain ⟨hk, hw⟩ := hf
        have hK2 := K H ls locs hR hl hL hq
        rcases hR.2.2.2 a _ hM with ⟨hci, hb, hlen, cell, q1, q2, q3, q4⟩ | ⟨hci, v0, v1, hfs, hO, hV, hC⟩
        · obtain ⟨hS, hfc, kC, hkC, hkind⟩ := (am_K X).1 c2 _ (am_cl_at hci)
          obtain ⟨cf, kf, fi, f, hi, hsl⟩ := hS k hk
          have hst := (u_facts hfc hkC (u_lays (am_hts X hci) (fun _ h => h) hk) hi (args := args)).1
          have hslot : cell.slots[f.slot]? = some v := by rw [hsl, q4 k hk]; simp [vp_V, hv]
          split at hw
          · exact W.getf X.1 X.2.1 X.2.2.2.1 (am_wd X.2.2.2.2.2.2.2.2 X.2.2.2.2.2.1 (am_word_in hw) (by first | rfl | simp [goodWord, Cond.onTables, Cond.keeps, Cond.steady])) hi hst q1 (by rw [q3]; exact fun h => by cases h) hslot rfl rfl hd hK2
          · exact va_Wgetf X.1 X.2.1 X.2.2.2.1 (am_nestF X (am_word_in hw)) hi hst q1 (by rw [q3]; exact fun h => by cases h) hslot rfl rfl hd hK2
        · subst hci
          subst hfs
          split at hw
          · next h0 =>
            have hlk : ∀ {w : Jvm.Cond}, am_word pl w = true → goodWord w = true → w.before args s = true := fun h1 h2 => am_wd X.2.2.2.2.2.2.2.2 X.2.2.2.2.2.1 (am_word_in h1) h2
            match k, hv, hw with
            | 0, hv, hw =>
              cases hv
              obtain ⟨cf, kf, fi, f, cell, g1, g2, g3, g4, g5, -⟩ := hV.moved X.2.2.2.2.2.1.alike
              exact W.getf (ref := "java/lang/String") (name := "value") (desc := "[B") X.1 X.2.1 X.2.2.2.1 (hlk hw (by first | rfl | simp [goodWord, Cond.onTables, Cond.keeps, Cond.steady])) g1 g2 g3 g4 g5 rfl rfl hd hK2
            | 1, hv, hw =>
              cases hv
              obtain ⟨cf, kf, fi, f, cell, g1, g2, g3, g4, g5, -⟩ := hC.moved X.2.2.2.2.2.1.alike
              exact W.getf (ref := "java/lang/String") (name := "coder") (desc := "B") X.1 X.2.1 X.2.2.2.1 (hlk hw (by first | rfl | simp [goodWord, Cond.onTables, Cond.keeps, Cond.steady])) g1 g2 g3 g4 g5 rfl rfl hd hK2
            | k + 2, hv, hw => simp at hv
          · next h0 =>
            have hlk : ∀ {a : String} {i : Nat} {b n d h : String}, am_word pl (.fieldLinkNest a i b n d h) = true → (Jvm.Cond.fieldLinkNest a i b n d h).before args s = true := fun h1 => am_nestF X (am_word_in h1)
            match k, hv, hw with
            | 0, hv, hw =>
              cases hv
              obtain ⟨cf, kf, fi, f, cell, g1, g2, g3, g4, g5, -⟩ := hV.moved X.2.2.2.2.2.1.alike
              exact va_Wgetf (ref := "java/lang/String") (name := "value") (desc := "[B") X.1 X.2.1 X.2.2.2.1 (hlk hw) g1 g2 g3 g4 g5 rfl rfl hd hK2
            | 1, hv, hw =>
              cases hv
              obtain ⟨cf, kf, fi, f, cell, g1, g2, g3, g4, g5, -⟩ := hC.moved X.2.2.2.2.2.1.alike
              exact va_Wgetf (ref := "java/lang/String") (name := "coder") (desc := "B") X.1 X.2.1 X.2.2.2.1 (hlk hw) g1 g2 g3 g4 g5 rfl rfl hd hK2
            | k + 2, hv, hw => simp at hv
      · cases hv
    · cases hv
  · cases ha
theorem am_locs_app {a j : Nat} (ha : b0 ≤ a) (hq : ∀ q ∈ locs, b0 ≤ q.base) : ∀ q ∈ locs ++ [(⟨a, j⟩ : Loc)], b0 ≤ q.base := by
  intro q h
  rcases List.mem_append.mp h with h | h
  · exact hq q h
  · rw [List.mem_singleton.mp h]; exact ha
theorem am_putf (X : am_Ctx p R s m meth c s0 b0 G D dA y) {i ci k pl a : Nat} {vv : Int} {v : Value} (hd : decode (am_mB y) pc = .ok (.putfield i, 3)) (hf : am_flchk (am_own y) i (ci, k, pl, vv) = true) (hfin : (am_fl ci k).2.2 = true → am_own y = am_nm ci ∧ (am_mN y).name = "<init>" ∧ vv = 0) (hci : ci < 11) (ha : am_opt (am_pf M a ci k (am_fty ci k) v) (pc + 3) L st = some (.inl c')) (K : am_W p l e R s m args below meth c Q s0 b0 D dA y c' cells slots) : am_W p l e R s m args below meth c Q s0 b0 D dA y (pc, L, v :: .ref a :: st, M) cells slots := by
  unfold am_opt at ha
  split at ha
  · next M' hM' =>
    rw [am_go] at ha
    cases ha
    intro H ls locs hR hl hL hq
    have hR : am_Rel s0 b0 D dA M H := hR
    unfold am_pf at hM'
    split at hM'
    · next c2 fs hM =>
      split at hM'
      · next hc =>
        obtain ⟨rfl, hkl, hok⟩ := hc
        cases hM'
        obtain ⟨hn, hfit⟩ := am_okf_spec hok
        unfold am_flchk at hf
        simp only [Bool.and_eq_true, decide_eq_true_eq] at hf
        obtain ⟨hk, hw⟩ := hf
        have hk : k < am_nf c2 := hk
        rcases hR.2.2.2 a _ hM with ⟨-, hb, hlen, cell, q1, q2, q3, q4⟩ | ⟨h11, -⟩
        · obtain ⟨hS, hfc, kC, hkC, hkind⟩ := (am_K X).1 c2 _ (am_cl_at hci)
          obtain ⟨cf, kf, fi, f, hi, hsl⟩ := hS k hk
          have hap := va_apart (own := am_own y) (am_hts X hci (args := args)) (fun _ h => h) (am_fty c2) (am_c_ty hci) (am_c_nm hci) (am_K X) (am_cl_at hci)
          have hst := (u_facts hfc hkC (u_lays (am_hts X hci) (fun _ h => h) hk) hi (args := args)).1
          have hlay := am_hts X hci (args := args) _ (u_in_lay hk)
          have fin : ∀ H' : Heap, H'[a]? = some (cell.setSlot f.slot v) → H'.size = H.size → (∀ q, q ≠ a → H'[q]? = H[q]?) → W p l e R s m args below meth c H' (locs ++ [⟨a, f.slot⟩]) cells slots Q (F0 m (pc + 3) ls st) := by
            intro H' e1 e2 e3
            rw [hsl] at e1
            exact K H' ls _ (am_Rel_set hR hb (Or.inl ⟨hci, hb, by rw [List.length_set]; exact hlen, t_OB.to (V := updV (vp_V fs) k v) ⟨_, e1, q2, q3, t_set q4 hap hk v⟩ (fun j _ => vp_updV_set hkl v j)⟩) e2 e3) hl hL (am_locs_app hb hq)
          by_cases hF : (am_fl c2 k).2.2 = true
          · obtain ⟨ho, hin, h0⟩ := hfin hF
            rw [if_pos h0] at hw
            unfold u_lay at hlay
            rw [if_pos (show (am_T c2 k).2.2.2 = true from hF)] at hlay
            have hcf : m.cls = cf := by
              obtain ⟨_, _, c3, _, _, _, -, -, hf', -, -, -, hown2, -⟩ := Cond.laysFinal_spec hlay
              have e1 : c3 = cf := by have := hi.symm.trans hf'; simp at this; exact this.1.symm
              have hown2 : s.vm.findClass (am_nm c2) = some c3 := hown2
              rw [← ho] at hown2
              rw [← e1]; exact Option.some.inj (X.2.2.2.1.symm.trans hown2)
            have h6 := u_fits hfc hkC hkind (Or.inr hlay) hi (am_c_ty hci k hk) hn hfit
            exact W.putFinK X.1 X.2.1 X.2.2.2.1 (am_wd X.2.2.2.2.2.2.2.2 X.2.2.2.2.2.1 (am_word_in hw) (by first | rfl | simp [goodWord, Cond.onTables, Cond.keeps, Cond.steady])) hi hst hcf (X.2.2.2.2.1 hin) (by rw [q2]; exact h6) q1 q3 (by rw [hsl]; exact k2_hasslot (q4 k hk)) rfl rfl hd fin
          · unfold u_lay at hlay
            rw [if_neg (show ¬ (am_T c2 k).2.2.2 = true from hF)] at hlay
            have h6 := u_store hfc hkC hkind hlay hi (am_c_ty hci k hk) hn hfit
            split at hw
            · exact W.putK X.1 X.2.1 (f := f) ⟨X.2.2.2.1, am_wd X.2.2.2.2.2.2.2.2 X.2.2.2.2.2.1 (am_word_in hw) (by first | rfl | simp [goodWord, Cond.onTables, Cond.keeps, Cond.steady]), ⟨_, _, _, hi⟩, hst⟩ (by rw [q2]; exact h6) q1 q3 (by rw [hsl]; exact k2_hasslot (q4 k hk)) rfl rfl hd fin
            · exact va_WputK X.1 X.2.1 (f := f) X.2.2.2.1 (am_nestF X (am_word_in hw)) hi hst (by rw [q2]; exact h6) q1 q3 (by rw [hsl]; exact k2_hasslot (q4 k hk)) rfl rfl hd fin
        · omega
      · cases hM'
    · cases hM'
  · cases ha
/-- a static field that nobody writes -/
theorem am_gets (X : am_Ctx p R s m meth c s0 b0 G D dA y) {i : Nat} {C n d : String} {v : Value} (hd : decode (am_mB y) pc = .ok (.getstatic i, 3)) (hw : Jvm.Cond.fieldLink (am_own y) i C n d ∈ lw_tbl) (hZ : va_Z C n d v (fun q => b0 ≤ q) s0 s0.heap) (ha : am_go (pc + 3) L (v :: st) M = some (.inl c')) (K : am_W p l e R s m args below meth c Q s0 b0 D dA y c' cells slots) : am_W p l e R s m args below meth c Q s0 b0 D dA y (pc, L, st, M) cells slots := by
  rw [am_go] at ha
  cases ha
  intro H ls locs hR hl hL hq
  have hR : am_Rel s0 b0 D dA M H := hR
  obtain ⟨cf, kf, fi, f, a, cell, h1, h2, h3, h4, h5, h6, h7, h8⟩ := (hZ.kept (H1 := H) (fun a _ h => hR.2.2.1 a (Nat.lt_of_not_le h))).moved X.2.2.2.2.2.1.alike
  exact W.gets X.1 X.2.1 X.2.2.2.1 (am_wd X.2.2.2.2.2.2.2.2 X.2.2.2.2.2.1 hw (by first | rfl | simp [goodWord, Cond.onTables, Cond.keeps, Cond.steady])) h1 h2 h3 h4 h5 (fun e => by rw [e] at h6; cases h6) h7 rfl hd (K H ls locs hR hl hL hq)
/-- an array's cell, of whichever kind -/
theorem am_arr (X : am_Ctx p R s m meth c s0 b0 G D dA y) {a k n : Nat} {f : (Nat → Int32) ⊕ (Nat → Int64) ⊕ (Nat → UInt32) ⊕ (Nat → UInt64) ⊕ (Nat → Option Nat)} (hR : am_Rel s0 b0 D dA M H) (hM : M.2 a = some (.inl (k, n, f))) : ∃ cell : Cell, H[a]? = some cell ∧ s.isArrayOf cell (am_ty k) ∧ cell.vm ≠ .unknown ∧ (n ≤ cell.slots.size ∧ cell.slots.size.toInt32 = Int32.ofNat n) ∧ ∀ j, j < n → cell.slots[j]? = some (am_rd f j) := by
  rcases hR.2.2.2 a _ hM with ⟨hk, -, h⟩ | ⟨-, cell, h1, h2, h3⟩
  · exact ⟨_, h, arrOfT_moved X.2.2.2.2.2.1.alike (X.2.2.2.2.2.2.2.2.2.2.1 k hk).1 n (am_rd f), (fun h => by cases h), ⟨Nat.le_of_eq (arrV_size _ _ _).symm, by rw [arrV_size] <;> rfl⟩, fun j hj => arrV_read _ _ hj⟩
  · exact ⟨cell, h1, State.isArrayOf_alike X.2.2.2.2.2.1.alike h2, h3⟩
theorem am_in {i : Int32} {n : Nat} {cell : Cell} (hz : n ≤ cell.slots.size) (h0 : 0 ≤ i) (h1 : i.toNatClampNeg < n) : ¬ (i < 0 ∨ cell.slots.size ≤ i.toNatClampNeg) := by
  rintro (h | h)
  · exact absurd h (Int32.not_lt.mpr h0)
  · omega
theorem am_alen (X : am_Ctx p R s m meth c s0 b0 G D dA y) {a n : Nat} (hd : decode (am_mB y) pc = .ok (.arraylength, 1)) (hn : am_len M a = some n) (ha : am_go (pc + 1) L (.int (Int32.ofNat n) :: st) M = some (.inl c')) (K : am_W p l e R s m args below meth c Q s0 b0 D dA y c' cells slots) : am_W p l e R s m args below meth c Q s0 b0 D dA y (pc, L, .ref a :: st, M) cells slots := by
  rw [am_go] at ha
  cases ha
  intro H ls locs hR hl hL hq
  unfold am_len at hn
  split at hn
  · next k n2 f hM =>
    cases hn
    obtain ⟨cell, h1, h2, h3, h4, h5⟩ := am_arr X hR hM
    exact W.alen (n := Int32.ofNat n) X.1 X.2.1 h1 h2 h4.2 rfl rfl hd (K H ls locs hR hl hL hq)
  · cases hn
theorem am_aget (X : am_Ctx p R s m meth c s0 b0 G D dA y) {a t : Nat} {i : Int32} {v : Value} (hv : am_ag t M a i = some v) (hR : am_Rel s0 b0 D dA M H) : ∃ (cell : Cell) (k : Nat), H[a]? = some cell ∧ am_okk t k = true ∧ s.isArrayOf cell (am_ty k) ∧ cell.vm ≠ .unknown ∧ ¬ (i < 0 ∨ cell.slots.size ≤ i.toNatClampNeg) ∧ cell.slots[i.toNatClampNeg]? = some v := by
  unfold am_ag at hv
  split at hv
  · next k n f hM =>
    split at hv
    · next hc =>
      obtain ⟨hk, h0, h1⟩ := hc
      cases hv
      obtain ⟨cell, g1, g2, g3, g4, g5⟩ := am_arr X hR hM
      exact ⟨cell, k, g1, hk, g2, g3, am_in g4.1 h0 h1, g5 _ h1⟩
    · cases hv
  · cases hv
theorem am_iald (X : am_Ctx p R s m meth c s0 b0 G D dA y) {a : Nat} {i : Int32} (hd : decode (am_mB y) pc = .ok (.iaload, 1)) (ha : am_psh (am_ag 0 M a i) (pc + 1) L st M = some (.inl c')) (K : am_W p l e R s m args below meth c Q s0 b0 D dA y c' cells slots) : am_W p l e R s m args below meth c Q s0 b0 D dA y (pc, L, .int i :: .ref a :: st, M) cells slots := by
  unfold am_psh at ha
  split at ha
  · next v hv =>
    rw [am_go] at ha
    cases ha
    intro H ls locs hR hl hL hq
    obtain ⟨cell, k, h1, h2, h3, h4, h5, h6⟩ := am_aget X hv hR
    have hk : k = 0 ∨ k = 5 := by simpa [am_okk] using h2
    have h3 : s.isArrayOf cell .int := by rcases hk with rfl | rfl <;> exact h3
    exact W.iald X.1 X.2.1 h1 h3 h4 h5 h6 rfl rfl hd (K H ls locs hR hl hL hq)
  · cases ha
theorem am_lald (X : am_Ctx p R s m meth c s0 b0 G D dA y) {a : Nat} {i : Int32} (hd : decode (am_mB y) pc = .ok (.laload, 1)) (ha : am_psh (am_ag 1 M a i) (pc + 1) L st M = some (.inl c')) (K : am_W p l e R s m args below meth c Q s0 b0 D dA y c' cells slots) : am_W p l e R s m args below meth c Q s0 b0 D dA y (pc, L, .int i :: .ref a :: st, M) cells slots := by
  unfold am_psh at ha
  split at ha
  · next v hv =>
    rw [am_go] at ha
    cases ha
    intro H ls locs hR hl hL hq
    obtain ⟨cell, k, h1, h2, h3, h4, h5, h6⟩ := am_aget X hv hR
    have hk : k = 1 := by simpa [am_okk] using h2
    subst hk
    exact W.lald X.1 X.2.1 h1 h3 h4 h5 h6 rfl rfl hd (K H ls locs hR hl hL hq)
  · cases ha
theorem am_bald (X : am_Ctx p R s m meth c s0 b0 G D dA y) {a : Nat} {i : Int32} (hd : decode (am_mB y) pc = .ok (.baload, 1)) (ha : am_psh (am_ag 2 M a i) (pc + 1) L st M = some (.inl c')) (K : am_W p l e R s m args below meth c Q s0 b0 D dA y c' cells slots) : am_W p l e R s m args below meth c Q s0 b0 D dA y (pc, L, .int i :: .ref a :: st, M) cells slots := by
  unfold am_psh at ha
  split at ha
  · next v hv =>
    rw [am_go] at ha
    cases ha
    intro H ls locs hR hl hL hq
    obtain ⟨cell, k, h1, h2, h3, h4, h5, h6⟩ := am_aget X hv hR
    have hk : k = 2 ∨ k = 3 := by simpa [am_okk] using h2
    rcases hk with rfl | rfl
    · exact W.zald X.1 X.2.1 h1 h3 h4 h5 h6 rfl rfl hd (K H ls locs hR hl hL hq)
    · exact W.bald X.1 X.2.1 h1 h3 h4 h5 h6 rfl rfl hd (K H ls locs hR hl hL hq)
  · cases ha
theorem am_ty_ref {k : Nat} (h : 10 ≤ k) : am_ty k = .object (am_nm (k - 10)) := by
  match k, h with
  | k + 6, _ => rfl
theorem am_aald (X : am_Ctx p R s m meth c s0 b0 G D dA y) {a : Nat} {i : Int32} (hd : decode (am_mB y) pc = .ok (.aaload, 1)) (ha : am_psh (am_ag 3 M a i) (pc + 1) L st M = some (.inl c')) (K : am_W p l e R s m args below meth c Q s0 b0 D dA y c' cells slots) : am_W p l e R s m args below meth c Q s0 b0 D dA y (pc, L, .int i :: .ref a :: st, M) cells slots := by
  unfold am_psh at ha
  split at ha
  · next v hv =>
    rw [am_go] at ha
    cases ha
    intro H ls locs hR hl hL hq
    obtain ⟨cell, k, h1, h2, h3, h4, h5, h6⟩ := am_aget X hv hR
    have hk : 10 ≤ k := by simpa [am_okk] using h2
    rw [am_ty_ref hk] at h3
    exact W.aald X.1 X.2.1 h1 h3 rfl h4 h5 h6 rfl rfl hd (K H ls locs hR hl hL hq)
  · cases ha
theorem am_rd_upd {f : Nat → Int32} {j : Nat} {x : Int32} : updV (am_rd (.inl f)) j (.int x) = am_rd (.inl (upd f j x)) := by
  funext q
  by_cases h : q = j <;> simp [updV, am_rd, upd, h]
theorem am_rd_updL {f : Nat → Int64} {j : Nat} {x : Int64} : updV (am_rd (.inr (.inl f))) j (.long x) = am_rd (.inr (.inl (vp_updL f j x))) := by
  funext q
  by_cases h : q = j <;> simp [updV, am_rd, vp_updL, h]
theorem am_rd_updR {f : Nat → Option Nat} {j : Nat} {x : Nat} : updV (am_rd (.inr (.inr (.inr (.inr f))))) j (.ref x) = am_rd (.inr (.inr (.inr (.inr (va_up f j (some x)))))) := by
  funext q
  by_cases h : q = j <;> simp [updV, am_rd, va_up, va_rf, h]
theorem am_iast (X : am_Ctx p R s m meth c s0 b0 G D dA y) {a : Nat} {i x : Int32} (hd : decode (am_mB y) pc = .ok (.iastore, 1)) (ha : am_opt (am_pi M a i x) (pc + 1) L st = some (.inl c')) (K : am_W p l e R s m args below meth c Q s0 b0 D dA y c' cells slots) : am_W p l e R s m args below meth c Q s0 b0 D dA y (pc, L, .int x :: .int i :: .ref a :: st, M) cells slots := by
  unfold am_opt at ha
  split at ha
  · next M' hM' =>
    rw [am_go] at ha
    cases ha
    intro H ls locs hR hl hL hq
    have hR : am_Rel s0 b0 D dA M H := hR
    unfold am_pi at hM'
    split at hM'
    · next k n f hM =>
      split at hM'
      · next hc =>
        obtain ⟨rfl, h0, h1⟩ := hc
        cases hM'
        rcases hR.2.2.2 a _ hM with ⟨hk, hb, h⟩ | ⟨hk, -⟩
        · have harr := arrOfT_moved X.2.2.2.2.2.1.alike (X.2.2.2.2.2.2.2.2.2.2.1 0 hk).1 n (am_rd (.inl f))
          exact W.iast X.1 X.2.1 h harr (fun h => by cases h) (am_in (Nat.le_of_eq (arrV_size _ _ _).symm) h0 h1) rfl rfl hd fun H1 e1 z oq => K H1 ls _ (am_Rel_set hR hb (Or.inl ⟨hk, hb, by rw [e1, arrV_store, am_rd_upd]⟩) z oq) hl hL (am_locs_app hb hq)
        · omega
      · cases hM'
    · cases hM'
  · cases ha
theorem am_last (X : am_Ctx p R s m meth c s0 b0 G D dA y) {a : Nat} {i : Int32} {x : Int64} (hd : decode (am_mB y) pc = .ok (.lastore, 1)) (ha : am_opt (am_pl M a i x) (pc + 1) L st = some (.inl c')) (K : am_W p l e R s m args below meth c Q s0 b0 D dA y c' cells slots) : am_W p l e R s m args below meth c Q s0 b0 D dA y (pc, L, .long x :: .int i :: .ref a :: st, M) cells slots := by
  unfold am_opt at ha
  split at ha
  · next M' hM' =>
    rw [am_go] at ha
    cases ha
    intro H ls locs hR hl hL hq
    have hR : am_Rel s0 b0 D dA M H := hR
    unfold am_pl at hM'
    split at hM'
    · next k n f hM =>
      split at hM'
      · next hc =>
        obtain ⟨rfl, h0, h1⟩ := hc
        cases hM'
        rcases hR.2.2.2 a _ hM with ⟨hk, hb, h⟩ | ⟨hk, -⟩
        · have harr := arrOfT_moved X.2.2.2.2.2.1.alike (X.2.2.2.2.2.2.2.2.2.2.1 1 hk).1 n (am_rd (.inr (.inl f)))
          exact W.last X.1 X.2.1 h harr (fun h => by cases h) (am_in (Nat.le_of_eq (arrV_size _ _ _).symm) h0 h1) rfl rfl hd fun H1 e1 z oq => K H1 ls _ (am_Rel_set hR hb (Or.inl ⟨hk, hb, by rw [e1, arrV_store, am_rd_updL]⟩) z oq) hl hL (am_locs_app hb hq)
        · omega
      · cases hM'
    · cases hM'
  · cases ha
theorem am_zast (X : am_Ctx p R s m meth c s0 b0 G D dA y) {a : Nat} {i x : Int32} (hd : decode (am_mB y) pc = .ok (.bastore, 1)) (ha : am_opt (am_pz M a i x) (pc + 1) L st = some (.inl c')) (K : am_W p l e R s m args below meth c Q s0 b0 D dA y c' cells slots) : am_W p l e R s m args below meth c Q s0 b0 D dA y (pc, L, .int x :: .int i :: .ref a :: st, M) cells slots := by
  unfold am_opt at ha
  split at ha
  · next M' hM' =>
    rw [am_go] at ha
    cases ha
    intro H ls locs hR hl hL hq
    have hR : am_Rel s0 b0 D dA M H := hR
    unfold am_pz at hM'
    split at hM'
    · next k n f hM =>
      split at hM'
      · next hc =>
        obtain ⟨rfl, h0, h1, hx⟩ := hc
        cases hM'
        have hnar : narrow .boolean (.int x) = .int x := by rcases hx with rfl | rfl <;> decide
        rcases hR.2.2.2 a _ hM with ⟨hk, hb, h⟩ | ⟨hk, -⟩
        · have harr := arrOfT_moved X.2.2.2.2.2.1.alike (X.2.2.2.2.2.2.2.2.2.2.1 2 hk).1 n (am_rd (.inl f))
          exact W.zast X.1 X.2.1 h harr (fun h => by cases h) (am_in (Nat.le_of_eq (arrV_size _ _ _).symm) h0 h1) rfl rfl hd fun H1 e1 z oq => K H1 ls _ (am_Rel_set hR hb (Or.inl ⟨hk, hb, by rw [e1, hnar, arrV_store, am_rd_upd]⟩) z oq) hl hL (am_locs_app hb hq)
        · omega
      · cases hM'
    · cases hM'
  · cases ha
theorem am_aast (X : am_Ctx p R s m meth c s0 b0 G D dA y) {a v : Nat} {i : Int32} (hd : decode (am_mB y) pc = .ok (.aastore, 1)) (ha : am_opt (am_pr M a i v) (pc + 1) L st = some (.inl c')) (K : am_W p l e R s m args below meth c Q s0 b0 D dA y c' cells slots) : am_W p l e R s m args below meth c Q s0 b0 D dA y (pc, L, .ref v :: .int i :: .ref a :: st, M) cells slots := by
  unfold am_opt at ha
  split at ha
  · next M' hM' =>
    rw [am_go] at ha
    cases ha
    intro H ls locs hR hl hL hq
    have hR : am_Rel s0 b0 D dA M H := hR
    unfold am_pr at hM'
    split at hM'
    · next k n f hM =>
      split at hM'
      · next hc =>
        obtain ⟨h10, h0, h1, hcv⟩ := hc
        cases hM'
        unfold am_cls at hcv
        split at hcv
        · next c2 vs hV =>
          cases hcv
          rcases hR.2.2.2 a _ hM with ⟨hk, hb, h⟩ | ⟨hk, -⟩
          · rcases hR.2.2.2 v _ hV with ⟨hci, hbv, hlen, cellV, g1, g2, g3, -⟩ | ⟨h11, -⟩
            · have hcls := ((am_K X).1 _ _ (am_cl_at hci)).2
              have hra := (X.2.2.2.2.2.2.2.2.2.2.1 k hk).2.moved X.2.2.2.2.2.1.alike
              rw [am_ty_ref h10] at hra
              obtain ⟨kA, comp, k1, k2, k3, -⟩ := hra
              have hcomp : comp = D.1 (k - 10) := Option.some.inj (k3.symm.trans hcls.1)
              subst hcomp
              obtain ⟨kC, hkC, -⟩ := hcls.2
              exact W.aast X.1 X.2.1 h (fun q h => by cases h) (fun h => by cases h) k1 k2 rfl hkC ⟨Int32.not_lt.mpr h0, by rw [arrV_size]; exact h1⟩ g1 (fun q h => by rw [g3] at h; cases h) (by rw [g2]; exact hkC) (by rw [g2]; exact va_assign hcls) rfl rfl hd fun H1 e1 z oq => K H1 ls _ (am_Rel_set hR hb (Or.inl ⟨hk, hb, by rw [e1, arrV_store, am_rd_updR]⟩) z oq) hl hL (am_locs_app hb hq)
            · have : k = 21 := by omega
              subst this
              cases hk
          · omega
        · cases hcv
      · cases hM'
    · cases hM'
  · cases ha
end
