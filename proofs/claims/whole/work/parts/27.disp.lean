section
variable {p : Program} {l : Launch} {e : Env} {R : Room} {s : State} {m : MethodId} {args : Array Value} {below : List Frame} {meth : Method} {c : Code} {Q : State → Prop} {s0 : State} {b0 : Nat} {G : Nat → Value} {D : va_G} {dA : Nat → ClassId} {y pc : Nat} {L : am_L} {st : List Value} {M : am_M} {c' : am_F} {cells slots : Nat} {x : am_I}
theorem am_W_widen {k n : Nat} (h1 : cells ≤ k) (h2 : slots ≤ n) (K : am_W p l e R s m args below meth c Q s0 b0 D dA y c' k n) : am_W p l e R s m args below meth c Q s0 b0 D dA y c' cells slots := fun H ls locs hR hl hL hq => W.widen h1 h2 (K H ls locs hR hl hL hq)
set_option maxHeartbeats 4000000 in
theorem am_snd (X : am_Ctx p R s m meth c s0 b0 G D dA y) (hc : am_ichk y (pc, x) = true) (ha : am_act G y x pc L st M = some (.inl c')) (hcell : cells + (c'.2.2.2.1 - M.1) ≤ R.cells) (hslot : slots + 1000 * (c'.2.2.2.1 - M.1) ≤ R.slots) (K : am_W p l e R s m args below meth c Q s0 b0 D dA y c' (cells + (c'.2.2.2.1 - M.1)) (slots + 1000 * (c'.2.2.2.1 - M.1))) : am_W p l e R s m args below meth c Q s0 b0 D dA y (pc, L, st, M) cells slots := by
  have K0 : am_W p l e R s m args below meth c Q s0 b0 D dA y c' cells slots := am_W_widen (Nat.le_add_right _ _) (Nat.le_add_right _ _) K
  obtain ⟨ins, len, r1, r2, r3, v⟩ := x
  unfold am_ichk at hc
  simp only [Bool.and_eq_true, decide_eq_true_eq] at hc
  obtain ⟨hd, hlen, hlk⟩ := hc
  cases ins with
  | iadd =>
    obtain rfl : len = 1 := by simpa [am_lenok] using hlen
    exact am_t_iadd X hd ha K0
  | isub =>
    obtain rfl : len = 1 := by simpa [am_lenok] using hlen
    exact am_t_isub X hd ha K0
  | imul =>
    obtain rfl : len = 1 := by simpa [am_lenok] using hlen
    exact am_t_imul X hd ha K0
  | iand =>
    obtain rfl : len = 1 := by simpa [am_lenok] using hlen
    exact am_t_iand X hd ha K0
  | ishr =>
    obtain rfl : len = 1 := by simpa [am_lenok] using hlen
    exact am_t_ishr X hd ha K0
  | idiv =>
    obtain rfl : len = 1 := by simpa [am_lenok] using hlen
    exact am_t_idiv X hd ha K0
  | irem =>
    obtain rfl : len = 1 := by simpa [am_lenok] using hlen
    exact am_t_irem X hd ha K0
  | ladd =>
    obtain rfl : len = 1 := by simpa [am_lenok] using hlen
    exact am_t_ladd X hd ha K0
  | lsub =>
    obtain rfl : len = 1 := by simpa [am_lenok] using hlen
    exact am_t_lsub X hd ha K0
  | lmul =>
    obtain rfl : len = 1 := by simpa [am_lenok] using hlen
    exact am_t_lmul X hd ha K0
  | land =>
    obtain rfl : len = 1 := by simpa [am_lenok] using hlen
    exact am_t_land X hd ha K0
  | lor =>
    obtain rfl : len = 1 := by simpa [am_lenok] using hlen
    exact am_t_lor X hd ha K0
  | ldiv =>
    obtain rfl : len = 1 := by simpa [am_lenok] using hlen
    exact am_t_ldiv X hd ha K0
  | lshl =>
    obtain rfl : len = 1 := by simpa [am_lenok] using hlen
    exact am_t_lshl X hd ha K0
  | lshr =>
    obtain rfl : len = 1 := by simpa [am_lenok] using hlen
    exact am_t_lshr X hd ha K0
  | ineg =>
    obtain rfl : len = 1 := by simpa [am_lenok] using hlen
    exact am_t_ineg X hd ha K0
  | lneg =>
    obtain rfl : len = 1 := by simpa [am_lenok] using hlen
    exact am_t_lneg X hd ha K0
  | i2l =>
    obtain rfl : len = 1 := by simpa [am_lenok] using hlen
    exact am_t_i2l X hd ha K0
  | i2b =>
    obtain rfl : len = 1 := by simpa [am_lenok] using hlen
    exact am_t_i2b X hd ha K0
  | i2s =>
    obtain rfl : len = 1 := by simpa [am_lenok] using hlen
    exact am_t_i2s X hd ha K0
  | i2c =>
    obtain rfl : len = 1 := by simpa [am_lenok] using hlen
    exact am_t_i2c X hd ha K0
  | l2i =>
    obtain rfl : len = 1 := by simpa [am_lenok] using hlen
    exact am_t_l2i X hd ha K0
  | aconst_null =>
    obtain rfl : len = 1 := by simpa [am_lenok] using hlen
    exact am_t_null X hd ha K0
  | iconst n =>
    obtain rfl : len = 1 := by simpa [am_lenok] using hlen
    exact am_t_iconst X hd ha K0
  | lconst n =>
    obtain rfl : len = 1 := by simpa [am_lenok] using hlen
    exact am_t_lconst X hd ha K0
  | bipush n =>
    obtain rfl : len = 2 := by simpa [am_lenok] using hlen
    exact am_t_bipush X hd ha K0
  | sipush n =>
    obtain rfl : len = 3 := by simpa [am_lenok] using hlen
    exact am_t_sipush X hd ha K0
  | ldc i =>
    obtain rfl : len = 2 := by simpa [am_lenok] using hlen
    simp only [am_act] at ha
    simp only [am_lchk] at hlk
    split at ha
    · next h0 =>
      rw [if_pos h0] at hlk
      exact am_t_ldc X (am_word_in hlk) hd ha K0
    · next h0 =>
      rw [if_neg h0] at hlk
      have hm := of_decide_eq_true hlk
      have hs : ∃ tx, (am_own y, i, r2, tx) ∈ am_strs := by
        simp only [List.mem_cons, Prod.mk.injEq, List.not_mem_nil, or_false] at hm
        rcases hm with ⟨h1, h2, h3⟩ | ⟨h1, h2, h3⟩ | ⟨h1, h2, h3⟩ | ⟨h1, h2, h3⟩ | ⟨h1, h2, h3⟩ | ⟨h1, h2, h3⟩ | ⟨h1, h2, h3⟩ | ⟨h1, h2, h3⟩ | ⟨h1, h2, h3⟩ | ⟨h1, h2, h3⟩ | ⟨h1, h2, h3⟩ | ⟨h1, h2, h3⟩ | ⟨h1, h2, h3⟩
        all_goals
          rw [h1, h2, h3]
          simp [am_strs]
      obtain ⟨tx, hs⟩ := hs
      exact am_t_ldcs X hs hd ha K0
  | ldc_w i =>
    obtain rfl : len = 3 := by simpa [am_lenok] using hlen
    simp only [am_act] at ha
    split at ha
    · exact am_t_ldcw X (am_word_in hlk) hd ha K0
    · cases ha
  | ldc2_w i =>
    obtain rfl : len = 3 := by simpa [am_lenok] using hlen
    exact am_t_ldc2 X (am_word_in hlk) hd ha K0
  | iload i =>
    obtain rfl : len = 2 := by simpa [am_lenok] using hlen
    exact am_t_iload X hd ha K0
  | lload i =>
    obtain rfl : len = 2 := by simpa [am_lenok] using hlen
    exact am_t_lload X hd ha K0
  | aload i =>
    obtain rfl : len = 2 := by simpa [am_lenok] using hlen
    exact am_t_aload X hd ha K0
  | istore i =>
    obtain rfl : len = 2 := by simpa [am_lenok] using hlen
    exact am_t_istore X hd ha K0
  | lstore i =>
    obtain rfl : len = 2 := by simpa [am_lenok] using hlen
    exact am_t_lstore X hd ha K0
  | astore i =>
    obtain rfl : len = 2 := by simpa [am_lenok] using hlen
    exact am_t_astore X hd ha K0
  | iload_n i =>
    obtain rfl : len = 1 := by simpa [am_lenok] using hlen
    exact am_t_iload_n X hd ha K0
  | lload_n i =>
    obtain rfl : len = 1 := by simpa [am_lenok] using hlen
    exact am_t_lload_n X hd ha K0
  | aload_n i =>
    obtain rfl : len = 1 := by simpa [am_lenok] using hlen
    exact am_t_aload_n X hd ha K0
  | istore_n i =>
    obtain rfl : len = 1 := by simpa [am_lenok] using hlen
    exact am_t_istore_n X hd ha K0
  | lstore_n i =>
    obtain rfl : len = 1 := by simpa [am_lenok] using hlen
    exact am_t_lstore_n X hd ha K0
  | astore_n i =>
    obtain rfl : len = 1 := by simpa [am_lenok] using hlen
    exact am_t_astore_n X hd ha K0
  | iinc i n =>
    obtain rfl : len = 3 := by simpa [am_lenok] using hlen
    simp only [am_act] at ha
    split at ha
    · next a hv =>
      split at ha
      · exact am_t_iinc X hd hv ha K0
      · cases ha
    · cases ha
  | lcmp =>
    obtain rfl : len = 1 := by simpa [am_lenok] using hlen
    simp only [am_act] at ha
    split at ha
    · exact am_t_lcmp X hd ha K0
    · cases ha
  | pop =>
    obtain rfl : len = 1 := by simpa [am_lenok] using hlen
    simp only [am_act] at ha
    split at ha
    · split at ha
      · next hv => exact am_t_pop X hv hd ha K0
      · cases ha
    · cases ha
  | dup =>
    obtain rfl : len = 1 := by simpa [am_lenok] using hlen
    simp only [am_act] at ha
    split at ha
    · split at ha
      · next hv => exact am_t_dup X hv hd ha K0
      · cases ha
    · cases ha
  | dup_x1 =>
    obtain rfl : len = 1 := by simpa [am_lenok] using hlen
    simp only [am_act] at ha
    split at ha
    · split at ha
      · next hv => exact am_t_dup_x1 X hv.1 hv.2 hd ha K0
      · cases ha
    · cases ha
  | dup2 =>
    obtain rfl : len = 1 := by simpa [am_lenok] using hlen
    simp only [am_act] at ha
    split at ha
    · split at ha
      · next hv => exact am_t_dup2 X hv.1 hv.2 hd ha K0
      · cases ha
    · cases ha
  | ifCond cd off =>
    obtain rfl : len = 3 := by simpa [am_lenok] using hlen
    simp only [am_act] at ha
    split at ha
    · exact am_t_if X hd ha K0
    · cases ha
  | if_icmp cd off =>
    obtain rfl : len = 3 := by simpa [am_lenok] using hlen
    simp only [am_act] at ha
    split at ha
    · exact am_t_icmp X hd ha K0
    · cases ha
  | ifnull off =>
    obtain rfl : len = 3 := by simpa [am_lenok] using hlen
    simp only [am_act] at ha
    split at ha
    · split at ha
      · next hv => exact am_t_ifnull X hv hd ha K0
      · cases ha
    · cases ha
  | ifnonnull off =>
    obtain rfl : len = 3 := by simpa [am_lenok] using hlen
    simp only [am_act] at ha
    split at ha
    · split at ha
      · next hv => exact am_t_ifnonnull X hv hd ha K0
      · cases ha
    · cases ha
  | goto off =>
    obtain rfl : len = 3 := by simpa [am_lenok] using hlen
    exact am_t_goto X hd ha K0
  | tableswitch d lo hi offs =>
    simp only [am_act] at ha
    split at ha
    · exact am_t_tsw X hd ha K0
    · cases ha
  | lookupswitch d ps =>
    simp only [am_act] at ha
    split at ha
    · exact am_t_lsw X hd ha K0
    · cases ha
  | getfield i =>
    obtain rfl : len = 3 := by simpa [am_lenok] using hlen
    simp only [am_act] at ha
    split at ha
    · exact am_getf X hd hlk ha K0
    · cases ha
  | putfield i =>
    obtain rfl : len = 3 := by simpa [am_lenok] using hlen
    simp only [am_act] at ha
    simp only [am_lchk, Bool.and_eq_true, decide_eq_true_eq] at hlk
    obtain ⟨hf, hci, hfin⟩ := hlk
    split at ha
    · split at ha
      · cases ha
      · refine am_putf X hd hf (fun h => ?_) hci ha K0
        rw [if_pos h] at hfin
        simp only [Bool.and_eq_true, decide_eq_true_eq] at hfin
        exact hfin
    · cases ha
  | getstatic i =>
    obtain rfl : len = 3 := by simpa [am_lenok] using hlen
    simp only [am_act] at ha
    simp only [am_lchk] at hlk
    have E := X.2.2.2.2.2.2.2.2
    split at ha
    · next h1 =>
      subst h1
      rw [if_neg (by decide), if_pos rfl] at hlk
      exact am_gets X hd (am_word_in hlk) E.2.2.2.2.2.1 ha K0
    · next h1 =>
      by_cases h0 : r1 = 0
      · subst h0
        rw [if_pos rfl] at hlk
        exact am_gets X hd (am_word_in hlk) E.2.2.2.2.1 ha K0
      · rw [if_neg h0, if_neg h1] at hlk
        simp only [Bool.and_eq_true, decide_eq_true_eq] at hlk
        obtain ⟨h2, hw⟩ := hlk
        have h2 : r1 = 2 := h2
        subst h2
        exact am_gets X hd (am_word_in hw) E.2.2.2.2.2.2.1 ha K0
  | arraylength =>
    obtain rfl : len = 1 := by simpa [am_lenok] using hlen
    simp only [am_act] at ha
    split at ha
    · split at ha
      · next n hn => exact am_alen X hd hn ha K0
      · cases ha
    · cases ha
  | iaload =>
    obtain rfl : len = 1 := by simpa [am_lenok] using hlen
    simp only [am_act] at ha
    split at ha
    · exact am_iald X hd ha K0
    · cases ha
  | laload =>
    obtain rfl : len = 1 := by simpa [am_lenok] using hlen
    simp only [am_act] at ha
    split at ha
    · exact am_lald X hd ha K0
    · cases ha
  | baload =>
    obtain rfl : len = 1 := by simpa [am_lenok] using hlen
    simp only [am_act] at ha
    split at ha
    · exact am_bald X hd ha K0
    · cases ha
  | aaload =>
    obtain rfl : len = 1 := by simpa [am_lenok] using hlen
    simp only [am_act] at ha
    split at ha
    · exact am_aald X hd ha K0
    · cases ha
  | iastore =>
    obtain rfl : len = 1 := by simpa [am_lenok] using hlen
    simp only [am_act] at ha
    split at ha
    · exact am_iast X hd ha K0
    · cases ha
  | lastore =>
    obtain rfl : len = 1 := by simpa [am_lenok] using hlen
    simp only [am_act] at ha
    split at ha
    · exact am_last X hd ha K0
    · cases ha
  | bastore =>
    obtain rfl : len = 1 := by simpa [am_lenok] using hlen
    simp only [am_act] at ha
    split at ha
    · exact am_zast X hd ha K0
    · cases ha
  | aastore =>
    obtain rfl : len = 1 := by simpa [am_lenok] using hlen
    simp only [am_act] at ha
    split at ha
    · exact am_aast X hd ha K0
    · cases ha
  | new i =>
    obtain rfl : len = 3 := by simpa [am_lenok] using hlen
    simp only [am_act] at ha
    simp only [am_lchk, Bool.and_eq_true, decide_eq_true_eq] at hlk
    have e : c'.2.2.2.1 - M.1 = 1 := by
      rw [am_go] at ha
      cases ha
      simp [am_add]
    rw [e] at hcell hslot K
    exact am_new X hd hlk.1 (am_word_in hlk.2) hcell hslot ha K
  | newarray t =>
    obtain rfl : len = 2 := by simpa [am_lenok] using hlen
    simp only [am_act] at ha
    simp only [am_lchk, decide_eq_true_eq] at hlk
    split at ha
    · next n r =>
      have e : c'.2.2.2.1 - M.1 = 1 := by
        have ha' := ha
        unfold am_opt at ha'
        split at ha'
        · next M' hM' =>
          rw [am_go] at ha'
          cases ha'
          unfold am_newa at hM'
          split at hM'
          · split at hM'
            · cases hM'
              simp [am_add]
            · cases hM'
          · cases hM'
        · cases ha'
      rw [e] at hcell hslot K
      exact am_newa_t X hd hlk hcell hslot ha K
    · cases ha
  | anewarray i =>
    obtain rfl : len = 3 := by simpa [am_lenok] using hlen
    simp only [am_act] at ha
    simp only [am_lchk, Bool.and_eq_true, decide_eq_true_eq] at hlk
    split at ha
    · next n r =>
      have e : c'.2.2.2.1 - M.1 = 1 := by
        have ha' := ha
        unfold am_opt at ha'
        split at ha'
        · next M' hM' =>
          rw [am_go] at ha'
          cases ha'
          unfold am_newa at hM'
          split at hM'
          · split at hM'
            · cases hM'
              simp [am_add]
            · cases hM'
          · cases hM'
        · cases ha'
      rw [e] at hcell hslot K
      exact am_newref X hd hlk.1 (am_word_in hlk.2) hcell hslot ha K
    · cases ha
  | invokevirtual i =>
    obtain rfl : len = 3 := by simpa [am_lenok] using hlen
    simp only [am_act, am_cv, am_call] at ha
    split at ha
    · split at ha
      · split at ha <;> cases ha
      · cases ha
    · cases ha
  | invokespecial i =>
    obtain rfl : len = 3 := by simpa [am_lenok] using hlen
    simp only [am_act] at ha
    simp only [am_lchk] at hlk
    split at ha
    · next h5 =>
      rw [if_pos h5] at hlk
      split at ha
      · split at ha
        · next h8 => exact am_oinit X hd (am_word_in hlk) h8 ha K0
        · cases ha
      · cases ha
    · simp only [am_cv, am_call] at ha
      split at ha
      · split at ha
        · split at ha <;> cases ha
        · cases ha
      · cases ha
  | invokestatic i =>
    obtain rfl : len = 3 := by simpa [am_lenok] using hlen
    simp only [am_act] at ha
    simp only [am_lchk] at hlk
    split at ha
    · next h6 =>
      rw [if_pos h6] at hlk
      split at ha
      · split at ha
        · next h8 => exact am_acopy X hd (am_word_in hlk) h8 ha K0
        · cases ha
      · cases ha
    · next h6 =>
      rw [if_neg h6] at hlk
      split at ha
      · next h10 =>
        rw [if_pos h10] at hlk
        simp only [Bool.and_eq_true, decide_eq_true_eq] at hlk
        exact am_math X h10 hlk.2 hd (am_word_in hlk.1) (by omega) (by omega) ha K0
      · simp only [am_call] at ha
        split at ha
        · split at ha <;> cases ha
        · cases ha
  | ireturn =>
    obtain rfl : len = 1 := by simpa [am_lenok] using hlen
    simp only [am_act] at ha
    split at ha
    · split at ha <;> cases ha
    · cases ha
  | lreturn =>
    obtain rfl : len = 1 := by simpa [am_lenok] using hlen
    simp only [am_act] at ha
    split at ha
    · split at ha <;> cases ha
    · cases ha
  | areturn =>
    obtain rfl : len = 1 := by simpa [am_lenok] using hlen
    simp only [am_act] at ha
    split at ha
    · split at ha <;> cases ha
    · cases ha
  | return_ =>
    obtain rfl : len = 1 := by simpa [am_lenok] using hlen
    simp only [am_act] at ha
    split at ha
    · split at ha <;> cases ha
    · cases ha
  | _ => simp [am_act] at ha
end
