/-! entries of the methods (printed by wip/whole/gen_entry.py) -/
section
variable {G : Nat → Value} {d : Nat} {M : am_M}
theorem e_Law_law {a0 : Nat} : am_ex G (d + 1) K_Law_law [.ref a0] M = am_run G d K_Law_law (0, [some (.ref a0), none, none, none], [], M) := by
  unfold am_ex
  rw [if_neg (Nat.succ_ne_zero d)]
  rfl
theorem e_H_init {q : Nat} : am_ex G (d + 1) K_H_init [.ref q] M = am_run G d K_H_init (0, [some (.ref q), none], [], M) := by
  unfold am_ex
  rw [if_neg (Nat.succ_ne_zero d)]
  rfl
theorem e_Ta_init {q : Nat} : am_ex G (d + 1) K_Ta_init [.ref q] M = am_run G d K_Ta_init (0, [some (.ref q)], [], M) := by
  unfold am_ex
  rw [if_neg (Nat.succ_ne_zero d)]
  rfl
theorem e_Sp_init {q : Nat} : am_ex G (d + 1) K_Sp_init [.ref q] M = am_run G d K_Sp_init (0, [some (.ref q)], [], M) := by
  unfold am_ex
  rw [if_neg (Nat.succ_ne_zero d)]
  rfl
theorem e_Js_length {q : Nat} : am_ex G (d + 1) K_Js_length [.ref q] M = am_run G d K_Js_length (0, [some (.ref q)], [], M) := by
  unfold am_ex
  rw [if_neg (Nat.succ_ne_zero d)]
  rfl
theorem e_Js_coder {q : Nat} : am_ex G (d + 1) K_Js_coder [.ref q] M = am_run G d K_Js_coder (0, [some (.ref q)], [], M) := by
  unfold am_ex
  rw [if_neg (Nat.succ_ne_zero d)]
  rfl
theorem e_Js_charAt {q : Nat} {a0 : Int32} : am_ex G (d + 1) K_Js_charAt [.ref q, .int a0] M = am_run G d K_Js_charAt (0, [some (.ref q), some (.int a0)], [], M) := by
  unfold am_ex
  rw [if_neg (Nat.succ_ne_zero d)]
  rfl
theorem e_Js_isLatin1 {q : Nat} : am_ex G (d + 1) K_Js_isLatin1 [.ref q] M = am_run G d K_Js_isLatin1 (0, [some (.ref q)], [], M) := by
  unfold am_ex
  rw [if_neg (Nat.succ_ne_zero d)]
  rfl
theorem e_Jl_charAt {a0 : Nat} {a1 : Int32} : am_ex G (d + 1) K_Jl_charAt [.ref a0, .int a1] M = am_run G d K_Jl_charAt (0, [some (.ref a0), some (.int a1)], [], M) := by
  unfold am_ex
  rw [if_neg (Nat.succ_ne_zero d)]
  rfl
theorem e_Js_checkIndex {a0 : Int32} {a1 : Int32} : am_ex G (d + 1) K_Js_checkIndex [.int a0, .int a1] M = am_run G d K_Js_checkIndex (0, [some (.int a0), some (.int a1)], [], M) := by
  unfold am_ex
  rw [if_neg (Nat.succ_ne_zero d)]
  rfl
theorem e_Jp_checkIndex {a0 : Int32} {a1 : Int32} {a2 : Nat} : am_ex G (d + 1) K_Jp_checkIndex [.int a0, .int a1, .ref a2] M = am_run G d K_Jp_checkIndex (0, [some (.int a0), some (.int a1), some (.ref a2)], [], M) := by
  unfold am_ex
  rw [if_neg (Nat.succ_ne_zero d)]
  rfl
theorem e_Ta_append {q : Nat} {a0 : Int32} : am_ex G (d + 1) K_Ta_append [.ref q, .int a0] M = am_run G d K_Ta_append (0, [some (.ref q), some (.int a0)], [], M) := by
  unfold am_ex
  rw [if_neg (Nat.succ_ne_zero d)]
  rfl
theorem e_Ta_read {q : Nat} : am_ex G (d + 1) K_Ta_read [.ref q] M = am_run G d K_Ta_read (0, [some (.ref q), none, none, none], [], M) := by
  unfold am_ex
  rw [if_neg (Nat.succ_ne_zero d)]
  rfl
theorem e_Ta_step {q : Nat} : am_ex G (d + 1) K_Ta_step [.ref q] M = am_run G d K_Ta_step (0, [some (.ref q), none], [], M) := by
  unfold am_ex
  rw [if_neg (Nat.succ_ne_zero d)]
  rfl
theorem e_Ta_byteAt {q : Nat} {a0 : Int32} : am_ex G (d + 1) K_Ta_byteAt [.ref q, .int a0] M = am_run G d K_Ta_byteAt (0, [some (.ref q), some (.int a0)], [], M) := by
  unfold am_ex
  rw [if_neg (Nat.succ_ne_zero d)]
  rfl
theorem e_Ta_isLetter {a0 : Int32} : am_ex G (d + 1) K_Ta_isLetter [.int a0] M = am_run G d K_Ta_isLetter (0, [some (.int a0)], [], M) := by
  unfold am_ex
  rw [if_neg (Nat.succ_ne_zero d)]
  rfl
theorem e_Ta_readWord {q : Nat} : am_ex G (d + 1) K_Ta_readWord [.ref q] M = am_run G d K_Ta_readWord (0, [some (.ref q), none], [], M) := by
  unfold am_ex
  rw [if_neg (Nat.succ_ne_zero d)]
  rfl
theorem e_Ta_wordAt {a0 : Int32} : am_ex G (d + 1) K_Ta_wordAt [.int a0] M = am_run G d K_Ta_wordAt (0, [some (.int a0)], [], M) := by
  unfold am_ex
  rw [if_neg (Nat.succ_ne_zero d)]
  rfl
theorem e_Ta_isWord {q : Nat} {a0 : Nat} : am_ex G (d + 1) K_Ta_isWord [.ref q, .ref a0] M = am_run G d K_Ta_isWord (0, [some (.ref q), some (.ref a0), none], [], M) := by
  unfold am_ex
  rw [if_neg (Nat.succ_ne_zero d)]
  rfl
theorem e_Ta_isDigit {a0 : Int32} : am_ex G (d + 1) K_Ta_isDigit [.int a0] M = am_run G d K_Ta_isDigit (0, [some (.int a0)], [], M) := by
  unfold am_ex
  rw [if_neg (Nat.succ_ne_zero d)]
  rfl
theorem e_Ta_readNumber {q : Nat} : am_ex G (d + 1) K_Ta_readNumber [.ref q] M = am_run G d K_Ta_readNumber (0, [some (.ref q)], [], M) := by
  unfold am_ex
  rw [if_neg (Nat.succ_ne_zero d)]
  rfl
theorem e_Js_indexOf {q : Nat} {a0 : Int32} : am_ex G (d + 1) K_Js_indexOf [.ref q, .int a0] M = am_run G d K_Js_indexOf (0, [some (.ref q), some (.int a0)], [], M) := by
  unfold am_ex
  rw [if_neg (Nat.succ_ne_zero d)]
  rfl
theorem e_Js_indexOf_1 {q : Nat} {a0 : Int32} {a1 : Int32} : am_ex G (d + 1) K_Js_indexOf_1 [.ref q, .int a0, .int a1] M = am_run G d K_Js_indexOf_1 (0, [some (.ref q), some (.int a0), some (.int a1)], [], M) := by
  unfold am_ex
  rw [if_neg (Nat.succ_ne_zero d)]
  rfl
theorem e_Jl_indexOf {a0 : Nat} {a1 : Int32} {a2 : Int32} {a3 : Int32} : am_ex G (d + 1) K_Jl_indexOf [.ref a0, .int a1, .int a2, .int a3] M = am_run G d K_Jl_indexOf (0, [some (.ref a0), some (.int a1), some (.int a2), some (.int a3)], [], M) := by
  unfold am_ex
  rw [if_neg (Nat.succ_ne_zero d)]
  rfl
theorem e_Jl_canEncode {a0 : Int32} : am_ex G (d + 1) K_Jl_canEncode [.int a0] M = am_run G d K_Jl_canEncode (0, [some (.int a0)], [], M) := by
  unfold am_ex
  rw [if_neg (Nat.succ_ne_zero d)]
  rfl
theorem e_Jl_indexOfChar {a0 : Nat} {a1 : Int32} {a2 : Int32} {a3 : Int32} : am_ex G (d + 1) K_Jl_indexOfChar [.ref a0, .int a1, .int a2, .int a3] M = am_run G d K_Jl_indexOfChar (0, [some (.ref a0), some (.int a1), some (.int a2), some (.int a3), none, none], [], M) := by
  unfold am_ex
  rw [if_neg (Nat.succ_ne_zero d)]
  rfl
theorem e_Js_checkBoundsBeginEnd {a0 : Int32} {a1 : Int32} {a2 : Int32} : am_ex G (d + 1) K_Js_checkBoundsBeginEnd [.int a0, .int a1, .int a2] M = am_run G d K_Js_checkBoundsBeginEnd (0, [some (.int a0), some (.int a1), some (.int a2)], [], M) := by
  unfold am_ex
  rw [if_neg (Nat.succ_ne_zero d)]
  rfl
theorem e_Jp_checkFromToIndex {a0 : Int32} {a1 : Int32} {a2 : Int32} {a3 : Nat} : am_ex G (d + 1) K_Jp_checkFromToIndex [.int a0, .int a1, .int a2, .ref a3] M = am_run G d K_Jp_checkFromToIndex (0, [some (.int a0), some (.int a1), some (.int a2), some (.ref a3)], [], M) := by
  unfold am_ex
  rw [if_neg (Nat.succ_ne_zero d)]
  rfl
theorem e_Ta_readPart {q : Nat} {a0 : Int32} : am_ex G (d + 1) K_Ta_readPart [.ref q, .int a0] M = am_run G d K_Ta_readPart (0, [some (.ref q), some (.int a0)], [], M) := by
  unfold am_ex
  rw [if_neg (Nat.succ_ne_zero d)]
  rfl
theorem e_Ta_readE {q : Nat} {a0 : Int32} : am_ex G (d + 1) K_Ta_readE [.ref q, .int a0] M = am_run G d K_Ta_readE (0, [some (.ref q), some (.int a0), none], [], M) := by
  unfold am_ex
  rw [if_neg (Nat.succ_ne_zero d)]
  rfl
theorem e_Ta_readAnd {q : Nat} {a0 : Int32} : am_ex G (d + 1) K_Ta_readAnd [.ref q, .int a0] M = am_run G d K_Ta_readAnd (0, [some (.ref q), some (.int a0), none], [], M) := by
  unfold am_ex
  rw [if_neg (Nat.succ_ne_zero d)]
  rfl
theorem e_Ta_readNot {q : Nat} {a0 : Int32} : am_ex G (d + 1) K_Ta_readNot [.ref q, .int a0] M = am_run G d K_Ta_readNot (0, [some (.ref q), some (.int a0), none], [], M) := by
  unfold am_ex
  rw [if_neg (Nat.succ_ne_zero d)]
  rfl
theorem e_Ta_write {q : Nat} {a0 : Int32} : am_ex G (d + 1) K_Ta_write [.ref q, .int a0] M = am_run G d K_Ta_write (0, [some (.ref q), some (.int a0)], [], M) := by
  unfold am_ex
  rw [if_neg (Nat.succ_ne_zero d)]
  rfl
theorem e_Ta_readSum {q : Nat} {a0 : Int32} : am_ex G (d + 1) K_Ta_readSum [.ref q, .int a0] M = am_run G d K_Ta_readSum (0, [some (.ref q), some (.int a0), none, none], [], M) := by
  unfold am_ex
  rw [if_neg (Nat.succ_ne_zero d)]
  rfl
theorem e_Ta_readTerm {q : Nat} {a0 : Int32} : am_ex G (d + 1) K_Ta_readTerm [.ref q, .int a0] M = am_run G d K_Ta_readTerm (0, [some (.ref q), some (.int a0), none], [], M) := by
  unfold am_ex
  rw [if_neg (Nat.succ_ne_zero d)]
  rfl
theorem e_Ta_readOne {q : Nat} {a0 : Int32} : am_ex G (d + 1) K_Ta_readOne [.ref q, .int a0] M = am_run G d K_Ta_readOne (0, [some (.ref q), some (.int a0)], [], M) := by
  unfold am_ex
  rw [if_neg (Nat.succ_ne_zero d)]
  rfl
theorem e_Ja_copyOf {a0 : Nat} {a1 : Int32} : am_ex G (d + 1) K_Ja_copyOf [.ref a0, .int a1] M = am_run G d K_Ja_copyOf (0, [some (.ref a0), some (.int a1), none], [], M) := by
  unfold am_ex
  rw [if_neg (Nat.succ_ne_zero d)]
  rfl
theorem e_Te_init {q : Nat} {a0 : Nat} {a1 : Nat} : am_ex G (d + 1) K_Te_init [.ref q, .ref a0, .ref a1] M = am_run G d K_Te_init (0, [some (.ref q), some (.ref a0), some (.ref a1)], [], M) := by
  unfold am_ex
  rw [if_neg (Nat.succ_ne_zero d)]
  rfl
theorem e_Sh_init {q : Nat} : am_ex G (d + 1) K_Sh_init [.ref q] M = am_run G d K_Sh_init (0, [some (.ref q)], [], M) := by
  unfold am_ex
  rw [if_neg (Nat.succ_ne_zero d)]
  rfl
theorem e_H_stuff {q : Nat} {a0 : Int32} {a1 : Int32} : am_ex G (d + 1) K_H_stuff [.ref q, .int a0, .int a1] M = am_run G d K_H_stuff (0, [some (.ref q), some (.int a0), some (.int a1)], [], M) := by
  unfold am_ex
  rw [if_neg (Nat.succ_ne_zero d)]
  rfl
theorem e_H_within {a0 : Int32} {a1 : Int32} {a2 : Int32} : am_ex G (d + 1) K_H_within [.int a0, .int a1, .int a2] M = am_run G d K_H_within (0, [some (.int a0), some (.int a1), some (.int a2)], [], M) := by
  unfold am_ex
  rw [if_neg (Nat.succ_ne_zero d)]
  rfl
theorem e_Su_init {q : Nat} {a0 : Int32} {a1 : Int32} : am_ex G (d + 1) K_Su_init [.ref q, .int a0, .int a1] M = am_run G d K_Su_init (0, [some (.ref q), some (.int a0), some (.int a1)], [], M) := by
  unfold am_ex
  rw [if_neg (Nat.succ_ne_zero d)]
  rfl
theorem e_H_hall {q : Nat} {a0 : Int32} {a1 : Int32} {a2 : Int32} : am_ex G (d + 1) K_H_hall [.ref q, .int a0, .int a1, .int a2] M = am_run G d K_H_hall (0, [some (.ref q), some (.int a0), some (.int a1), some (.int a2)], [], M) := by
  unfold am_ex
  rw [if_neg (Nat.succ_ne_zero d)]
  rfl
theorem e_Ha_init {q : Nat} {a0 : Int32} {a1 : Int32} {a2 : Int32} : am_ex G (d + 1) K_Ha_init [.ref q, .int a0, .int a1, .int a2] M = am_run G d K_Ha_init (0, [some (.ref q), some (.int a0), some (.int a1), some (.int a2)], [], M) := by
  unfold am_ex
  rw [if_neg (Nat.succ_ne_zero d)]
  rfl
theorem e_H_surface {q : Nat} {a0 : Int32} {a1 : Int32} {a2 : Int32} : am_ex G (d + 1) K_H_surface [.ref q, .int a0, .int a1, .int a2] M = am_run G d K_H_surface (0, [some (.ref q), some (.int a0), some (.int a1), some (.int a2), none], [], M) := by
  unfold am_ex
  rw [if_neg (Nat.succ_ne_zero d)]
  rfl
theorem e_H_hallAt {q : Nat} {a0 : Int32} : am_ex G (d + 1) K_H_hallAt [.ref q, .int a0] M = am_run G d K_H_hallAt (0, [some (.ref q), some (.int a0)], [], M) := by
  unfold am_ex
  rw [if_neg (Nat.succ_ne_zero d)]
  rfl
theorem e_H_stuffAt {q : Nat} {a0 : Int32} : am_ex G (d + 1) K_H_stuffAt [.ref q, .int a0] M = am_run G d K_H_stuffAt (0, [some (.ref q), some (.int a0)], [], M) := by
  unfold am_ex
  rw [if_neg (Nat.succ_ne_zero d)]
  rfl
theorem e_Ha_addSurface {q : Nat} {a0 : Int32} {a1 : Int32} : am_ex G (d + 1) K_Ha_addSurface [.ref q, .int a0, .int a1] M = am_run G d K_Ha_addSurface (0, [some (.ref q), some (.int a0), some (.int a1)], [], M) := by
  unfold am_ex
  rw [if_neg (Nat.succ_ne_zero d)]
  rfl
theorem e_H_cover {q : Nat} {a0 : Int32} {a1 : Int32} {a2 : Int32} : am_ex G (d + 1) K_H_cover [.ref q, .int a0, .int a1, .int a2] M = am_run G d K_H_cover (0, [some (.ref q), some (.int a0), some (.int a1), some (.int a2), none], [], M) := by
  unfold am_ex
  rw [if_neg (Nat.succ_ne_zero d)]
  rfl
theorem e_Ha_hasSurface {q : Nat} {a0 : Int32} : am_ex G (d + 1) K_Ha_hasSurface [.ref q, .int a0] M = am_run G d K_Ha_hasSurface (0, [some (.ref q), some (.int a0)], [], M) := by
  unfold am_ex
  rw [if_neg (Nat.succ_ne_zero d)]
  rfl
theorem e_Ha_coverWith {q : Nat} {a0 : Int32} {a1 : Int32} : am_ex G (d + 1) K_Ha_coverWith [.ref q, .int a0, .int a1] M = am_run G d K_Ha_coverWith (0, [some (.ref q), some (.int a0), some (.int a1), none], [], M) := by
  unfold am_ex
  rw [if_neg (Nat.succ_ne_zero d)]
  rfl
theorem e_H_set {q : Nat} {a0 : Int32} {a1 : Int32} : am_ex G (d + 1) K_H_set [.ref q, .int a0, .int a1] M = am_run G d K_H_set (0, [some (.ref q), some (.int a0), some (.int a1), none], [], M) := by
  unfold am_ex
  rw [if_neg (Nat.succ_ne_zero d)]
  rfl
theorem e_H_eaten {q : Nat} {a0 : Int32} {a1 : Int32} {a2 : Int32} : am_ex G (d + 1) K_H_eaten [.ref q, .int a0, .int a1, .int a2] M = am_run G d K_H_eaten (0, [some (.ref q), some (.int a0), some (.int a1), some (.int a2), none, none, none], [], M) := by
  unfold am_ex
  rw [if_neg (Nat.succ_ne_zero d)]
  rfl
theorem e_H_eatenIn {q : Nat} {a0 : Nat} {a1 : Int32} : am_ex G (d + 1) K_H_eatenIn [.ref q, .ref a0, .int a1] M = am_run G d K_H_eatenIn (0, [some (.ref q), some (.ref a0), some (.int a1), none, none, none, none], [], M) := by
  unfold am_ex
  rw [if_neg (Nat.succ_ne_zero d)]
  rfl
theorem e_Su_eatsBy {q : Nat} {a0 : Int32} : am_ex G (d + 1) K_Su_eatsBy [.ref q, .int a0] M = am_run G d K_Su_eatsBy (0, [some (.ref q), some (.int a0)], [], M) := by
  unfold am_ex
  rw [if_neg (Nat.succ_ne_zero d)]
  rfl
theorem e_H_timeOf {a0 : Nat} {a1 : Int32} {a2 : Int64} : am_ex G (d + 1) K_H_timeOf [.ref a0, .int a1, .long a2] M = am_run G d K_H_timeOf (0, [some (.ref a0), some (.int a1), some (.long a2), none], [], M) := by
  unfold am_ex
  rw [if_neg (Nat.succ_ne_zero d)]
  rfl
theorem e_Ha_room {q : Nat} : am_ex G (d + 1) K_Ha_room [.ref q] M = am_run G d K_Ha_room (0, [some (.ref q)], [], M) := by
  unfold am_ex
  rw [if_neg (Nat.succ_ne_zero d)]
  rfl
theorem e_H_quotient {a0 : Int64} {a1 : Int64} : am_ex G (d + 1) K_H_quotient [.long a0, .long a1] M = am_run G d K_H_quotient (0, [some (.long a0), none, some (.long a1), none], [], M) := by
  unfold am_ex
  rw [if_neg (Nat.succ_ne_zero d)]
  rfl
theorem e_H_night {q : Nat} {a0 : Int32} {a1 : Int32} {a2 : Int32} {a3 : Int32} {a4 : Int32} : am_ex G (d + 1) K_H_night [.ref q, .int a0, .int a1, .int a2, .int a3, .int a4] M = am_run G d K_H_night (0, [some (.ref q), some (.int a0), some (.int a1), some (.int a2), some (.int a3), some (.int a4), none], [], M) := by
  unfold am_ex
  rw [if_neg (Nat.succ_ne_zero d)]
  rfl
theorem e_H_hallOf {q : Nat} {a0 : Int32} : am_ex G (d + 1) K_H_hallOf [.ref q, .int a0] M = am_run G d K_H_hallOf (0, [some (.ref q), some (.int a0)], [], M) := by
  unfold am_ex
  rw [if_neg (Nat.succ_ne_zero d)]
  rfl
theorem e_Ni_init {q : Nat} {a0 : Int32} {a1 : Nat} {a2 : Int32} {a3 : Int32} {a4 : Int32} {a5 : Int32} : am_ex G (d + 1) K_Ni_init [.ref q, .int a0, .ref a1, .int a2, .int a3, .int a4, .int a5] M = am_run G d K_Ni_init (0, [some (.ref q), some (.int a0), some (.ref a1), some (.int a2), some (.int a3), some (.int a4), some (.int a5)], [], M) := by
  unfold am_ex
  rw [if_neg (Nat.succ_ne_zero d)]
  rfl
theorem e_H_told {q : Nat} {a0 : Int32} {a1 : Int32} : am_ex G (d + 1) K_H_told [.ref q, .int a0, .int a1] M = am_run G d K_H_told (0, [some (.ref q), some (.int a0), some (.int a1), none], [], M) := by
  unfold am_ex
  rw [if_neg (Nat.succ_ne_zero d)]
  rfl
theorem e_H_nightAt {q : Nat} {a0 : Int32} : am_ex G (d + 1) K_H_nightAt [.ref q, .int a0] M = am_run G d K_H_nightAt (0, [some (.ref q), some (.int a0)], [], M) := by
  unfold am_ex
  rw [if_neg (Nat.succ_ne_zero d)]
  rfl
theorem e_H_moreOf {q : Nat} {a0 : Nat} {a1 : Int32} : am_ex G (d + 1) K_H_moreOf [.ref q, .ref a0, .int a1] M = am_run G d K_H_moreOf (0, [some (.ref q), some (.ref a0), some (.int a1), none, none, none, none], [], M) := by
  unfold am_ex
  rw [if_neg (Nat.succ_ne_zero d)]
  rfl
theorem e_H_lateOf {q : Nat} {a0 : Nat} : am_ex G (d + 1) K_H_lateOf [.ref q, .ref a0] M = am_run G d K_H_lateOf (0, [some (.ref q), some (.ref a0), none, none], [], M) := by
  unfold am_ex
  rw [if_neg (Nat.succ_ne_zero d)]
  rfl
theorem e_H_ruleNow {q : Nat} : am_ex G (d + 1) K_H_ruleNow [.ref q] M = am_run G d K_H_ruleNow (0, [some (.ref q)], [], M) := by
  unfold am_ex
  rw [if_neg (Nat.succ_ne_zero d)]
  rfl
theorem e_Te_lateOf {q : Nat} {a0 : Nat} : am_ex G (d + 1) K_Te_lateOf [.ref q, .ref a0] M = am_run G d K_Te_lateOf (0, [some (.ref q), some (.ref a0)], [], M) := by
  unfold am_ex
  rw [if_neg (Nat.succ_ne_zero d)]
  rfl
theorem e_Te_workOff {q : Nat} {a0 : Nat} {a1 : Nat} : am_ex G (d + 1) K_Te_workOff [.ref q, .ref a0, .ref a1] M = am_run G d K_Te_workOff (0, [some (.ref q), some (.ref a0), some (.ref a1), none, none, none], [], M) := by
  unfold am_ex
  rw [if_neg (Nat.succ_ne_zero d)]
  rfl
theorem e_Ni_part {q : Nat} {a0 : Int32} : am_ex G (d + 1) K_Ni_part [.ref q, .int a0] M = am_run G d K_Ni_part (0, [some (.ref q), some (.int a0)], [], M) := by
  unfold am_ex
  rw [if_neg (Nat.succ_ne_zero d)]
  rfl
theorem e_Te_join {a0 : Int32} {a1 : Int32} {a2 : Int32} : am_ex G (d + 1) K_Te_join [.int a0, .int a1, .int a2] M = am_run G d K_Te_join (0, [some (.int a0), some (.int a1), some (.int a2)], [], M) := by
  unfold am_ex
  rw [if_neg (Nat.succ_ne_zero d)]
  rfl
theorem e_H_dueOf {q : Nat} {a0 : Nat} : am_ex G (d + 1) K_H_dueOf [.ref q, .ref a0] M = am_run G d K_H_dueOf (0, [some (.ref q), some (.ref a0), none, none], [], M) := by
  unfold am_ex
  rw [if_neg (Nat.succ_ne_zero d)]
  rfl
theorem e_H_isLeftOut {q : Nat} {a0 : Nat} : am_ex G (d + 1) K_H_isLeftOut [.ref q, .ref a0] M = am_run G d K_H_isLeftOut (0, [some (.ref q), some (.ref a0), none], [], M) := by
  unfold am_ex
  rw [if_neg (Nat.succ_ne_zero d)]
  rfl
theorem e_Te_leavesOut {q : Nat} {a0 : Nat} : am_ex G (d + 1) K_Te_leavesOut [.ref q, .ref a0] M = am_run G d K_Te_leavesOut (0, [some (.ref q), some (.ref a0)], [], M) := by
  unfold am_ex
  rw [if_neg (Nat.succ_ne_zero d)]
  rfl
theorem e_H_feed {q : Nat} {a0 : Int32} {a1 : Int64} : am_ex G (d + 1) K_H_feed [.ref q, .int a0, .long a1] M = am_run G d K_H_feed (0, [some (.ref q), some (.int a0), some (.long a1), none, none], [], M) := by
  unfold am_ex
  rw [if_neg (Nat.succ_ne_zero d)]
  rfl
theorem e_Ta_hasRoom {q : Nat} {a0 : Int32} : am_ex G (d + 1) K_Ta_hasRoom [.ref q, .int a0] M = am_run G d K_Ta_hasRoom (0, [some (.ref q), some (.int a0)], [], M) := by
  unfold am_ex
  rw [if_neg (Nat.succ_ne_zero d)]
  rfl
theorem e_H_text {q : Nat} : am_ex G (d + 1) K_H_text [.ref q] M = am_run G d K_H_text (0, [some (.ref q), none], [], M) := by
  unfold am_ex
  rw [if_neg (Nat.succ_ne_zero d)]
  rfl
theorem e_H_force {q : Nat} {a0 : Int32} : am_ex G (d + 1) K_H_force [.ref q, .int a0] M = am_run G d K_H_force (0, [some (.ref q), some (.int a0), none], [], M) := by
  unfold am_ex
  rw [if_neg (Nat.succ_ne_zero d)]
  rfl
theorem e_H_fit {q : Nat} {a0 : Int32} {a1 : Int32} {a2 : Int32} : am_ex G (d + 1) K_H_fit [.ref q, .int a0, .int a1, .int a2] M = am_run G d K_H_fit (0, [some (.ref q), some (.int a0), some (.int a1), some (.int a2), none, none, none, none, none, none, none, none, none, none], [], M) := by
  unfold am_ex
  rw [if_neg (Nat.succ_ne_zero d)]
  rfl
theorem e_H_areLaws {a0 : Int32} {a1 : Int32} : am_ex G (d + 1) K_H_areLaws [.int a0, .int a1] M = am_run G d K_H_areLaws (0, [some (.int a0), some (.int a1)], [], M) := by
  unfold am_ex
  rw [if_neg (Nat.succ_ne_zero d)]
  rfl
theorem e_H_gatherSpeakers {q : Nat} {a0 : Int32} : am_ex G (d + 1) K_H_gatherSpeakers [.ref q, .int a0] M = am_run G d K_H_gatherSpeakers (0, [some (.ref q), some (.int a0), none, none], [], M) := by
  unfold am_ex
  rw [if_neg (Nat.succ_ne_zero d)]
  rfl
theorem e_Sp_hear {q : Nat} {a0 : Nat} {a1 : Int32} {a2 : Int64} {a3 : Int32} : am_ex G (d + 1) K_Sp_hear [.ref q, .ref a0, .int a1, .long a2, .int a3] M = am_run G d K_Sp_hear (0, [some (.ref q), some (.ref a0), some (.int a1), some (.long a2), none, some (.int a3)], [], M) := by
  unfold am_ex
  rw [if_neg (Nat.succ_ne_zero d)]
  rfl
theorem e_H_tryCushion {q : Nat} {a0 : Int32} : am_ex G (d + 1) K_H_tryCushion [.ref q, .int a0] M = am_run G d K_H_tryCushion (0, [some (.ref q), some (.int a0), none, none], [], M) := by
  unfold am_ex
  rw [if_neg (Nat.succ_ne_zero d)]
  rfl
theorem e_Sp_speakerAt {q : Nat} {a0 : Int32} : am_ex G (d + 1) K_Sp_speakerAt [.ref q, .int a0] M = am_run G d K_Sp_speakerAt (0, [some (.ref q), some (.int a0)], [], M) := by
  unfold am_ex
  rw [if_neg (Nat.succ_ne_zero d)]
  rfl
theorem e_Sp_eatAlso {q : Nat} {a0 : Int32} {a1 : Int64} : am_ex G (d + 1) K_Sp_eatAlso [.ref q, .int a0, .long a1] M = am_run G d K_Sp_eatAlso (0, [some (.ref q), some (.int a0), some (.long a1), none], [], M) := by
  unfold am_ex
  rw [if_neg (Nat.succ_ne_zero d)]
  rfl
theorem e_Sp_sumUpTo {q : Nat} {a0 : Int32} {a1 : Int64} : am_ex G (d + 1) K_Sp_sumUpTo [.ref q, .int a0, .long a1] M = am_run G d K_Sp_sumUpTo (0, [some (.ref q), some (.int a0), some (.long a1), none, none, none, none], [], M) := by
  unfold am_ex
  rw [if_neg (Nat.succ_ne_zero d)]
  rfl
theorem e_Sp_offBy {q : Nat} {a0 : Int32} {a1 : Int32} : am_ex G (d + 1) K_Sp_offBy [.ref q, .int a0, .int a1] M = am_run G d K_Sp_offBy (0, [some (.ref q), some (.int a0), some (.int a1)], [], M) := by
  unfold am_ex
  rw [if_neg (Nat.succ_ne_zero d)]
  rfl
theorem e_H_lets {q : Nat} {a0 : Int32} {a1 : Int32} {a2 : Int32} : am_ex G (d + 1) K_H_lets [.ref q, .int a0, .int a1, .int a2] M = am_run G d K_H_lets (0, [some (.ref q), some (.int a0), some (.int a1), some (.int a2)], [], M) := by
  unfold am_ex
  rw [if_neg (Nat.succ_ne_zero d)]
  rfl
theorem e_H_judgePairs {q : Nat} {a0 : Int32} {a1 : Int32} : am_ex G (d + 1) K_H_judgePairs [.ref q, .int a0, .int a1] M = am_run G d K_H_judgePairs (0, [some (.ref q), some (.int a0), some (.int a1), none, none, none], [], M) := by
  unfold am_ex
  rw [if_neg (Nat.succ_ne_zero d)]
  rfl
theorem e_Sp_forgetVerdicts {q : Nat} : am_ex G (d + 1) K_Sp_forgetVerdicts [.ref q] M = am_run G d K_Sp_forgetVerdicts (0, [some (.ref q)], [], M) := by
  unfold am_ex
  rw [if_neg (Nat.succ_ne_zero d)]
  rfl
theorem e_Sp_judge {q : Nat} {a0 : Int32} {a1 : Int32} {a2 : Int32} {a3 : Int32} : am_ex G (d + 1) K_Sp_judge [.ref q, .int a0, .int a1, .int a2, .int a3] M = am_run G d K_Sp_judge (0, [some (.ref q), some (.int a0), some (.int a1), some (.int a2), some (.int a3), none, none, none, none, none], [], M) := by
  unfold am_ex
  rw [if_neg (Nat.succ_ne_zero d)]
  rfl
theorem e_Sp_leastLaw {q : Nat} {a0 : Int32} {a1 : Int64} : am_ex G (d + 1) K_Sp_leastLaw [.ref q, .int a0, .long a1] M = am_run G d K_Sp_leastLaw (0, [some (.ref q), some (.int a0), some (.long a1), none], [], M) := by
  unfold am_ex
  rw [if_neg (Nat.succ_ne_zero d)]
  rfl
theorem e_Sp_mostLaw {q : Nat} {a0 : Int32} {a1 : Int64} : am_ex G (d + 1) K_Sp_mostLaw [.ref q, .int a0, .long a1] M = am_run G d K_Sp_mostLaw (0, [some (.ref q), some (.int a0), some (.long a1), none], [], M) := by
  unfold am_ex
  rw [if_neg (Nat.succ_ne_zero d)]
  rfl
theorem e_H_thrownOut {q : Nat} {a0 : Int32} {a1 : Int32} : am_ex G (d + 1) K_H_thrownOut [.ref q, .int a0, .int a1] M = am_run G d K_H_thrownOut (0, [some (.ref q), some (.int a0), some (.int a1)], [], M) := by
  unfold am_ex
  rw [if_neg (Nat.succ_ne_zero d)]
  rfl
theorem e_Sp_numberAt {q : Nat} {a0 : Int32} : am_ex G (d + 1) K_Sp_numberAt [.ref q, .int a0] M = am_run G d K_Sp_numberAt (0, [some (.ref q), some (.int a0)], [], M) := by
  unfold am_ex
  rw [if_neg (Nat.succ_ne_zero d)]
  rfl
theorem e_H_better {q : Nat} {a0 : Int32} {a1 : Int32} : am_ex G (d + 1) K_H_better [.ref q, .int a0, .int a1] M = am_run G d K_H_better (0, [some (.ref q), some (.int a0), some (.int a1), none, none, none, none], [], M) := by
  unfold am_ex
  rw [if_neg (Nat.succ_ne_zero d)]
  rfl
theorem e_Sp_straightSum {q : Nat} : am_ex G (d + 1) K_Sp_straightSum [.ref q] M = am_run G d K_Sp_straightSum (0, [some (.ref q), none, none, none, none, none, none, none, none], [], M) := by
  unfold am_ex
  rw [if_neg (Nat.succ_ne_zero d)]
  rfl
theorem e_Sp_sumOffLine {q : Nat} {a0 : Nat} {a1 : Nat} : am_ex G (d + 1) K_Sp_sumOffLine [.ref q, .ref a0, .ref a1] M = am_run G d K_Sp_sumOffLine (0, [some (.ref q), some (.ref a0), some (.ref a1), none, none, none, none, none, none], [], M) := by
  unfold am_ex
  rw [if_neg (Nat.succ_ne_zero d)]
  rfl
theorem e_Jg_compare {a0 : Int64} {a1 : Int64} : am_ex G (d + 1) K_Jg_compare [.long a0, .long a1] M = am_run G d K_Jg_compare (0, [some (.long a0), none, some (.long a1), none], [], M) := by
  unfold am_ex
  rw [if_neg (Nat.succ_ne_zero d)]
  rfl
theorem e_H_narrows {q : Nat} {a0 : Int32} {a1 : Int32} {a2 : Int32} {a3 : Int32} : am_ex G (d + 1) K_H_narrows [.ref q, .int a0, .int a1, .int a2, .int a3] M = am_run G d K_H_narrows (0, [some (.ref q), some (.int a0), some (.int a1), some (.int a2), some (.int a3), none, none, none, none, none, none, none, none, none, none, none], [], M) := by
  unfold am_ex
  rw [if_neg (Nat.succ_ne_zero d)]
  rfl
theorem e_H_plan {q : Nat} {a0 : Int32} {a1 : Int32} {a2 : Int32} : am_ex G (d + 1) K_H_plan [.ref q, .int a0, .int a1, .int a2] M = am_run G d K_H_plan (0, [some (.ref q), some (.int a0), some (.int a1), some (.int a2), none], [], M) := by
  unfold am_ex
  rw [if_neg (Nat.succ_ne_zero d)]
  rfl
theorem e_H_timeWith {q : Nat} {a0 : Nat} {a1 : Int32} {a2 : Int32} : am_ex G (d + 1) K_H_timeWith [.ref q, .ref a0, .int a1, .int a2] M = am_run G d K_H_timeWith (0, [some (.ref q), some (.ref a0), some (.int a1), some (.int a2)], [], M) := by
  unfold am_ex
  rw [if_neg (Nat.succ_ne_zero d)]
  rfl
theorem e_H_aim {q : Nat} {a0 : Int32} {a1 : Int32} {a2 : Int32} {a3 : Int32} {a4 : Int32} : am_ex G (d + 1) K_H_aim [.ref q, .int a0, .int a1, .int a2, .int a3, .int a4] M = am_run G d K_H_aim (0, [some (.ref q), some (.int a0), some (.int a1), some (.int a2), some (.int a3), some (.int a4), none, none], [], M) := by
  unfold am_ex
  rw [if_neg (Nat.succ_ne_zero d)]
  rfl
theorem e_Ai_init {q : Nat} {a0 : Nat} {a1 : Int32} {a2 : Int32} {a3 : Int32} {a4 : Int32} {a5 : Nat} {a6 : Int32} : am_ex G (d + 1) K_Ai_init [.ref q, .ref a0, .int a1, .int a2, .int a3, .int a4, .ref a5, .int a6] M = am_run G d K_Ai_init (0, [some (.ref q), some (.ref a0), some (.int a1), some (.int a2), some (.int a3), some (.int a4), some (.ref a5), some (.int a6)], [], M) := by
  unfold am_ex
  rw [if_neg (Nat.succ_ne_zero d)]
  rfl
theorem e_H_tryStuffs {a0 : Nat} {a1 : Int32} {a2 : Int64} {a3 : Int64} {a4 : Int64} : am_ex G (d + 1) K_H_tryStuffs [.ref a0, .int a1, .long a2, .long a3, .long a4] M = am_run G d K_H_tryStuffs (0, [some (.ref a0), some (.int a1), some (.long a2), none, some (.long a3), none, some (.long a4), none, none, none, none, none], [], M) := by
  unfold am_ex
  rw [if_neg (Nat.succ_ne_zero d)]
  rfl
theorem e_Ai_offer {q : Nat} {a0 : Int64} {a1 : Int64} {a2 : Int64} : am_ex G (d + 1) K_Ai_offer [.ref q, .long a0, .long a1, .long a2] M = am_run G d K_Ai_offer (0, [some (.ref q), some (.long a0), none, some (.long a1), none, some (.long a2), none], [], M) := by
  unfold am_ex
  rw [if_neg (Nat.succ_ne_zero d)]
  rfl
theorem e_H_wrong {q : Nat} {a0 : Int32} {a1 : Int32} {a2 : Int32} {a3 : Int32} {a4 : Int32} : am_ex G (d + 1) K_H_wrong [.ref q, .int a0, .int a1, .int a2, .int a3, .int a4] M = am_run G d K_H_wrong (0, [some (.ref q), some (.int a0), some (.int a1), some (.int a2), some (.int a3), some (.int a4), none, none, none], [], M) := by
  unfold am_ex
  rw [if_neg (Nat.succ_ne_zero d)]
  rfl
theorem e_H_guessOf {q : Nat} {a0 : Int32} {a1 : Nat} {a2 : Int64} {a3 : Int32} : am_ex G (d + 1) K_H_guessOf [.ref q, .int a0, .ref a1, .long a2, .int a3] M = am_run G d K_H_guessOf (0, [some (.ref q), some (.int a0), some (.ref a1), some (.long a2), none, some (.int a3), none, none, none, none], [], M) := by
  unfold am_ex
  rw [if_neg (Nat.succ_ne_zero d)]
  rfl
theorem e_Gu_init {q : Nat} {a0 : Int32} {a1 : Int32} {a2 : Int64} {a3 : Int64} {a4 : Int64} {a5 : Int64} : am_ex G (d + 1) K_Gu_init [.ref q, .int a0, .int a1, .long a2, .long a3, .long a4, .long a5] M = am_run G d K_Gu_init (0, [some (.ref q), some (.int a0), some (.int a1), some (.long a2), none, some (.long a3), none, some (.long a4), none, some (.long a5), none], [], M) := by
  unfold am_ex
  rw [if_neg (Nat.succ_ne_zero d)]
  rfl
theorem e_Gu_nearest {q : Nat} {a0 : Int64} : am_ex G (d + 1) K_Gu_nearest [.ref q, .long a0] M = am_run G d K_Gu_nearest (0, [some (.ref q), some (.long a0), none, none, none], [], M) := by
  unfold am_ex
  rw [if_neg (Nat.succ_ne_zero d)]
  rfl
theorem e_Gu_firstReaching {q : Nat} {a0 : Int64} : am_ex G (d + 1) K_Gu_firstReaching [.ref q, .long a0] M = am_run G d K_Gu_firstReaching (0, [some (.ref q), some (.long a0), none, none, none, none, none], [], M) := by
  unfold am_ex
  rw [if_neg (Nat.succ_ne_zero d)]
  rfl
theorem e_Gu_reaches {q : Nat} {a0 : Int32} {a1 : Int64} : am_ex G (d + 1) K_Gu_reaches [.ref q, .int a0, .long a1] M = am_run G d K_Gu_reaches (0, [some (.ref q), some (.int a0), some (.long a1), none], [], M) := by
  unfold am_ex
  rw [if_neg (Nat.succ_ne_zero d)]
  rfl
theorem e_Gu_timeBy {q : Nat} {a0 : Int32} : am_ex G (d + 1) K_Gu_timeBy [.ref q, .int a0] M = am_run G d K_Gu_timeBy (0, [some (.ref q), some (.int a0)], [], M) := by
  unfold am_ex
  rw [if_neg (Nat.succ_ne_zero d)]
  rfl
theorem e_H_echo {q : Nat} {a0 : Int32} {a1 : Int32} {a2 : Int32} {a3 : Int32} : am_ex G (d + 1) K_H_echo [.ref q, .int a0, .int a1, .int a2, .int a3] M = am_run G d K_H_echo (0, [some (.ref q), some (.int a0), some (.int a1), some (.int a2), some (.int a3), none, none, none], [], M) := by
  unfold am_ex
  rw [if_neg (Nat.succ_ne_zero d)]
  rfl
theorem e_Ha_seats {q : Nat} : am_ex G (d + 1) K_Ha_seats [.ref q] M = am_run G d K_Ha_seats (0, [some (.ref q)], [], M) := by
  unfold am_ex
  rw [if_neg (Nat.succ_ne_zero d)]
  rfl
theorem e_H_throwAbout {q : Nat} {a0 : Nat} {a1 : Int32} {a2 : Int32} {a3 : Int32} : am_ex G (d + 1) K_H_throwAbout [.ref q, .ref a0, .int a1, .int a2, .int a3] M = am_run G d K_H_throwAbout (0, [some (.ref q), some (.ref a0), some (.int a1), some (.int a2), some (.int a3), none, none, none, none, none, none], [], M) := by
  unfold am_ex
  rw [if_neg (Nat.succ_ne_zero d)]
  rfl
theorem e_Ja_fill {a0 : Nat} {a1 : Int32} : am_ex G (d + 1) K_Ja_fill [.ref a0, .int a1] M = am_run G d K_Ja_fill (0, [some (.ref a0), some (.int a1), none, none], [], M) := by
  unfold am_ex
  rw [if_neg (Nat.succ_ne_zero d)]
  rfl
theorem e_H_thrownBack {a0 : Int32} {a1 : Int32} {a2 : Int32} : am_ex G (d + 1) K_H_thrownBack [.int a0, .int a1, .int a2] M = am_run G d K_H_thrownBack (0, [some (.int a0), some (.int a1), some (.int a2)], [], M) := by
  unfold am_ex
  rw [if_neg (Nat.succ_ne_zero d)]
  rfl
theorem e_H_hears {q : Nat} {a0 : Int32} {a1 : Int32} {a2 : Int32} {a3 : Int32} : am_ex G (d + 1) K_H_hears [.ref q, .int a0, .int a1, .int a2, .int a3] M = am_run G d K_H_hears (0, [some (.ref q), some (.int a0), some (.int a1), some (.int a2), some (.int a3), none], [], M) := by
  unfold am_ex
  rw [if_neg (Nat.succ_ne_zero d)]
  rfl
theorem e_H_clear {q : Nat} {a0 : Int32} {a1 : Int32} : am_ex G (d + 1) K_H_clear [.ref q, .int a0, .int a1] M = am_run G d K_H_clear (0, [some (.ref q), some (.int a0), some (.int a1), none, none, none, none, none, none, none], [], M) := by
  unfold am_ex
  rw [if_neg (Nat.succ_ne_zero d)]
  rfl
theorem e_H_image {q : Nat} : am_ex G (d + 1) K_H_image [.ref q] M = am_run G d K_H_image (0, [some (.ref q), none, none], [], M) := by
  unfold am_ex
  rw [if_neg (Nat.succ_ne_zero d)]
  rfl
theorem e_Ha_keepSurfaces {q : Nat} : am_ex G (d + 1) K_Ha_keepSurfaces [.ref q] M = am_run G d K_Ha_keepSurfaces (0, [some (.ref q)], [], M) := by
  unfold am_ex
  rw [if_neg (Nat.succ_ne_zero d)]
  rfl
theorem e_H_back {q : Nat} : am_ex G (d + 1) K_H_back [.ref q] M = am_run G d K_H_back (0, [some (.ref q), none, none], [], M) := by
  unfold am_ex
  rw [if_neg (Nat.succ_ne_zero d)]
  rfl
theorem e_Ha_layBackSurfaces {q : Nat} : am_ex G (d + 1) K_Ha_layBackSurfaces [.ref q] M = am_run G d K_Ha_layBackSurfaces (0, [some (.ref q)], [], M) := by
  unfold am_ex
  rw [if_neg (Nat.succ_ne_zero d)]
  rfl
theorem e_H_count {q : Nat} {a0 : Int32} : am_ex G (d + 1) K_H_count [.ref q, .int a0] M = am_run G d K_H_count (0, [some (.ref q), some (.int a0)], [], M) := by
  unfold am_ex
  rw [if_neg (Nat.succ_ne_zero d)]
  rfl
theorem e_H_sheet {q : Nat} {a0 : Int32} {a1 : Int32} {a2 : Int32} : am_ex G (d + 1) K_H_sheet [.ref q, .int a0, .int a1, .int a2] M = am_run G d K_H_sheet (0, [some (.ref q), some (.int a0), some (.int a1), some (.int a2), none], [], M) := by
  unfold am_ex
  rw [if_neg (Nat.succ_ne_zero d)]
  rfl
theorem e_H_sheetAt {q : Nat} {a0 : Int32} : am_ex G (d + 1) K_H_sheetAt [.ref q, .int a0] M = am_run G d K_H_sheetAt (0, [some (.ref q), some (.int a0)], [], M) := by
  unfold am_ex
  rw [if_neg (Nat.succ_ne_zero d)]
  rfl
theorem e_Sh_become {q : Nat} {a0 : Int32} {a1 : Int32} : am_ex G (d + 1) K_Sh_become [.ref q, .int a0, .int a1] M = am_run G d K_Sh_become (0, [some (.ref q), some (.int a0), some (.int a1)], [], M) := by
  unfold am_ex
  rw [if_neg (Nat.succ_ne_zero d)]
  rfl
theorem e_H_cell {q : Nat} {a0 : Int32} {a1 : Int32} {a2 : Int32} : am_ex G (d + 1) K_H_cell [.ref q, .int a0, .int a1, .int a2] M = am_run G d K_H_cell (0, [some (.ref q), some (.int a0), some (.int a1), some (.int a2), none], [], M) := by
  unfold am_ex
  rw [if_neg (Nat.succ_ne_zero d)]
  rfl
theorem e_Sh_put {q : Nat} {a0 : Int32} {a1 : Int32} : am_ex G (d + 1) K_Sh_put [.ref q, .int a0, .int a1] M = am_run G d K_Sh_put (0, [some (.ref q), some (.int a0), some (.int a1)], [], M) := by
  unfold am_ex
  rw [if_neg (Nat.succ_ne_zero d)]
  rfl
theorem e_Sh_holds {q : Nat} {a0 : Int32} {a1 : Int32} : am_ex G (d + 1) K_Sh_holds [.ref q, .int a0, .int a1] M = am_run G d K_Sh_holds (0, [some (.ref q), some (.int a0), some (.int a1)], [], M) := by
  unfold am_ex
  rw [if_neg (Nat.succ_ne_zero d)]
  rfl
theorem e_H_copy {q : Nat} {a0 : Int32} {a1 : Int32} {a2 : Int32} {a3 : Int32} {a4 : Int32} : am_ex G (d + 1) K_H_copy [.ref q, .int a0, .int a1, .int a2, .int a3, .int a4] M = am_run G d K_H_copy (0, [some (.ref q), some (.int a0), some (.int a1), some (.int a2), some (.int a3), some (.int a4), none, none], [], M) := by
  unfold am_ex
  rw [if_neg (Nat.succ_ne_zero d)]
  rfl
theorem e_H_nights {q : Nat} {a0 : Int32} {a1 : Int32} {a2 : Int32} {a3 : Int32} : am_ex G (d + 1) K_H_nights [.ref q, .int a0, .int a1, .int a2, .int a3] M = am_run G d K_H_nights (0, [some (.ref q), some (.int a0), some (.int a1), some (.int a2), some (.int a3), none, none, none, none], [], M) := by
  unfold am_ex
  rw [if_neg (Nat.succ_ne_zero d)]
  rfl
theorem e_H_taken {q : Nat} {a0 : Int32} {a1 : Int32} : am_ex G (d + 1) K_H_taken [.ref q, .int a0, .int a1] M = am_run G d K_H_taken (0, [some (.ref q), some (.int a0), some (.int a1), none], [], M) := by
  unfold am_ex
  rw [if_neg (Nat.succ_ne_zero d)]
  rfl
theorem e_H_isUnder {a0 : Int32} {a1 : Int32} : am_ex G (d + 1) K_H_isUnder [.int a0, .int a1] M = am_run G d K_H_isUnder (0, [some (.int a0), some (.int a1), none, none], [], M) := by
  unfold am_ex
  rw [if_neg (Nat.succ_ne_zero d)]
  rfl
theorem e_M_init {q : Nat} : am_ex G (d + 1) K_M_init [.ref q] M = am_run G d K_M_init (0, [some (.ref q)], [], M) := by
  unfold am_ex
  rw [if_neg (Nat.succ_ne_zero d)]
  rfl
theorem e_M_spell {q : Nat} {a0 : Int32} {a1 : Int64} : am_ex G (d + 1) K_M_spell [.ref q, .int a0, .long a1] M = am_run G d K_M_spell (0, [some (.ref q), some (.int a0), some (.long a1), none, none], [], M) := by
  unfold am_ex
  rw [if_neg (Nat.succ_ne_zero d)]
  rfl
theorem e_M_stuff {q : Nat} {a0 : Int32} {a1 : Int32} : am_ex G (d + 1) K_M_stuff [.ref q, .int a0, .int a1] M = am_run G d K_M_stuff (0, [some (.ref q), some (.int a0), some (.int a1)], [], M) := by
  unfold am_ex
  rw [if_neg (Nat.succ_ne_zero d)]
  rfl
theorem e_M_in {a0 : Int64} {a1 : Int64} {a2 : Int64} : am_ex G (d + 1) K_M_in [.long a0, .long a1, .long a2] M = am_run G d K_M_in (0, [some (.long a0), none, some (.long a1), none, some (.long a2), none], [], M) := by
  unfold am_ex
  rw [if_neg (Nat.succ_ne_zero d)]
  rfl
theorem e_M_hall {q : Nat} {a0 : Int32} {a1 : Int32} {a2 : Int32} : am_ex G (d + 1) K_M_hall [.ref q, .int a0, .int a1, .int a2] M = am_run G d K_M_hall (0, [some (.ref q), some (.int a0), some (.int a1), some (.int a2)], [], M) := by
  unfold am_ex
  rw [if_neg (Nat.succ_ne_zero d)]
  rfl
theorem e_M_surface {q : Nat} {a0 : Int32} {a1 : Int32} {a2 : Int32} : am_ex G (d + 1) K_M_surface [.ref q, .int a0, .int a1, .int a2] M = am_run G d K_M_surface (0, [some (.ref q), some (.int a0), some (.int a1), some (.int a2)], [], M) := by
  unfold am_ex
  rw [if_neg (Nat.succ_ne_zero d)]
  rfl
theorem e_M_isHall {q : Nat} {a0 : Int32} : am_ex G (d + 1) K_M_isHall [.ref q, .int a0] M = am_run G d K_M_isHall (0, [some (.ref q), some (.int a0)], [], M) := by
  unfold am_ex
  rw [if_neg (Nat.succ_ne_zero d)]
  rfl
theorem e_M_isStuff {q : Nat} {a0 : Int32} : am_ex G (d + 1) K_M_isStuff [.ref q, .int a0] M = am_run G d K_M_isStuff (0, [some (.ref q), some (.int a0)], [], M) := by
  unfold am_ex
  rw [if_neg (Nat.succ_ne_zero d)]
  rfl
theorem e_M_cover {q : Nat} {a0 : Int32} {a1 : Int32} {a2 : Int32} : am_ex G (d + 1) K_M_cover [.ref q, .int a0, .int a1, .int a2] M = am_run G d K_M_cover (0, [some (.ref q), some (.int a0), some (.int a1), some (.int a2), none], [], M) := by
  unfold am_ex
  rw [if_neg (Nat.succ_ne_zero d)]
  rfl
theorem e_M_set {q : Nat} {a0 : Int32} {a1 : Int32} : am_ex G (d + 1) K_M_set [.ref q, .int a0, .int a1] M = am_run G d K_M_set (0, [some (.ref q), some (.int a0), some (.int a1), none], [], M) := by
  unfold am_ex
  rw [if_neg (Nat.succ_ne_zero d)]
  rfl
theorem e_M_eaten {q : Nat} {a0 : Int32} {a1 : Int32} {a2 : Int32} : am_ex G (d + 1) K_M_eaten [.ref q, .int a0, .int a1, .int a2] M = am_run G d K_M_eaten (0, [some (.ref q), some (.int a0), some (.int a1), some (.int a2), none, none], [], M) := by
  unfold am_ex
  rw [if_neg (Nat.succ_ne_zero d)]
  rfl
theorem e_M_eatenIn {q : Nat} {a0 : Int32} {a1 : Int32} : am_ex G (d + 1) K_M_eatenIn [.ref q, .int a0, .int a1] M = am_run G d K_M_eatenIn (0, [some (.ref q), some (.int a0), some (.int a1), none, none, none], [], M) := by
  unfold am_ex
  rw [if_neg (Nat.succ_ne_zero d)]
  rfl
theorem e_M_timeBy {a0 : Int64} {a1 : Int64} {a2 : Int64} : am_ex G (d + 1) K_M_timeBy [.long a0, .long a1, .long a2] M = am_run G d K_M_timeBy (0, [some (.long a0), none, some (.long a1), none, some (.long a2), none], [], M) := by
  unfold am_ex
  rw [if_neg (Nat.succ_ne_zero d)]
  rfl
theorem e_M_night {q : Nat} {a0 : Int32} {a1 : Int32} {a2 : Int32} {a3 : Int32} {a4 : Int32} : am_ex G (d + 1) K_M_night [.ref q, .int a0, .int a1, .int a2, .int a3, .int a4] M = am_run G d K_M_night (0, [some (.ref q), some (.int a0), some (.int a1), some (.int a2), some (.int a3), some (.int a4)], [], M) := by
  unfold am_ex
  rw [if_neg (Nat.succ_ne_zero d)]
  rfl
theorem e_M_isWhere {q : Nat} {a0 : Int32} : am_ex G (d + 1) K_M_isWhere [.ref q, .int a0] M = am_run G d K_M_isWhere (0, [some (.ref q), some (.int a0)], [], M) := by
  unfold am_ex
  rw [if_neg (Nat.succ_ne_zero d)]
  rfl
theorem e_M_told {q : Nat} {a0 : Int32} {a1 : Int32} : am_ex G (d + 1) K_M_told [.ref q, .int a0, .int a1] M = am_run G d K_M_told (0, [some (.ref q), some (.int a0), some (.int a1)], [], M) := by
  unfold am_ex
  rw [if_neg (Nat.succ_ne_zero d)]
  rfl
theorem e_M_isNight {q : Nat} {a0 : Int32} : am_ex G (d + 1) K_M_isNight [.ref q, .int a0] M = am_run G d K_M_isNight (0, [some (.ref q), some (.int a0)], [], M) := by
  unfold am_ex
  rw [if_neg (Nat.succ_ne_zero d)]
  rfl
theorem e_M_moreBy {q : Nat} {a0 : Int32} {a1 : Int32} : am_ex G (d + 1) K_M_moreBy [.ref q, .int a0, .int a1] M = am_run G d K_M_moreBy (0, [some (.ref q), some (.int a0), some (.int a1), none, none], [], M) := by
  unfold am_ex
  rw [if_neg (Nat.succ_ne_zero d)]
  rfl
theorem e_M_lateOf {q : Nat} {a0 : Int32} : am_ex G (d + 1) K_M_lateOf [.ref q, .int a0] M = am_run G d K_M_lateOf (0, [some (.ref q), some (.int a0), none], [], M) := by
  unfold am_ex
  rw [if_neg (Nat.succ_ne_zero d)]
  rfl
theorem e_M_read {q : Nat} {a0 : Int32} {a1 : Int32} {a2 : Int32} : am_ex G (d + 1) K_M_read [.ref q, .int a0, .int a1, .int a2] M = am_run G d K_M_read (0, [some (.ref q), some (.int a0), some (.int a1), some (.int a2), none, none], [], M) := by
  unfold am_ex
  rw [if_neg (Nat.succ_ne_zero d)]
  rfl
theorem e_M_next {q : Nat} : am_ex G (d + 1) K_M_next [.ref q] M = am_run G d K_M_next (0, [some (.ref q), none, none], [], M) := by
  unfold am_ex
  rw [if_neg (Nat.succ_ne_zero d)]
  rfl
theorem e_M_byteAt {q : Nat} {a0 : Int32} : am_ex G (d + 1) K_M_byteAt [.ref q, .int a0] M = am_run G d K_M_byteAt (0, [some (.ref q), some (.int a0)], [], M) := by
  unfold am_ex
  rw [if_neg (Nat.succ_ne_zero d)]
  rfl
theorem e_M_part {q : Nat} {a0 : Int64} : am_ex G (d + 1) K_M_part [.ref q, .long a0] M = am_run G d K_M_part (0, [some (.ref q), some (.long a0), none, none], [], M) := by
  unfold am_ex
  rw [if_neg (Nat.succ_ne_zero d)]
  rfl
theorem e_M_isWord {q : Nat} {a0 : Int64} : am_ex G (d + 1) K_M_isWord [.ref q, .long a0] M = am_run G d K_M_isWord (0, [some (.ref q), some (.long a0), none], [], M) := by
  unfold am_ex
  rw [if_neg (Nat.succ_ne_zero d)]
  rfl
theorem e_M_fail {q : Nat} : am_ex G (d + 1) K_M_fail [.ref q] M = am_run G d K_M_fail (0, [some (.ref q)], [], M) := by
  unfold am_ex
  rw [if_neg (Nat.succ_ne_zero d)]
  rfl
theorem e_M_either {q : Nat} : am_ex G (d + 1) K_M_either [.ref q] M = am_run G d K_M_either (0, [some (.ref q), none, none], [], M) := by
  unfold am_ex
  rw [if_neg (Nat.succ_ne_zero d)]
  rfl
theorem e_M_both {q : Nat} : am_ex G (d + 1) K_M_both [.ref q] M = am_run G d K_M_both (0, [some (.ref q), none, none], [], M) := by
  unfold am_ex
  rw [if_neg (Nat.succ_ne_zero d)]
  rfl
theorem e_M_not {q : Nat} : am_ex G (d + 1) K_M_not [.ref q] M = am_run G d K_M_not (0, [some (.ref q), none, none, none], [], M) := by
  unfold am_ex
  rw [if_neg (Nat.succ_ne_zero d)]
  rfl
theorem e_M_opens {q : Nat} : am_ex G (d + 1) K_M_opens [.ref q] M = am_run G d K_M_opens (0, [some (.ref q)], [], M) := by
  unfold am_ex
  rw [if_neg (Nat.succ_ne_zero d)]
  rfl
theorem e_M_added {q : Nat} : am_ex G (d + 1) K_M_added [.ref q] M = am_run G d K_M_added (0, [some (.ref q), none, none, none], [], M) := by
  unfold am_ex
  rw [if_neg (Nat.succ_ne_zero d)]
  rfl
theorem e_M_term {q : Nat} : am_ex G (d + 1) K_M_term [.ref q] M = am_run G d K_M_term (0, [some (.ref q), none], [], M) := by
  unfold am_ex
  rw [if_neg (Nat.succ_ne_zero d)]
  rfl
theorem e_M_one {q : Nat} : am_ex G (d + 1) K_M_one [.ref q] M = am_run G d K_M_one (0, [some (.ref q), none], [], M) := by
  unfold am_ex
  rw [if_neg (Nat.succ_ne_zero d)]
  rfl
theorem e_M_isSign {q : Nat} {a0 : Int32} : am_ex G (d + 1) K_M_isSign [.ref q, .int a0] M = am_run G d K_M_isSign (0, [some (.ref q), some (.int a0)], [], M) := by
  unfold am_ex
  rw [if_neg (Nat.succ_ne_zero d)]
  rfl
theorem e_M_name {q : Nat} : am_ex G (d + 1) K_M_name [.ref q] M = am_run G d K_M_name (0, [some (.ref q)], [], M) := by
  unfold am_ex
  rw [if_neg (Nat.succ_ne_zero d)]
  rfl
theorem e_M_dueOf {q : Nat} {a0 : Int32} : am_ex G (d + 1) K_M_dueOf [.ref q, .int a0] M = am_run G d K_M_dueOf (0, [some (.ref q), some (.int a0)], [], M) := by
  unfold am_ex
  rw [if_neg (Nat.succ_ne_zero d)]
  rfl
theorem e_M_isLeft {q : Nat} {a0 : Int32} : am_ex G (d + 1) K_M_isLeft [.ref q, .int a0] M = am_run G d K_M_isLeft (0, [some (.ref q), some (.int a0)], [], M) := by
  unfold am_ex
  rw [if_neg (Nat.succ_ne_zero d)]
  rfl
theorem e_M_feed {q : Nat} {a0 : Int32} {a1 : Int64} : am_ex G (d + 1) K_M_feed [.ref q, .int a0, .long a1] M = am_run G d K_M_feed (0, [some (.ref q), some (.int a0), some (.long a1), none, none], [], M) := by
  unfold am_ex
  rw [if_neg (Nat.succ_ne_zero d)]
  rfl
theorem e_M_text {q : Nat} : am_ex G (d + 1) K_M_text [.ref q] M = am_run G d K_M_text (0, [some (.ref q), none], [], M) := by
  unfold am_ex
  rw [if_neg (Nat.succ_ne_zero d)]
  rfl
theorem e_M_force {q : Nat} {a0 : Int32} : am_ex G (d + 1) K_M_force [.ref q, .int a0] M = am_run G d K_M_force (0, [some (.ref q), some (.int a0), none], [], M) := by
  unfold am_ex
  rw [if_neg (Nat.succ_ne_zero d)]
  rfl
theorem e_M_fit {q : Nat} {a0 : Int32} {a1 : Int32} {a2 : Int32} : am_ex G (d + 1) K_M_fit [.ref q, .int a0, .int a1, .int a2] M = am_run G d K_M_fit (0, [some (.ref q), some (.int a0), some (.int a1), some (.int a2), none, none, none, none, none, none, none, none, none], [], M) := by
  unfold am_ex
  rw [if_neg (Nat.succ_ne_zero d)]
  rfl
theorem e_M_areLaws {a0 : Int32} {a1 : Int32} : am_ex G (d + 1) K_M_areLaws [.int a0, .int a1] M = am_run G d K_M_areLaws (0, [some (.int a0), some (.int a1)], [], M) := by
  unfold am_ex
  rw [if_neg (Nat.succ_ne_zero d)]
  rfl
theorem e_M_lays {q : Nat} : am_ex G (d + 1) K_M_lays [.ref q] M = am_run G d K_M_lays (0, [some (.ref q), none], [], M) := by
  unfold am_ex
  rw [if_neg (Nat.succ_ne_zero d)]
  rfl
theorem e_M_offBy {q : Nat} {a0 : Int32} {a1 : Int32} {a2 : Int32} : am_ex G (d + 1) K_M_offBy [.ref q, .int a0, .int a1, .int a2] M = am_run G d K_M_offBy (0, [some (.ref q), some (.int a0), some (.int a1), some (.int a2)], [], M) := by
  unfold am_ex
  rw [if_neg (Nat.succ_ne_zero d)]
  rfl
theorem e_M_plain {a0 : Int64} : am_ex G (d + 1) K_M_plain [.long a0] M = am_run G d K_M_plain (0, [some (.long a0), none], [], M) := by
  unfold am_ex
  rw [if_neg (Nat.succ_ne_zero d)]
  rfl
theorem e_M_lets {q : Nat} {a0 : Int32} {a1 : Int32} {a2 : Int32} : am_ex G (d + 1) K_M_lets [.ref q, .int a0, .int a1, .int a2] M = am_run G d K_M_lets (0, [some (.ref q), some (.int a0), some (.int a1), some (.int a2)], [], M) := by
  unfold am_ex
  rw [if_neg (Nat.succ_ne_zero d)]
  rfl
theorem e_M_isAsk {a0 : Int32} {a1 : Int32} : am_ex G (d + 1) K_M_isAsk [.int a0, .int a1] M = am_run G d K_M_isAsk (0, [some (.int a0), some (.int a1)], [], M) := by
  unfold am_ex
  rw [if_neg (Nat.succ_ne_zero d)]
  rfl
theorem e_M_letsBy {q : Nat} {a0 : Int32} {a1 : Int32} {a2 : Int32} : am_ex G (d + 1) K_M_letsBy [.ref q, .int a0, .int a1, .int a2] M = am_run G d K_M_letsBy (0, [some (.ref q), some (.int a0), some (.int a1), some (.int a2), none, none, none, none], [], M) := by
  unfold am_ex
  rw [if_neg (Nat.succ_ne_zero d)]
  rfl
theorem e_M_thrownOut {q : Nat} {a0 : Int32} {a1 : Int32} : am_ex G (d + 1) K_M_thrownOut [.ref q, .int a0, .int a1] M = am_run G d K_M_thrownOut (0, [some (.ref q), some (.int a0), some (.int a1), none], [], M) := by
  unfold am_ex
  rw [if_neg (Nat.succ_ne_zero d)]
  rfl
theorem e_M_better {q : Nat} {a0 : Int32} {a1 : Int32} : am_ex G (d + 1) K_M_better [.ref q, .int a0, .int a1] M = am_run G d K_M_better (0, [some (.ref q), some (.int a0), some (.int a1), none, none, none, none, none, none], [], M) := by
  unfold am_ex
  rw [if_neg (Nat.succ_ne_zero d)]
  rfl
theorem e_M_isOf {q : Nat} {a0 : Int32} {a1 : Int32} : am_ex G (d + 1) K_M_isOf [.ref q, .int a0, .int a1] M = am_run G d K_M_isOf (0, [some (.ref q), some (.int a0), some (.int a1)], [], M) := by
  unfold am_ex
  rw [if_neg (Nat.succ_ne_zero d)]
  rfl
theorem e_M_lineOff {q : Nat} {a0 : Int32} {a1 : Int32} {a2 : Int32} : am_ex G (d + 1) K_M_lineOff [.ref q, .int a0, .int a1, .int a2] M = am_run G d K_M_lineOff (0, [some (.ref q), some (.int a0), some (.int a1), some (.int a2), none, none, none, none, none], [], M) := by
  unfold am_ex
  rw [if_neg (Nat.succ_ne_zero d)]
  rfl
theorem e_M_narrows {q : Nat} {a0 : Int32} {a1 : Int32} {a2 : Int32} {a3 : Int32} : am_ex G (d + 1) K_M_narrows [.ref q, .int a0, .int a1, .int a2, .int a3] M = am_run G d K_M_narrows (0, [some (.ref q), some (.int a0), some (.int a1), some (.int a2), some (.int a3), none, none, none, none, none, none, none, none], [], M) := by
  unfold am_ex
  rw [if_neg (Nat.succ_ne_zero d)]
  rfl
theorem e_M_plan {q : Nat} {a0 : Int32} {a1 : Int32} {a2 : Int32} : am_ex G (d + 1) K_M_plan [.ref q, .int a0, .int a1, .int a2] M = am_run G d K_M_plan (0, [some (.ref q), some (.int a0), some (.int a1), some (.int a2)], [], M) := by
  unfold am_ex
  rw [if_neg (Nat.succ_ne_zero d)]
  rfl
theorem e_M_planBy {q : Nat} {a0 : Int64} {a1 : Int64} {a2 : Int64} {a3 : Int64} : am_ex G (d + 1) K_M_planBy [.ref q, .long a0, .long a1, .long a2, .long a3] M = am_run G d K_M_planBy (0, [some (.ref q), some (.long a0), none, some (.long a1), none, some (.long a2), none, some (.long a3), none], [], M) := by
  unfold am_ex
  rw [if_neg (Nat.succ_ne_zero d)]
  rfl
theorem e_M_aim {q : Nat} {a0 : Int32} {a1 : Int32} {a2 : Int32} {a3 : Int32} {a4 : Int32} : am_ex G (d + 1) K_M_aim [.ref q, .int a0, .int a1, .int a2, .int a3, .int a4] M = am_run G d K_M_aim (0, [some (.ref q), some (.int a0), some (.int a1), some (.int a2), some (.int a3), some (.int a4), none, none, none, none, none, none, none, none, none, none, none, none, none, none, none, none, none, none], [], M) := by
  unfold am_ex
  rw [if_neg (Nat.succ_ne_zero d)]
  rfl
theorem e_M_wrong {q : Nat} {a0 : Int32} {a1 : Int32} {a2 : Int32} {a3 : Int32} {a4 : Int32} : am_ex G (d + 1) K_M_wrong [.ref q, .int a0, .int a1, .int a2, .int a3, .int a4] M = am_run G d K_M_wrong (0, [some (.ref q), some (.int a0), some (.int a1), some (.int a2), some (.int a3), some (.int a4), none, none, none, none, none, none, none, none, none, none, none], [], M) := by
  unfold am_ex
  rw [if_neg (Nat.succ_ne_zero d)]
  rfl
theorem e_M_echo {q : Nat} {a0 : Int32} {a1 : Int32} {a2 : Int32} {a3 : Int32} : am_ex G (d + 1) K_M_echo [.ref q, .int a0, .int a1, .int a2, .int a3] M = am_run G d K_M_echo (0, [some (.ref q), some (.int a0), some (.int a1), some (.int a2), some (.int a3), none, none], [], M) := by
  unfold am_ex
  rw [if_neg (Nat.succ_ne_zero d)]
  rfl
theorem e_M_isEcho {q : Nat} {a0 : Int32} {a1 : Int32} {a2 : Int32} {a3 : Int32} : am_ex G (d + 1) K_M_isEcho [.ref q, .int a0, .int a1, .int a2, .int a3] M = am_run G d K_M_isEcho (0, [some (.ref q), some (.int a0), some (.int a1), some (.int a2), some (.int a3)], [], M) := by
  unfold am_ex
  rw [if_neg (Nat.succ_ne_zero d)]
  rfl
theorem e_M_goes {q : Nat} {a0 : Int32} {a1 : Int32} {a2 : Int32} {a3 : Int32} : am_ex G (d + 1) K_M_goes [.ref q, .int a0, .int a1, .int a2, .int a3] M = am_run G d K_M_goes (0, [some (.ref q), some (.int a0), some (.int a1), some (.int a2), some (.int a3), none, none, none, none, none], [], M) := by
  unfold am_ex
  rw [if_neg (Nat.succ_ne_zero d)]
  rfl
theorem e_M_hears {q : Nat} {a0 : Int32} {a1 : Int32} {a2 : Int32} {a3 : Int32} : am_ex G (d + 1) K_M_hears [.ref q, .int a0, .int a1, .int a2, .int a3] M = am_run G d K_M_hears (0, [some (.ref q), some (.int a0), some (.int a1), some (.int a2), some (.int a3)], [], M) := by
  unfold am_ex
  rw [if_neg (Nat.succ_ne_zero d)]
  rfl
theorem e_M_clear {q : Nat} {a0 : Int32} {a1 : Int32} : am_ex G (d + 1) K_M_clear [.ref q, .int a0, .int a1] M = am_run G d K_M_clear (0, [some (.ref q), some (.int a0), some (.int a1), none, none, none, none], [], M) := by
  unfold am_ex
  rw [if_neg (Nat.succ_ne_zero d)]
  rfl
theorem e_M_image {q : Nat} : am_ex G (d + 1) K_M_image [.ref q] M = am_run G d K_M_image (0, [some (.ref q), none], [], M) := by
  unfold am_ex
  rw [if_neg (Nat.succ_ne_zero d)]
  rfl
theorem e_M_back {q : Nat} : am_ex G (d + 1) K_M_back [.ref q] M = am_run G d K_M_back (0, [some (.ref q), none], [], M) := by
  unfold am_ex
  rw [if_neg (Nat.succ_ne_zero d)]
  rfl
theorem e_M_count {q : Nat} {a0 : Int32} : am_ex G (d + 1) K_M_count [.ref q, .int a0] M = am_run G d K_M_count (0, [some (.ref q), some (.int a0), none, none], [], M) := by
  unfold am_ex
  rw [if_neg (Nat.succ_ne_zero d)]
  rfl
theorem e_M_sheet {q : Nat} {a0 : Int32} {a1 : Int32} {a2 : Int32} : am_ex G (d + 1) K_M_sheet [.ref q, .int a0, .int a1, .int a2] M = am_run G d K_M_sheet (0, [some (.ref q), some (.int a0), some (.int a1), some (.int a2), none], [], M) := by
  unfold am_ex
  rw [if_neg (Nat.succ_ne_zero d)]
  rfl
theorem e_M_isSheet {a0 : Int32} : am_ex G (d + 1) K_M_isSheet [.int a0] M = am_run G d K_M_isSheet (0, [some (.int a0)], [], M) := by
  unfold am_ex
  rw [if_neg (Nat.succ_ne_zero d)]
  rfl
theorem e_M_cell {q : Nat} {a0 : Int32} {a1 : Int32} {a2 : Int32} : am_ex G (d + 1) K_M_cell [.ref q, .int a0, .int a1, .int a2] M = am_run G d K_M_cell (0, [some (.ref q), some (.int a0), some (.int a1), some (.int a2)], [], M) := by
  unfold am_ex
  rw [if_neg (Nat.succ_ne_zero d)]
  rfl
theorem e_M_copy {q : Nat} {a0 : Int32} {a1 : Int32} {a2 : Int32} {a3 : Int32} {a4 : Int32} : am_ex G (d + 1) K_M_copy [.ref q, .int a0, .int a1, .int a2, .int a3, .int a4] M = am_run G d K_M_copy (0, [some (.ref q), some (.int a0), some (.int a1), some (.int a2), some (.int a3), some (.int a4), none, none, none], [], M) := by
  unfold am_ex
  rw [if_neg (Nat.succ_ne_zero d)]
  rfl
theorem e_M_nights {q : Nat} {a0 : Int32} {a1 : Int32} {a2 : Int32} {a3 : Int32} : am_ex G (d + 1) K_M_nights [.ref q, .int a0, .int a1, .int a2, .int a3] M = am_run G d K_M_nights (0, [some (.ref q), some (.int a0), some (.int a1), some (.int a2), some (.int a3), none, none, none], [], M) := by
  unfold am_ex
  rw [if_neg (Nat.succ_ne_zero d)]
  rfl
theorem e_M_taken {q : Nat} {a0 : Int32} {a1 : Int32} : am_ex G (d + 1) K_M_taken [.ref q, .int a0, .int a1] M = am_run G d K_M_taken (0, [some (.ref q), some (.int a0), some (.int a1), none], [], M) := by
  unfold am_ex
  rw [if_neg (Nat.succ_ne_zero d)]
  rfl
theorem e_M_over {a0 : Int32} : am_ex G (d + 1) K_M_over [.int a0] M = am_run G d K_M_over (0, [some (.int a0)], [], M) := by
  unfold am_ex
  rw [if_neg (Nat.succ_ne_zero d)]
  rfl
end
