/-! LETS: the pairs, without the machine -/
def okb (N : Nat → Nat → Nat) (s : Nat) (t : List Nat) (q c : Nat) : Bool := t.all (fun i => decide (mO N c q i ≤ s))
theorem okb_iff {N : Nat → Nat → Nat} {s q c : Nat} {t : List Nat} : okb N s t q c = true ↔ ∀ i, i ∈ t → mO N c q i ≤ s := by
  unfold okb
  rw [List.all_eq_true]
  exact ⟨fun h i hi => of_decide_eq_true (h i hi), fun h i hi => decide_eq_true (h i hi)⟩
theorem okb_nil {N : Nat → Nat → Nat} {s q c : Nat} : okb N s [] q c = true := rfl
theorem okb_app {N : Nat → Nat → Nat} {s q c i : Nat} {t : List Nat} : okb N s (t ++ [i]) q c = true ↔ (okb N s t q c = true ∧ mO N c q i ≤ s) := by
  rw [okb_iff, okb_iff]
  constructor
  · intro h
    exact ⟨fun j hj => h j (List.mem_append_left _ hj), h i (List.mem_append_right _ List.mem_cons_self)⟩
  · intro h j hj
    rcases List.mem_append.mp hj with q | q
    · exact h.1 j q
    · rw [List.mem_singleton.mp q]; exact h.2
theorem okb_take {N : Nat → Nat → Nat} {s q c i k : Nat} {t : List Nat} (h : t[k]? = some i) : okb N s (t.take (k + 1)) q c = true ↔ (okb N s (t.take k) q c = true ∧ mO N c q i ≤ s) := by
  rw [List.take_add_one, h]
  exact okb_app
theorem okb_le {N : Nat → Nat → Nat} {s q c a b : Nat} {t : List Nat} (h : a ≤ b) (hb : okb N s (t.take b) q c = true) : okb N s (t.take a) q c = true := by
  rw [okb_iff] at hb ⊢
  intro i hi
  exact hb i (by
    have e : t.take a = (t.take b).take a := by rw [List.take_take, Nat.min_eq_left h]
    rw [e] at hi
    exact List.mem_of_mem_take hi)
/-- the LAWS that a NIGHT lets: from bl on, below bm -/
def bl (N : Nat → Nat → Nat) (c s i : Nat) : Nat := if N 47 i ≤ mL N i + s then 0 else ((N 47 i - mL N i - s) * mA N i c + N 37 (N 44 i) * 100 - 1) / (N 37 (N 44 i) * 100)
def bm (N : Nat → Nat → Nat) (c s i : Nat) : Nat := if N 47 i + s < mL N i then 0 else ((N 47 i + s - mL N i + 1) * mA N i c - 1) / (N 37 (N 44 i) * 100) + 1
theorem b_iff {N : Nat → Nat → Nat} {c s i q : Nat} (h1 : 0 < N 37 (N 44 i)) (h2 : 0 < mA N i c) : mO N c q i ≤ s ↔ (bl N c s i ≤ q ∧ q < bm N c s i) := by
  unfold mO bl bm mT
  have hr : 0 < N 37 (N 44 i) * 100 := by omega
  generalize N 37 (N 44 i) * 100 = ro at *
  generalize mA N i c = A at *
  generalize N 47 i = he at *
  generalize mL N i = la at *
  have e1 : (if he ≤ la + s then 0 else ((he - la - s) * A + ro - 1) / ro) ≤ q ↔ he ≤ ro * q / A + la + s := by
    split
    · next h => exact ⟨fun _ => by generalize ro * q / A = T; omega, fun _ => Nat.zero_le _⟩
    · next h =>
      have k1 : ((he - la - s) * A + ro - 1) / ro ≤ q ↔ (he - la - s) * A ≤ ro * q := by
        rw [← Nat.lt_succ_iff, Nat.div_lt_iff_lt_mul hr, Nat.succ_mul, Nat.mul_comm q ro]
        omega
      have k2 : he - la - s ≤ ro * q / A ↔ (he - la - s) * A ≤ ro * q := Nat.le_div_iff_mul_le h2
      rw [k1, ← k2]
      generalize ro * q / A = T
      omega
  have e2 : q < (if he + s < la then 0 else ((he + s - la + 1) * A - 1) / ro + 1) ↔ ro * q / A + la ≤ he + s := by
    split
    · next h => exact ⟨fun e => absurd e (Nat.not_lt_zero _), fun e => by revert e; generalize ro * q / A = T; omega⟩
    · next h =>
      have hA : 0 < (he + s - la + 1) * A := Nat.mul_pos (by omega) h2
      have k1 : q < ((he + s - la + 1) * A - 1) / ro + 1 ↔ ro * q < (he + s - la + 1) * A := by
        rw [Nat.lt_succ_iff, Nat.le_div_iff_mul_le hr, Nat.mul_comm q ro]
        omega
      have k2 : ro * q / A < he + s - la + 1 ↔ ro * q < (he + s - la + 1) * A := Nat.div_lt_iff_lt_mul h2
      rw [k1, ← k2]
      generalize ro * q / A = T
      omega
  rw [e1, e2]
  generalize ro * q / A = T
  omega
/-! sums -/
def sm : Nat → (Nat → Nat) → Nat
  | 0, _ => 0
  | n + 1, f => sm n f + f n
theorem sm_eq {f g : Nat → Nat} : ∀ {n : Nat}, (∀ i, i < n → f i = g i) → sm n f = sm n g
  | 0, _ => rfl
  | n + 1, h => by rw [sm, sm, sm_eq (fun i hi => h i (by omega)), h n (by omega)]
theorem sm_add {f g : Nat → Nat} : ∀ {n : Nat}, sm n (fun i => f i + g i) = sm n f + sm n g
  | 0 => rfl
  | n + 1 => by rw [sm, sm, sm, sm_add]; omega
theorem sm_z : ∀ {n : Nat}, sm n (fun _ => 0) = 0
  | 0 => rfl
  | n + 1 => by rw [sm, sm_z]
theorem sm_comm {f : Nat → Nat → Nat} {b : Nat} : ∀ {a : Nat}, sm a (fun i => sm b (fun j => f i j)) = sm b (fun j => sm a (fun i => f i j))
  | 0 => by
    show 0 = sm b (fun j => 0)
    rw [sm_z]
  | a + 1 => by
    rw [sm, sm_comm (a := a), ← sm_add]
    rfl
theorem sm_le {f : Nat → Nat} {b : Nat} : ∀ {n : Nat}, (∀ i, i < n → f i ≤ b) → sm n f ≤ n * b
  | 0, _ => by rw [sm]; exact Nat.zero_le _
  | n + 1, h => by
    have h1 := sm_le (n := n) (f := f) (b := b) (fun i hi => h i (by omega))
    have h2 := h n (by omega)
    rw [sm, Nat.succ_mul]
    omega
theorem sm_0 {f : Nat → Nat} : ∀ {n : Nat}, sm n f = 0 ↔ ∀ i, i < n → f i = 0
  | 0 => ⟨fun _ i hi => absurd hi (Nat.not_lt_zero _), fun _ => rfl⟩
  | n + 1 => by
    rw [sm, Nat.add_eq_zero_iff, sm_0 (n := n)]
    constructor
    · rintro ⟨h1, h2⟩ i hi
      rcases Nat.lt_succ_iff_lt_or_eq.mp hi with q | rfl
      · exact h1 i q
      · exact h2
    · intro h
      exact ⟨fun i hi => h i (by omega), h n (by omega)⟩
def ib (b : Bool) : Nat := if b = true then 1 else 0
theorem ib_le {b : Bool} : ib b ≤ 1 := by cases b <;> decide
theorem ib_0 {b : Bool} : ib b = 0 ↔ ¬ b = true := by cases b <;> decide
/-- the count of an interval -/
theorem sm_int {g : Nat → Bool} {lo a m : Nat} (ha : lo ≤ a) : ∀ {n : Nat}, (∀ t, t < n → (g t = true ↔ (a ≤ lo + t ∧ lo + t < m))) → sm n (fun t => ib (g t)) = (min m (lo + n)) - a
  | 0, _ => by rw [sm]; omega
  | n + 1, h => by
    rw [sm, sm_int ha (n := n) (fun t ht => h t (by omega))]
    have hn := h n (by omega)
    unfold ib
    by_cases q : g n = true
    · rw [if_pos q]; have := hn.mp q; omega
    · rw [if_neg q]; have := mt hn.mpr q; omega
/-! the least and the greatest -/
def le_st (P : Nat → Nat → Prop) : Option Nat → Prop
  | none => ∀ q e, ¬ P q e
  | some m => (∃ q, P q m) ∧ ∀ q e, P q e → m ≤ e
def ge_st (P : Nat → Nat → Prop) : Option Nat → Prop
  | none => ∀ q e, ¬ P q e
  | some m => (∃ q, P q m) ∧ ∀ q e, P q e → e ≤ m
theorem le_uniq {P : Nat → Nat → Prop} {o o' : Option Nat} (h : le_st P o) (h' : le_st P o') : o = o' := by
  cases o with
  | none =>
    cases o' with
    | none => rfl
    | some m => obtain ⟨⟨q, hq⟩, -⟩ := h'; exact absurd hq (h q m)
  | some m =>
    obtain ⟨⟨q, hq⟩, h2⟩ := h
    cases o' with
    | none => exact absurd hq (h' q m)
    | some m' =>
      obtain ⟨⟨q', hq'⟩, h2'⟩ := h'
      have := h2 q' m' hq'
      have := h2' q m hq
      exact congrArg some (by omega)
theorem ge_uniq {P : Nat → Nat → Prop} {o o' : Option Nat} (h : ge_st P o) (h' : ge_st P o') : o = o' := by
  cases o with
  | none =>
    cases o' with
    | none => rfl
    | some m => obtain ⟨⟨q, hq⟩, -⟩ := h'; exact absurd hq (h q m)
  | some m =>
    obtain ⟨⟨q, hq⟩, h2⟩ := h
    cases o' with
    | none => exact absurd hq (h' q m)
    | some m' =>
      obtain ⟨⟨q', hq'⟩, h2'⟩ := h'
      have := h2 q' m' hq'
      have := h2' q m hq
      exact congrArg some (by omega)
theorem le_eq {P P' : Nat → Nat → Prop} {o : Option Nat} (h : le_st P o) (hp : ∀ q e, P' q e ↔ P q e) : le_st P' o := by
  have e : P' = P := funext fun l => funext fun c => propext (hp l c)
  rw [e]; exact h
theorem ge_eq {P P' : Nat → Nat → Prop} {o : Option Nat} (h : ge_st P o) (hp : ∀ q e, P' q e ↔ P q e) : ge_st P' o := by
  have e : P' = P := funext fun l => funext fun c => propext (hp l c)
  rw [e]; exact h
theorem le_lt {P : Nat → Nat → Prop} {o : Option Nat} {m : Nat} (h : le_st P o) (hp : ∀ q e, P q e → e ≤ m) : ∀ e, o = some e → e ≤ m := by
  intro e he
  subst he
  obtain ⟨⟨q, hq⟩, -⟩ := h
  exact hp q e hq
theorem ge_lt {P : Nat → Nat → Prop} {o : Option Nat} {m : Nat} (h : ge_st P o) (hp : ∀ q e, P q e → e ≤ m) : ∀ e, o = some e → e ≤ m := by
  intro e he
  subst he
  obtain ⟨⟨q, hq⟩, -⟩ := h
  exact hp q e hq
def jo (o : Option Nat) : Int32 := match o with
  | none => -Int32.ofNat 1
  | some e => Int32.ofNat e
def jmin (o : Option Nat) (c : Nat) : Nat := match o with
  | none => c
  | some e => if c < e then c else e
def jmax (o : Option Nat) (c : Nat) : Nat := match o with
  | none => c
  | some e => if e < c then c else e
theorem le_add {P : Nat → Nat → Prop} {o : Option Nat} {q c : Nat} (h : le_st P o) : le_st (fun a e => P a e ∨ (a = q ∧ e = c)) (some (jmin o c)) := by
  cases o with
  | none =>
    refine ⟨⟨q, Or.inr ⟨rfl, rfl⟩⟩, fun a e he => ?_⟩
    rcases he with he | ⟨-, rfl⟩
    · exact absurd he (h a e)
    · exact Nat.le_refl _
  | some m =>
    obtain ⟨⟨q1, hq1⟩, h2⟩ := h
    unfold jmin
    by_cases hc : c < m
    · simp only [if_pos hc]
      refine ⟨⟨q, Or.inr ⟨rfl, rfl⟩⟩, fun a e he => ?_⟩
      rcases he with he | ⟨-, rfl⟩
      · have := h2 a e he; omega
      · exact Nat.le_refl _
    · simp only [if_neg hc]
      refine ⟨⟨q1, Or.inl hq1⟩, fun a e he => ?_⟩
      rcases he with he | ⟨-, rfl⟩
      · exact h2 a e he
      · omega
theorem ge_add {P : Nat → Nat → Prop} {o : Option Nat} {q c : Nat} (h : ge_st P o) : ge_st (fun a e => P a e ∨ (a = q ∧ e = c)) (some (jmax o c)) := by
  cases o with
  | none =>
    refine ⟨⟨q, Or.inr ⟨rfl, rfl⟩⟩, fun a e he => ?_⟩
    rcases he with he | ⟨-, rfl⟩
    · exact absurd he (h a e)
    · exact Nat.le_refl _
  | some m =>
    obtain ⟨⟨q1, hq1⟩, h2⟩ := h
    unfold jmax
    by_cases hc : m < c
    · simp only [if_pos hc]
      refine ⟨⟨q, Or.inr ⟨rfl, rfl⟩⟩, fun a e he => ?_⟩
      rcases he with he | ⟨-, rfl⟩
      · have := h2 a e he; omega
      · exact Nat.le_refl _
    · simp only [if_neg hc]
      refine ⟨⟨q1, Or.inl hq1⟩, fun a e he => ?_⟩
      rcases he with he | ⟨-, rfl⟩
      · exact h2 a e he
      · omega
