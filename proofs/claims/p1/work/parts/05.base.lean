def qwr (S : Nat → Nat → Int32) (k i : Nat) (v : Int32) : Nat → Nat → Int32 := fun a => if a = k then upd (S k) i v else S a
def qin (i : Int32) (n : Nat) : Bool := !(decide (i < 0)) && decide (i.toNatClampNeg < n)
theorem qin_ok {i : Int32} {n : Nat} (h : qin i n = true) : vp_in i n := by
  simp only [qin, Bool.and_eq_true, Bool.not_eq_true', decide_eq_false_iff_not, decide_eq_true_eq] at h
  exact fun q => q.elim h.1 (fun z => absurd h.2 (Nat.not_lt.mpr z))
def qck {α : Type} (b : Bool) (x : Option α) : Option α := if b = true then x else none
theorem qck_ok {α : Type} {b : Bool} {x : Option α} {y : α} (h : qck b x = some y) : b = true ∧ x = some y := by
  unfold qck at h
  by_cases hb : b = true
  · rw [if_pos hb] at h; exact ⟨hb, h⟩
  · rw [if_neg hb] at h; cases h
theorem qbd {α β : Type} {x : Option α} {f : α → Option β} {y : β} (h : x.bind f = some y) : ∃ q, x = some q ∧ f q = some y := by
  cases x with
  | none => cases h
  | some q => exact ⟨q, rfl, h⟩
def qB (b : Bool) : Int32 := if b = true then 1 else 0
def q01 (v : Int32) : Bool := decide (v = 0) || decide (v = 1)
theorem qB_nar (b : Bool) : narrow .boolean (.int (qB b)) = .int (qB b) := by cases b <;> decide +kernel
theorem q01_nar {v : Int32} (h : q01 v = true) : narrow .boolean (.int v) = .int v := by
  simp only [q01, Bool.or_eq_true, decide_eq_true_eq] at h
  rcases h with rfl | rfl <;> decide +kernel
theorem q01_B {v : Int32} (h : q01 v = true) : qB (decide (v = 1)) = v := by
  simp only [q01, Bool.or_eq_true, decide_eq_true_eq] at h
  rcases h with rfl | rfl <;> decide +kernel
theorem q_at {w1 w2 : va_W} (h : w1.map (fun q => q.1) = w2.map (fun q => q.1)) {k : Nat} {q : Nat × va_E} (hk : w2[k]? = some q) : ∃ q1, w1[k]? = some q1 ∧ q1.1 = q.1 := by
  have e := congrArg (fun l => l[k]?) h
  simp only [List.getElem?_map, hk, Option.map_some] at e
  cases h1 : w1[k]? with
  | none => rw [h1] at e; cases e
  | some q1 => rw [h1] at e; exact ⟨q1, rfl, Option.some.inj e⟩
theorem q_D {w1 w2 : va_W} {A : Nat → Prop} (h : w1.map (fun q => q.1) = w2.map (fun q => q.1)) (hD : va_D A w1) : va_D A w2 := by
  refine ⟨fun i j p q hi hj e => ?_, fun k q hk => ?_⟩
  · obtain ⟨p1, a1, b1⟩ := q_at h hi
    obtain ⟨q1, a2, b2⟩ := q_at h hj
    exact hD.1 i j p1 q1 a1 a2 (by rw [b1, b2, e])
  · obtain ⟨q1, a1, b1⟩ := q_at h hk
    rw [← b1]; exact hD.2 k q1 a1
theorem q_A {w1 w2 : va_W} {sz q : Nat} (h : w1.map (fun q => q.1) = w2.map (fun q => q.1)) (hA : va_A w1 sz q) : va_A w2 sz q := by
  rcases hA with ⟨k, e, hk⟩ | hz
  · obtain ⟨q1, a1, b1⟩ := q_at h.symm hk
    obtain ⟨x, y⟩ := q1
    cases b1
    exact Or.inl ⟨k, y, a1⟩
  · exact Or.inr hz
def qnests (l : List Cond) (U : State) : Prop := ∀ w ∈ l, va_Nw w U
