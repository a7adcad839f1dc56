theorem z_e0 (a b c : Int32) : qlaw 0 a b c xS0 mS0 = (f_X_clear xS0).bind (fun p => (f_M_clear mS0).bind (fun q => if p.1 = q.1 then some (p.2, q.2) else none)) := rfl
theorem z_e1 (a b c : Int32) : qlaw 1 a b c xS0 mS0 = (f_X_declare xS0 a b).bind (fun p => (f_M_declare mS0 a b).bind (fun q => if p.1 = q.1 then some (p.2, q.2) else none)) := rfl
theorem z_e2 (a b c : Int32) : qlaw 2 a b c xS0 mS0 = (f_X_inherit xS0 a b).bind (fun p => (f_M_inherit mS0 a b).bind (fun q => if p.1 = q.1 then some (p.2, q.2) else none)) := rfl
theorem z_e3 (a b c : Int32) : qlaw 3 a b c xS0 mS0 = (f_X_bind xS0 a b c).bind (fun p => (f_M_bind mS0 a b c).bind (fun q => if p.1 = q.1 then some (p.2, q.2) else none)) := rfl
theorem z_e4 (a b c : Int32) : qlaw 4 a b c xS0 mS0 = (f_X_plain xS0 a).bind (fun p => (f_M_plain mS0 a).bind (fun q => if p.1 = q.1 then some (p.2, q.2) else none)) := rfl
theorem z_e5 (a b c : Int32) : qlaw 5 a b c xS0 mS0 = (f_X_of xS0 a b c).bind (fun p => (f_M_of mS0 a b c).bind (fun q => if p.1 = q.1 then some (p.2, q.2) else none)) := rfl
theorem z_e6 (a b c : Int32) : qlaw 6 a b c xS0 mS0 = (f_X_wild xS0 a b).bind (fun p => (f_M_wild mS0 a b).bind (fun q => if p.1 = q.1 then some (p.2, q.2) else none)) := rfl
theorem z_e7 (a b c : Int32) : qlaw 7 a b c xS0 mS0 = (f_X_variable xS0 a b).bind (fun p => (f_M_variable mS0 a b).bind (fun q => if p.1 = q.1 then some (p.2, q.2) else none)) := rfl
theorem z_e8 (a b c : Int32) : qlaw 8 a b c xS0 mS0 = (f_X_row xS0 a).bind (fun p => (f_M_row mS0 a).bind (fun q => if p.1 = q.1 then some (p.2, q.2) else none)) := rfl
theorem z_e9 (a b c : Int32) : qlaw 9 a b c xS0 mS0 = (f_X_count xS0 a).bind (fun p => (f_M_count mS0 a).bind (fun q => if p = q then some (xS0, mS0) else none)) := rfl
theorem z_e10 (a b c : Int32) : qlaw 10 a b c xS0 mS0 = (f_X_told xS0 a b).bind (fun p => (f_M_told mS0 a b).bind (fun q => if p = q then some (xS0, mS0) else none)) := rfl
theorem z_e11 (a b c : Int32) : qlaw 11 a b c xS0 mS0 = (f_X_known xS0 a b).bind (fun p => (f_M_known mS0 a b).bind (fun q => if p = q.1 then some (xS0, q.2) else none)) := rfl
theorem z_e12 (a b c : Int32) : qlaw 12 a b c xS0 mS0 = (f_X_below xS0 a b).bind (fun p => (f_M_below mS0 a b).bind (fun q => if p = q.1 then some (xS0, q.2) else none)) := rfl
theorem z_e13 (a b c : Int32) : qlaw 13 a b c xS0 mS0 = (f_X_apart xS0 a b).bind (fun p => (f_M_apart mS0 a b).bind (fun q => if p = q.1 then some (xS0, q.2) else none)) := rfl
theorem z_e14 (a b c : Int32) : qlaw 14 a b c xS0 mS0 = (f_X_is xS0 a b).bind (fun p => (f_M_is mS0 a b).bind (fun q => if p.1 = q.1 then some (p.2, q.2) else none)) := rfl
theorem z_e15 (a b c : Int32) : qlaw 15 a b c xS0 mS0 = (f_X_may xS0 a b).bind (fun p => (f_M_may mS0 a b).bind (fun q => if p.1 = q.1 then some (p.2, q.2) else none)) := rfl
theorem z_e16 (a b c : Int32) : qlaw 16 a b c xS0 mS0 = (f_X_as xS0 a b).bind (fun p => (f_M_as mS0 a b).bind (fun q => if p.1 = q.1 then some (p.2, q.2) else none)) := rfl
theorem z_e17 (a b c : Int32) : qlaw 17 a b c xS0 mS0 = (f_X_erased xS0 a).bind (fun p => (f_M_erased mS0 a).bind (fun q => if p.1 = q.1 then some (p.2, q.2) else none)) := rfl
theorem z_e18 (a b c : Int32) : qlaw 18 a b c xS0 mS0 = (f_X_good xS0 a).bind (fun p => (f_M_good mS0 a).bind (fun q => if p.1 = q.1 then some (p.2, q.2) else none)) := rfl
set_option maxRecDepth 100000 in
theorem z_t0 : z_go 0 0 0 0 = true := by decide +kernel
theorem z_0 (a b c : Int32) : z_go 0 a b c = true := by
  have t := z_t0
  unfold z_go at t ⊢
  rw [z_e0] at t ⊢
  exact t
set_option maxRecDepth 100000 in
theorem z_t4 : ∀ j, j < 1 → z_go 4 (nI j) 0 0 = true := by decide +kernel
theorem z_4 (a b c : Int32) : z_go 4 a b c = true := by
  rcases pk_ix a (n := 1) (by decide) with h | h | ⟨j, hj, rfl⟩
  · have hX : f_X_plain xS0 a = some ((-2), xS0) := by unfold f_X_plain; rw [z_Khas (Or.inl h)]; rfl
    have hM : f_M_plain mS0 a = some ((-2), mS0) := by unfold f_M_plain; rw [z_Mc (Or.inl h)]; rfl
    unfold z_go
    rw [z_e4, hX, hM]
    rfl
  · have hX : f_X_plain xS0 a = some ((-2), xS0) := by unfold f_X_plain; rw [z_Khas (Or.inr h)]; rfl
    have hM : f_M_plain mS0 a = some ((-2), mS0) := by unfold f_M_plain; rw [z_Mc (Or.inr h)]; rfl
    unfold z_go
    rw [z_e4, hX, hM]
    rfl
  · have t := z_t4 j hj
    unfold z_go at t ⊢
    rw [z_e4] at t ⊢
    exact t
set_option maxRecDepth 100000 in
theorem z_t8 : ∀ j, j < 3 → z_go 8 (nI j) 0 0 = true := by decide +kernel
theorem z_8 (a b c : Int32) : z_go 8 a b c = true := by
  rcases pk_ix a (n := 3) (by decide) with h | h | ⟨j, hj, rfl⟩
  · have hX : f_X_row xS0 a = some ((-2), xS0) := by unfold f_X_row; rw [z_Tsa (Or.inl h)]; rfl
    have hM : f_M_row mS0 a = some ((-2), mS0) := by unfold f_M_row; rw [z_Mt (Or.inl h)]; rfl
    unfold z_go
    rw [z_e8, hX, hM]
    rfl
  · have hX : f_X_row xS0 a = some ((-2), xS0) := by unfold f_X_row; rw [z_Tsa (Or.inr h)]; rfl
    have hM : f_M_row mS0 a = some ((-2), mS0) := by unfold f_M_row; rw [z_Mt (Or.inr h)]; rfl
    unfold z_go
    rw [z_e8, hX, hM]
    rfl
  · have t := z_t8 j hj
    unfold z_go at t ⊢
    rw [z_e8] at t ⊢
    exact t
set_option maxRecDepth 100000 in
theorem z_t17 : ∀ j, j < 3 → z_go 17 (nI j) 0 0 = true := by decide +kernel
theorem z_17 (a b c : Int32) : z_go 17 a b c = true := by
  rcases pk_ix a (n := 3) (by decide) with h | h | ⟨j, hj, rfl⟩
  · have hX : f_X_erased xS0 a = some ((-2), xS0) := by unfold f_X_erased; rw [z_Tsa (Or.inl h)]; rfl
    have hM : f_M_erased mS0 a = some ((-2), mS0) := by unfold f_M_erased; rw [z_Mt (Or.inl h)]; rfl
    unfold z_go
    rw [z_e17, hX, hM]
    rfl
  · have hX : f_X_erased xS0 a = some ((-2), xS0) := by unfold f_X_erased; rw [z_Tsa (Or.inr h)]; rfl
    have hM : f_M_erased mS0 a = some ((-2), mS0) := by unfold f_M_erased; rw [z_Mt (Or.inr h)]; rfl
    unfold z_go
    rw [z_e17, hX, hM]
    rfl
  · have t := z_t17 j hj
    unfold z_go at t ⊢
    rw [z_e17] at t ⊢
    exact t
set_option maxRecDepth 100000 in
theorem z_t18 : ∀ j, j < 3 → z_go 18 (nI j) 0 0 = true := by decide +kernel
theorem z_18 (a b c : Int32) : z_go 18 a b c = true := by
  rcases pk_ix a (n := 3) (by decide) with h | h | ⟨j, hj, rfl⟩
  · have hX : f_X_good xS0 a = some ((-2), xS0) := by unfold f_X_good; rw [z_Thas (Or.inl h)]; rfl
    have hM : f_M_good mS0 a = some ((-2), mS0) := by unfold f_M_good; rw [z_Mt (Or.inl h)]; rfl
    unfold z_go
    rw [z_e18, hX, hM]
    rfl
  · have hX : f_X_good xS0 a = some ((-2), xS0) := by unfold f_X_good; rw [z_Thas (Or.inr h)]; rfl
    have hM : f_M_good mS0 a = some ((-2), mS0) := by unfold f_M_good; rw [z_Mt (Or.inr h)]; rfl
    unfold z_go
    rw [z_e18, hX, hM]
    rfl
  · have t := z_t18 j hj
    unfold z_go at t ⊢
    rw [z_e18] at t ⊢
    exact t
set_option maxRecDepth 100000 in
theorem z_t9 : ∀ j, j < 2 → z_go 9 (nI j) 0 0 = true := by decide +kernel
theorem z_9 (a b c : Int32) : z_go 9 a b c = true := by
  rcases pk_ix a (n := 2) (by decide) with h | h | ⟨j, hj, rfl⟩
  · have hX : f_X_count xS0 a = some (-2) := by unfold f_X_count; rw [if_neg (fun e => by rw [e] at h; exact absurd h (by decide +kernel)), if_neg (fun e => by rw [e] at h; exact absurd h (by decide +kernel))]
    have hM : f_M_count mS0 a = some (-2) := by unfold f_M_count; rw [if_neg (fun e => by rw [e] at h; exact absurd h (by decide +kernel)), if_neg (fun e => by rw [e] at h; exact absurd h (by decide +kernel))]
    unfold z_go
    rw [z_e9, hX, hM]
    rfl
  · have hX : f_X_count xS0 a = some (-2) := by unfold f_X_count; rw [if_neg (fun e => by rw [e] at h; exact absurd h (by decide +kernel)), if_neg (fun e => by rw [e] at h; exact absurd h (by decide +kernel))]
    have hM : f_M_count mS0 a = some (-2) := by unfold f_M_count; rw [if_neg (fun e => by rw [e] at h; exact absurd h (by decide +kernel)), if_neg (fun e => by rw [e] at h; exact absurd h (by decide +kernel))]
    unfold z_go
    rw [z_e9, hX, hM]
    rfl
  · have t := z_t9 j hj
    unfold z_go at t ⊢
    rw [z_e9] at t ⊢
    exact t
