theorem z_yf_T_has : ∀ j, j < 3 → f_T_has xS0 (nI j) = some true := by decide +kernel
theorem z_yf_K_has : ∀ j, j < 1 → f_K_has xS0 (nI j) = some true := by decide +kernel
theorem z_yf_T_standsAlone : ∀ j, j < 3 → f_T_standsAlone xS0 (nI j) = some true := by decide +kernel
theorem z_yf_M_isType : ∀ j, j < 3 → f_M_isType mS0 (nI j) = some true := by decide +kernel
theorem z_yf_M_isClass : ∀ j, j < 1 → f_M_isClass mS0 (nI j) = some true := by decide +kernel
theorem z_yf_M_isAsked : ∀ j, j < 3 → f_M_isAsked mS0 (nI j) = some true := by decide +kernel
theorem z_ywa : ∀ j, j < 3 → f_T_hasWildArgument xS0 (nI j) = some false := by decide +kernel
set_option maxRecDepth 100000 in
theorem z_t10 : ∀ j, j < 3 → ∀ k, k < 5 → z_go 10 (nI j) (nI k) 0 = true := by decide +kernel
theorem z_10 (a b c : Int32) : z_go 10 a b c = true := by
  have ha : ∀ h : a < 0 ∨ nI 3 ≤ a, z_go 10 a b c = true := fun h => by
    have hX : f_X_told xS0 a b = some (-2) := by unfold f_X_told; rw [z_Thas h]; rfl
    have hM : f_M_told mS0 a b = some (-2) := by unfold f_M_told; rw [z_Mt h]; rfl
    unfold z_go
    rw [z_e10, hX, hM]
    rfl
  rcases pk_ix a (n := 3) (by decide) with h | h | ⟨j, hj, rfl⟩
  · exact ha (Or.inl h)
  · exact ha (Or.inr h)
  · have hz : ∀ h : b < 0 ∨ nI 5 ≤ b, z_go 10 (nI j) b c = true := fun h => by
      have hX : f_X_told xS0 (nI j) b = some (-2) := by
        unfold f_X_told
        rw [z_yf_T_has j hj]
        simp only [Option.bind_some]
        rw [if_neg (by decide +kernel), if_neg (z_ne (n := 5) (k := 0) (by decide +kernel) (by decide) (by decide) h), if_neg (z_ne (n := 5) (k := 1) (by decide +kernel) (by decide) (by decide) h), if_neg (z_ne (n := 5) (k := 2) (by decide +kernel) (by decide) (by decide) h), if_neg (z_ne (n := 5) (k := 3) (by decide +kernel) (by decide) (by decide) h), if_neg (z_ne (n := 5) (k := 4) (by decide +kernel) (by decide) (by decide) h)]
      have hM : f_M_told mS0 (nI j) b = some (-2) := by unfold f_M_told; rw [z_yf_M_isType j hj, z_in (k := 4) (by decide +kernel) (by decide) h]; rfl
      unfold z_go
      rw [z_e10, hX, hM]
      rfl
    rcases pk_ix b (n := 5) (by decide) with h | h | ⟨k, hk, rfl⟩
    · exact hz (Or.inl h)
    · exact hz (Or.inr h)
    · have t := z_t10 j hj k hk
      unfold z_go at t ⊢
      rw [z_e10] at t ⊢
      exact t
set_option maxRecDepth 100000 in
theorem z_t11 : ∀ j, j < 1 → ∀ k, k < 4 → z_go 11 (nI j) (nI k) 0 = true := by decide +kernel
theorem z_11 (a b c : Int32) : z_go 11 a b c = true := by
  have ha : ∀ h : a < 0 ∨ nI 1 ≤ a, z_go 11 a b c = true := fun h => by
    have hX : f_X_known xS0 a b = some (-2) := by unfold f_X_known; rw [z_Khas h]; rfl
    have hM : f_M_known mS0 a b = some (-2, mS0) := by unfold f_M_known; rw [z_Mc h]; rfl
    unfold z_go
    rw [z_e11, hX, hM]
    rfl
  rcases pk_ix a (n := 1) (by decide) with h | h | ⟨j, hj, rfl⟩
  · exact ha (Or.inl h)
  · exact ha (Or.inr h)
  · have hz : ∀ h : b < 0 ∨ nI 4 ≤ b, z_go 11 (nI j) b c = true := fun h => by
      have hX : f_X_known xS0 (nI j) b = some (-2) := by
        unfold f_X_known
        rw [z_yf_K_has j hj]
        simp only [Option.bind_some]
        rw [if_neg (by decide +kernel), if_neg (z_ne (n := 4) (k := 0) (by decide +kernel) (by decide) (by decide) h), if_neg (z_ne (n := 4) (k := 1) (by decide +kernel) (by decide) (by decide) h), if_neg (z_ne (n := 4) (k := 2) (by decide +kernel) (by decide) (by decide) h), if_neg (z_ne (n := 4) (k := 3) (by decide +kernel) (by decide) (by decide) h)]
      have hM : f_M_known mS0 (nI j) b = some (-2, mS0) := by unfold f_M_known; rw [z_yf_M_isClass j hj, z_in (k := 3) (by decide +kernel) (by decide) h]; rfl
      unfold z_go
      rw [z_e11, hX, hM]
      rfl
    rcases pk_ix b (n := 4) (by decide) with h | h | ⟨k, hk, rfl⟩
    · exact hz (Or.inl h)
    · exact hz (Or.inr h)
    · have t := z_t11 j hj k hk
      unfold z_go at t ⊢
      rw [z_e11] at t ⊢
      exact t
set_option maxRecDepth 100000 in
theorem z_t12 : ∀ j, j < 1 → ∀ k, k < 1 → z_go 12 (nI j) (nI k) 0 = true := by decide +kernel
theorem z_12 (a b c : Int32) : z_go 12 a b c = true := by
  have ha : ∀ h : a < 0 ∨ nI 1 ≤ a, z_go 12 a b c = true := fun h => by
    have hX : f_X_below xS0 a b = some (-2) := by unfold f_X_below; rw [z_Khas h]; rfl
    have hM : f_M_below mS0 a b = some (-2, mS0) := by unfold f_M_below; rw [z_Mc h]; rfl
    unfold z_go
    rw [z_e12, hX, hM]
    rfl
  rcases pk_ix a (n := 1) (by decide) with h | h | ⟨j, hj, rfl⟩
  · exact ha (Or.inl h)
  · exact ha (Or.inr h)
  · have hz : ∀ h : b < 0 ∨ nI 1 ≤ b, z_go 12 (nI j) b c = true := fun h => by
      have hX : f_X_below xS0 (nI j) b = some (-2) := by unfold f_X_below; rw [z_yf_K_has j hj, z_Khas h]; rfl
      have hM : f_M_below mS0 (nI j) b = some (-2, mS0) := by unfold f_M_below; rw [z_yf_M_isClass j hj, z_Mc h]; rfl
      unfold z_go
      rw [z_e12, hX, hM]
      rfl
    rcases pk_ix b (n := 1) (by decide) with h | h | ⟨k, hk, rfl⟩
    · exact hz (Or.inl h)
    · exact hz (Or.inr h)
    · have t := z_t12 j hj k hk
      unfold z_go at t ⊢
      rw [z_e12] at t ⊢
      exact t
set_option maxRecDepth 100000 in
theorem z_t13 : ∀ j, j < 1 → ∀ k, k < 1 → z_go 13 (nI j) (nI k) 0 = true := by decide +kernel
theorem z_13 (a b c : Int32) : z_go 13 a b c = true := by
  have ha : ∀ h : a < 0 ∨ nI 1 ≤ a, z_go 13 a b c = true := fun h => by
    have hX : f_X_apart xS0 a b = some (-2) := by unfold f_X_apart; rw [z_Khas h]; rfl
    have hM : f_M_apart mS0 a b = some (-2, mS0) := by unfold f_M_apart; rw [z_Mc h]; rfl
    unfold z_go
    rw [z_e13, hX, hM]
    rfl
  rcases pk_ix a (n := 1) (by decide) with h | h | ⟨j, hj, rfl⟩
  · exact ha (Or.inl h)
  · exact ha (Or.inr h)
  · have hz : ∀ h : b < 0 ∨ nI 1 ≤ b, z_go 13 (nI j) b c = true := fun h => by
      have hX : f_X_apart xS0 (nI j) b = some (-2) := by unfold f_X_apart; rw [z_yf_K_has j hj, z_Khas h]; rfl
      have hM : f_M_apart mS0 (nI j) b = some (-2, mS0) := by unfold f_M_apart; rw [z_yf_M_isClass j hj, z_Mc h]; rfl
      unfold z_go
      rw [z_e13, hX, hM]
      rfl
    rcases pk_ix b (n := 1) (by decide) with h | h | ⟨k, hk, rfl⟩
    · exact hz (Or.inl h)
    · exact hz (Or.inr h)
    · have t := z_t13 j hj k hk
      unfold z_go at t ⊢
      rw [z_e13] at t ⊢
      exact t
set_option maxRecDepth 100000 in
theorem z_t14 : ∀ j, j < 3 → ∀ k, k < 3 → z_go 14 (nI j) (nI k) 0 = true := by decide +kernel
theorem z_14 (a b c : Int32) : z_go 14 a b c = true := by
  have ha : ∀ h : a < 0 ∨ nI 3 ≤ a, z_go 14 a b c = true := fun h => by
    have hX : f_X_is xS0 a b = some (-2, xS0) := by unfold f_X_is; rw [z_Tsa h]; rfl
    have hM : f_M_is mS0 a b = some (-2, mS0) := by unfold f_M_is; rw [z_Mask h]; rfl
    unfold z_go
    rw [z_e14, hX, hM]
    rfl
  rcases pk_ix a (n := 3) (by decide) with h | h | ⟨j, hj, rfl⟩
  · exact ha (Or.inl h)
  · exact ha (Or.inr h)
  · have hz : ∀ h : b < 0 ∨ nI 3 ≤ b, z_go 14 (nI j) b c = true := fun h => by
      have hX : f_X_is xS0 (nI j) b = some (-2, xS0) := by unfold f_X_is; rw [z_yf_T_standsAlone j hj, z_Tsa h]; rfl
      have hM : f_M_is mS0 (nI j) b = some (-2, mS0) := by unfold f_M_is; rw [z_yf_M_isAsked j hj, z_Mask h]; rfl
      unfold z_go
      rw [z_e14, hX, hM]
      rfl
    rcases pk_ix b (n := 3) (by decide) with h | h | ⟨k, hk, rfl⟩
    · exact hz (Or.inl h)
    · exact hz (Or.inr h)
    · have t := z_t14 j hj k hk
      unfold z_go at t ⊢
      rw [z_e14] at t ⊢
      exact t
set_option maxRecDepth 100000 in
theorem z_t15 : ∀ j, j < 3 → ∀ k, k < 3 → z_go 15 (nI j) (nI k) 0 = true := by decide +kernel
theorem z_15 (a b c : Int32) : z_go 15 a b c = true := by
  have ha : ∀ h : a < 0 ∨ nI 3 ≤ a, z_go 15 a b c = true := fun h => by
    have hX : f_X_may xS0 a b = some (-2, xS0) := by unfold f_X_may; rw [z_Tsa h]; rfl
    have hM : f_M_may mS0 a b = some (-2, mS0) := by unfold f_M_may; rw [z_Mask h]; rfl
    unfold z_go
    rw [z_e15, hX, hM]
    rfl
  rcases pk_ix a (n := 3) (by decide) with h | h | ⟨j, hj, rfl⟩
  · exact ha (Or.inl h)
  · exact ha (Or.inr h)
  · have hz : ∀ h : b < 0 ∨ nI 3 ≤ b, z_go 15 (nI j) b c = true := fun h => by
      have hX : f_X_may xS0 (nI j) b = some (-2, xS0) := by unfold f_X_may; rw [z_yf_T_standsAlone j hj, z_Tsa h]; rfl
      have hM : f_M_may mS0 (nI j) b = some (-2, mS0) := by unfold f_M_may; rw [z_yf_M_isAsked j hj, z_Mask h]; rfl
      unfold z_go
      rw [z_e15, hX, hM]
      rfl
    rcases pk_ix b (n := 3) (by decide) with h | h | ⟨k, hk, rfl⟩
    · exact hz (Or.inl h)
    · exact hz (Or.inr h)
    · have t := z_t15 j hj k hk
      unfold z_go at t ⊢
      rw [z_e15] at t ⊢
      exact t
set_option maxRecDepth 100000 in
theorem z_t16 : ∀ j, j < 3 → ∀ k, k < 1 → z_go 16 (nI j) (nI k) 0 = true := by decide +kernel
theorem z_16 (a b c : Int32) : z_go 16 a b c = true := by
  have ha : ∀ h : a < 0 ∨ nI 3 ≤ a, z_go 16 a b c = true := fun h => by
    have hX : f_X_as xS0 a b = some (-2, xS0) := by unfold f_X_as; rw [z_Tsa h]; rfl
    have hM : f_M_as mS0 a b = some (-2, mS0) := by unfold f_M_as; rw [z_Mt h]; rfl
    unfold z_go
    rw [z_e16, hX, hM]
    rfl
  rcases pk_ix a (n := 3) (by decide) with h | h | ⟨j, hj, rfl⟩
  · exact ha (Or.inl h)
  · exact ha (Or.inr h)
  · have hz : ∀ h : b < 0 ∨ nI 1 ≤ b, z_go 16 (nI j) b c = true := fun h => by
      have hX : f_X_as xS0 (nI j) b = some (-2, xS0) := by unfold f_X_as; rw [z_yf_T_standsAlone j hj, z_ywa j hj, z_Khas h]; rfl
      have hM : f_M_as mS0 (nI j) b = some (-2, mS0) := by unfold f_M_as; rw [z_yf_M_isType j hj, z_Mc h]; rfl
      unfold z_go
      rw [z_e16, hX, hM]
      rfl
    rcases pk_ix b (n := 1) (by decide) with h | h | ⟨k, hk, rfl⟩
    · exact hz (Or.inl h)
    · exact hz (Or.inr h)
    · have t := z_t16 j hj k hk
      unfold z_go at t ⊢
      rw [z_e16] at t ⊢
      exact t
theorem z_all (o a b c : Int32) : z_go o a b c = true := by
  by_cases h0 : o = 0
  · rw [h0]; exact z_0 a b c
  by_cases h1 : o = 1
  · rw [h1]; exact z_1 a b c
  by_cases h2 : o = 2
  · rw [h2]; exact z_2 a b c
  by_cases h3 : o = 3
  · rw [h3]; exact z_3 a b c
  by_cases h4 : o = 4
  · rw [h4]; exact z_4 a b c
  by_cases h5 : o = 5
  · rw [h5]; exact z_5 a b c
  by_cases h6 : o = 6
  · rw [h6]; exact z_6 a b c
  by_cases h7 : o = 7
  · rw [h7]; exact z_7 a b c
  by_cases h8 : o = 8
  · rw [h8]; exact z_8 a b c
  by_cases h9 : o = 9
  · rw [h9]; exact z_9 a b c
  by_cases h10 : o = 10
  · rw [h10]; exact z_10 a b c
  by_cases h11 : o = 11
  · rw [h11]; exact z_11 a b c
  by_cases h12 : o = 12
  · rw [h12]; exact z_12 a b c
  by_cases h13 : o = 13
  · rw [h13]; exact z_13 a b c
  by_cases h14 : o = 14
  · rw [h14]; exact z_14 a b c
  by_cases h15 : o = 15
  · rw [h15]; exact z_15 a b c
  by_cases h16 : o = 16
  · rw [h16]; exact z_16 a b c
  by_cases h17 : o = 17
  · rw [h17]; exact z_17 a b c
  by_cases h18 : o = 18
  · rw [h18]; exact z_18 a b c
  unfold z_go qlaw
  rw [if_neg h0, if_neg h1, if_neg h2, if_neg h3, if_neg h4, if_neg h5, if_neg h6, if_neg h7, if_neg h8, if_neg h9, if_neg h10, if_neg h11, if_neg h12, if_neg h13, if_neg h14, if_neg h15, if_neg h16, if_neg h17, if_neg h18]
  rfl
/-- the first call on new objects: whatever it is, both answer, and alike -/
theorem z_ok1 : qOk 1 xS0 mS0 := fun o a b c => by
  have h := z_all o a b c
  unfold z_go at h
  obtain ⟨q, hq⟩ := Option.isSome_iff_exists.mp h
  exact ⟨q, hq, trivial⟩
