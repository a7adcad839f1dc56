theorem z_inT {S : Nat → Nat → Int32} {m : Int32} {k j : Nat} (hm : m = nI k) (hk : k < 2 ^ 30) (hj : j ≤ k) : f_M_isIn S (nI j) 0 m = some true := by
  unfold f_M_isIn
  rw [if_neg (nI_pos (by omega)), if_neg (by rw [hm, nI_ltI (by omega) (by omega)]; omega)]
theorem z_inE {S : Nat → Nat → Int32} (b : Int32) {m : Int32} (hm : m = -1) : f_M_isIn S b 0 m = some false := by
  unfold f_M_isIn
  by_cases h : b < 0
  · rw [if_pos h]
  · rw [if_neg h, if_pos]
    rw [hm, Int32.lt_iff_toInt_lt]
    rw [Int32.lt_iff_toInt_lt] at h
    have e : (0 : Int32).toInt = 0 := rfl
    have e1 : (-1 : Int32).toInt = -1 := by decide +kernel
    omega
theorem z_ne {b m : Int32} {n k : Nat} (hm : m = nI k) (hk : k < n) (hn : n < 2 ^ 31) (h : b < 0 ∨ nI n ≤ b) : ¬ b = m := by
  intro e
  rw [e, hm] at h
  rcases h with h | h
  · exact nI_pos (by omega) h
  · rw [nI_leI hn (by omega)] at h
    omega
set_option maxRecDepth 100000 in
theorem z_t1 : ∀ j, j < 5 → ∀ k, k < 3 → z_go 1 (nI j) (nI k) 0 = true := by decide +kernel
theorem z_1 (a b c : Int32) : z_go 1 a b c = true := by
  rcases pk_ix a (n := 5) (by decide) with h | h | ⟨j, hj, rfl⟩
  · have hX : f_X_declare xS0 a b = some (-2, xS0) := by unfold f_X_declare; rw [if_pos h]
    have hM : f_M_declare mS0 a b = some (-2, mS0) := by unfold f_M_declare; rw [z_in (k := 4) (by decide +kernel) (by decide) (Or.inl h)]; rfl
    unfold z_go
    rw [z_e1, hX, hM]
    rfl
  · have hX : f_X_declare xS0 a b = some (-2, xS0) := by unfold f_X_declare; rw [if_neg (z_le h (by decide)), if_pos (z_gt (k := 4) (by decide +kernel) (by decide) h (by decide))]
    have hM : f_M_declare mS0 a b = some (-2, mS0) := by unfold f_M_declare; rw [z_in (k := 4) (by decide +kernel) (by decide) (Or.inr h)]; rfl
    unfold z_go
    rw [z_e1, hX, hM]
    rfl
  · have n4 : ¬ (4 : Int32) < nI j := by rw [show (4 : Int32) = nI 4 by decide +kernel, nI_ltI (by omega) (by omega)]; omega
    rcases pk_ix b (n := 3) (by decide) with h | h | ⟨k, hk, rfl⟩
    · have hX : f_X_declare xS0 (nI j) b = some (-2, xS0) := by unfold f_X_declare; rw [if_neg (nI_pos (by omega)), if_neg n4, if_pos h]
      have hM : f_M_declare mS0 (nI j) b = some (-2, mS0) := by
        unfold f_M_declare
        rw [z_inT (k := 4) (by decide +kernel) (by decide) (by omega), z_in (k := 2) (by decide +kernel) (by decide) (Or.inl h)]
        rfl
      unfold z_go
      rw [z_e1, hX, hM]
      rfl
    · have hX : f_X_declare xS0 (nI j) b = some (-2, xS0) := by
        unfold f_X_declare
        rw [if_neg (nI_pos (by omega)), if_neg n4, if_neg (z_le h (by decide)), if_neg]
        rw [Int32.not_le]
        exact z_gt (k := 2) (by decide +kernel) (by decide) h (by decide)
      have hM : f_M_declare mS0 (nI j) b = some (-2, mS0) := by
        unfold f_M_declare
        rw [z_inT (k := 4) (by decide +kernel) (by decide) (by omega), z_in (k := 2) (by decide +kernel) (by decide) (Or.inr h)]
        rfl
      unfold z_go
      rw [z_e1, hX, hM]
      rfl
    · have t := z_t1 j hj k hk
      unfold z_go at t ⊢
      rw [z_e1] at t ⊢
      exact t
theorem z_sup (a b : Int32) : f_X_mayBeSuper xS0 a b = some false := by
  rcases pk_ix a (n := 1) (by decide) with h | h | ⟨j, hj, rfl⟩
  · unfold f_X_mayBeSuper; rw [z_Khas (Or.inl h)]; rfl
  · unfold f_X_mayBeSuper; rw [z_Khas (Or.inr h)]; rfl
  · obtain rfl : j = 0 := by omega
    rcases pk_ix b (n := 3) (by decide) with h | h | ⟨k, hk, rfl⟩
    · unfold f_X_mayBeSuper; rw [show f_K_has xS0 (nI 0) = some true by decide +kernel, z_Thas (Or.inl h)]; rfl
    · unfold f_X_mayBeSuper; rw [show f_K_has xS0 (nI 0) = some true by decide +kernel, z_Thas (Or.inr h)]; rfl
    · rcases (show k = 0 ∨ k = 1 ∨ k = 2 by omega) with rfl | rfl | rfl <;> decide +kernel
set_option maxRecDepth 100000 in
theorem z_t2 : ∀ k, k < 3 → z_go 2 (nI 0) (nI k) 0 = true := by decide +kernel
theorem z_2 (a b c : Int32) : z_go 2 a b c = true := by
  have hX : f_X_inherit xS0 a b = some (-2, xS0) := by unfold f_X_inherit; rw [z_sup]; rfl
  rcases pk_ix a (n := 1) (by decide) with h | h | ⟨j, hj, rfl⟩
  · have hM : f_M_inherit mS0 a b = some (-2, mS0) := by unfold f_M_inherit; rw [z_Mc (Or.inl h)]; rfl
    unfold z_go
    rw [z_e2, hX, hM]
    rfl
  · have hM : f_M_inherit mS0 a b = some (-2, mS0) := by unfold f_M_inherit; rw [z_Mc (Or.inr h)]; rfl
    unfold z_go
    rw [z_e2, hX, hM]
    rfl
  · obtain rfl : j = 0 := by omega
    have hc : f_M_isClass mS0 (nI 0) = some true := by decide +kernel
    rcases pk_ix b (n := 3) (by decide) with h | h | ⟨k, hk, rfl⟩
    · have hM : f_M_inherit mS0 (nI 0) b = some (-2, mS0) := by unfold f_M_inherit; rw [hc, z_Mt (Or.inl h)]; rfl
      unfold z_go
      rw [z_e2, hX, hM]
      rfl
    · have hM : f_M_inherit mS0 (nI 0) b = some (-2, mS0) := by unfold f_M_inherit; rw [hc, z_Mt (Or.inr h)]; rfl
      unfold z_go
      rw [z_e2, hX, hM]
      rfl
    · have t := z_t2 k hk
      unfold z_go at t ⊢
      rw [z_e2] at t ⊢
      exact t
theorem z_M1 (a : Int32) (P : Int32 → Prop) (ho : f_M_isClass mS0 a = some false → P a) (h0 : P (nI 0)) : P a := by
  rcases pk_ix a (n := 1) (by decide) with h | h | ⟨j, hj, rfl⟩
  · exact ho (z_Mc (Or.inl h))
  · exact ho (z_Mc (Or.inr h))
  · obtain rfl : j = 0 := by omega
    exact h0
theorem z_3 (a b c : Int32) : z_go 3 a b c = true := by
  have hX : f_X_bind xS0 a b c = some (-2, xS0) := by unfold f_X_bind; rw [z_Khp]; rfl
  have hM : f_M_bind mS0 a b c = some (-2, mS0) := by
    refine z_M1 a (fun a => f_M_bind mS0 a b c = some (-2, mS0)) (fun h => ?_) ?_
    · show f_M_bind mS0 a b c = _
      unfold f_M_bind; rw [h]; rfl
    · show f_M_bind mS0 (nI 0) b c = _
      unfold f_M_bind
      rw [show f_M_isClass mS0 (nI 0) = some true by decide +kernel, z_inE b (by decide +kernel)]
      rfl
  unfold z_go
  rw [z_e3, hX, hM]
  rfl
theorem z_5 (a b c : Int32) : z_go 5 a b c = true := by
  have hX : f_X_of xS0 a b c = some (-2, xS0) := by unfold f_X_of; rw [z_Kp]; rfl
  have hM : f_M_of mS0 a b c = some (-2, mS0) := by
    refine z_M1 a (fun a => f_M_of mS0 a b c = some (-2, mS0)) (fun h => ?_) ?_
    · show f_M_of mS0 a b c = _
      unfold f_M_of; rw [h]; rfl
    · show f_M_of mS0 (nI 0) b c = _
      unfold f_M_of
      rw [show f_M_isClass mS0 (nI 0) = some true by decide +kernel]
      have e0 : mS0 2 (nI 0).toNatClampNeg = 0 := by decide +kernel
      simp only [Option.bind_some]
      rw [if_neg (by decide +kernel), if_pos e0]
      rfl
  unfold z_go
  rw [z_e5, hX, hM]
  rfl
theorem z_7 (a b c : Int32) : z_go 7 a b c = true := by
  have hX : f_X_variable xS0 a b = some (-2, xS0) := by unfold f_X_variable; rw [z_Khp]; rfl
  have hM : f_M_variable mS0 a b = some (-2, mS0) := by
    refine z_M1 a (fun a => f_M_variable mS0 a b = some (-2, mS0)) (fun h => ?_) ?_
    · show f_M_variable mS0 a b = _
      unfold f_M_variable; rw [h]; rfl
    · show f_M_variable mS0 (nI 0) b = _
      unfold f_M_variable
      rw [show f_M_isClass mS0 (nI 0) = some true by decide +kernel, z_inE b (by decide +kernel)]
      rfl
  unfold z_go
  rw [z_e7, hX, hM]
  rfl
set_option maxRecDepth 100000 in
theorem z_t6 : z_go 6 0 0 0 = true ∧ ∀ j, j < 2 → ∀ k, k < 3 → z_go 6 (nI (j + 1)) (nI k) 0 = true := by decide +kernel
theorem z_wz (b c : Int32) : z_go 6 0 b c = z_go 6 0 0 0 := by
  have hX : f_X_wild xS0 0 b = f_X_wild xS0 0 0 := by unfold f_X_wild; rw [if_pos rfl, if_pos rfl]
  have h34 : f_M_wild_34 mS0 0 b = f_M_wild_34 mS0 0 0 := by unfold f_M_wild_34; rw [if_pos rfl, if_pos rfl]
  have hM : f_M_wild mS0 0 b = f_M_wild mS0 0 0 := by
    unfold f_M_wild
    rw [show f_M_isIn mS0 0 0 2 = some true by decide +kernel, h34]
    simp only [Option.bind_some]
    rw [if_neg (by decide +kernel), if_pos (by decide +kernel), if_neg (by decide +kernel), if_pos (by decide +kernel)]
  unfold z_go
  rw [z_e6, z_e6, hX, hM]
theorem z_6 (a b c : Int32) : z_go 6 a b c = true := by
  rcases pk_ix a (n := 3) (by decide) with h | h | ⟨j, hj, rfl⟩
  · have hX : f_X_wild xS0 a b = some (-2, xS0) := by
      unfold f_X_wild
      rw [if_neg (z_ne (n := 3) (k := 0) (by decide +kernel) (by decide) (by decide) (Or.inl h)), if_neg (z_ne (n := 3) (k := 1) (by decide +kernel) (by decide) (by decide) (Or.inl h)), if_neg (z_ne (n := 3) (k := 2) (by decide +kernel) (by decide) (by decide) (Or.inl h))]
    have hM : f_M_wild mS0 a b = some (-2, mS0) := by unfold f_M_wild; rw [z_in (k := 2) (by decide +kernel) (by decide) (Or.inl h)]; rfl
    unfold z_go
    rw [z_e6, hX, hM]
    rfl
  · have hX : f_X_wild xS0 a b = some (-2, xS0) := by
      unfold f_X_wild
      rw [if_neg (z_ne (n := 3) (k := 0) (by decide +kernel) (by decide) (by decide) (Or.inr h)), if_neg (z_ne (n := 3) (k := 1) (by decide +kernel) (by decide) (by decide) (Or.inr h)), if_neg (z_ne (n := 3) (k := 2) (by decide +kernel) (by decide) (by decide) (Or.inr h))]
    have hM : f_M_wild mS0 a b = some (-2, mS0) := by unfold f_M_wild; rw [z_in (k := 2) (by decide +kernel) (by decide) (Or.inr h)]; rfl
    unfold z_go
    rw [z_e6, hX, hM]
    rfl
  · rcases Nat.eq_zero_or_pos j with rfl | hp
    · exact (z_wz b c).trans z_t6.1
    · obtain ⟨i, rfl⟩ : ∃ i, j = i + 1 := ⟨j - 1, by omega⟩
      have h0 : ¬ nI (i + 1) ≤ 0 := nI_nle (by omega) (by omega)
      have hz : ∀ h : b < 0 ∨ nI 3 ≤ b, z_go 6 (nI (i + 1)) b c = true := fun h => by
        have h29 : f_X_wild_29 xS0 (nI (i + 1)) b = some (-2, xS0) := by unfold f_X_wild_29; rw [z_Targ h]; rfl
        have hX : f_X_wild xS0 (nI (i + 1)) b = some (-2, xS0) := by
          unfold f_X_wild
          rw [h29, if_neg (nI_ne0 (by omega) (by omega))]
          rcases (show i = 0 ∨ i = 1 by omega) with rfl | rfl
          · rw [if_pos (by decide +kernel)]
          · rw [if_neg (by decide +kernel), if_pos (by decide +kernel)]
        have hM : f_M_wild mS0 (nI (i + 1)) b = some (-2, mS0) := by
          unfold f_M_wild
          rw [z_inT (k := 2) (by decide +kernel) (by decide) (by omega), z_Marg h]
          simp only [Option.bind_some]
          rw [if_neg (by decide +kernel), if_neg h0]
          rfl
        unfold z_go
        rw [z_e6, hX, hM]
        rfl
      rcases pk_ix b (n := 3) (by decide) with h | h | ⟨k, hk, rfl⟩
      · exact hz (Or.inl h)
      · exact hz (Or.inr h)
      · have t := z_t6.2 i (by omega) k hk
        unfold z_go at t ⊢
        rw [z_e6] at t ⊢
        exact t
