-- the first call, on new objects
theorem z_le {a : Int32} {n : Nat} (h : nI n ≤ a) (hn : n < 2 ^ 31) : ¬ a < 0 := by
  rw [Int32.le_iff_toInt_le, nI_toInt hn] at h
  rw [Int32.lt_iff_toInt_lt]
  have e : (0 : Int32).toInt = 0 := rfl
  omega
theorem z_gt {a m : Int32} {n k : Nat} (hm : m = nI k) (hk : k < n) (h : nI n ≤ a) (hn : n < 2 ^ 31) : m < a := by
  rw [Int32.le_iff_toInt_le, nI_toInt hn] at h
  rw [Int32.lt_iff_toInt_lt, hm, nI_toInt (by omega)]
  omega
theorem z_xc : xS0 0 0 = 1 := by decide +kernel
theorem z_xt : xS0 10 0 = 3 := by decide +kernel
theorem z_mc : mS0 0 0 = 1 := by decide +kernel
theorem z_mt : mS0 7 0 = 3 := by decide +kernel
theorem z_Khas {a : Int32} (h : a < 0 ∨ nI 1 ≤ a) : f_K_has xS0 a = some false := by
  unfold f_K_has
  rcases h with h | h
  · rw [if_pos h]
  · rw [if_neg (z_le h (by decide)), z_xc, if_pos (show (1 : Int32) ≤ a from h)]
theorem z_Thas {a : Int32} (h : a < 0 ∨ nI 3 ≤ a) : f_T_has xS0 a = some false := by
  unfold f_T_has
  rcases h with h | h
  · rw [if_pos h]
  · rw [if_neg (z_le h (by decide)), z_xt, if_pos (show (3 : Int32) ≤ a from h)]
theorem z_Tsa {a : Int32} (h : a < 0 ∨ nI 3 ≤ a) : f_T_standsAlone xS0 a = some false := by
  unfold f_T_standsAlone
  rcases h with h | h
  · rw [if_pos h]
  · rw [if_neg (z_le h (by decide)), z_xt, if_pos (show (3 : Int32) ≤ a from h)]
theorem z_Targ {a : Int32} (h : a < 0 ∨ nI 3 ≤ a) : f_T_mayBeArgument xS0 a = some false := by
  unfold f_T_mayBeArgument
  rcases h with h | h
  · rw [if_pos h]
  · rw [if_neg (z_le h (by decide)), z_xt, if_pos (show (3 : Int32) ≤ a from h)]
theorem z_in {S : Nat → Nat → Int32} {a m : Int32} {k : Nat} (hm : m = nI k) (hk : k < 2 ^ 30) (h : a < 0 ∨ nI (k + 1) ≤ a) : f_M_isIn S a 0 m = some false := by
  unfold f_M_isIn
  rcases h with h | h
  · rw [if_pos h]
  · rw [if_neg (z_le h (by omega)), if_pos (z_gt hm (by omega) h (by omega))]
theorem z_Mc {a : Int32} (h : a < 0 ∨ nI 1 ≤ a) : f_M_isClass mS0 a = some false := by
  unfold f_M_isClass
  rw [z_mc, z_in (k := 0) (by decide +kernel) (by decide) h]
  rfl
theorem z_Mt {a : Int32} (h : a < 0 ∨ nI 3 ≤ a) : f_M_isType mS0 a = some false := by
  unfold f_M_isType
  rw [z_mt, z_in (k := 2) (by decide +kernel) (by decide) h]
  rfl
theorem z_Marg {a : Int32} (h : a < 0 ∨ nI 3 ≤ a) : f_M_isArgument mS0 a = some false := by
  unfold f_M_isArgument
  rw [z_Mt h]
  rfl
theorem z_Mask {a : Int32} (h : a < 0 ∨ nI 3 ≤ a) : f_M_isAsked mS0 a = some false := by
  unfold f_M_isAsked
  rw [z_Mt h]
  rfl
theorem z_Kp (a : Int32) : f_K_parametersOf xS0 a = some 0 := by
  rcases pk_ix a (n := 1) (by decide) with h | h | ⟨j, hj, rfl⟩
  · unfold f_K_parametersOf; rw [if_pos h]
  · unfold f_K_parametersOf; rw [if_neg (z_le h (by decide)), z_xc, if_pos (show (1 : Int32) ≤ a from h)]
  · obtain rfl : j = 0 := by omega
    decide +kernel
theorem z_Khp (a b : Int32) : f_K_hasParameter xS0 a b = some false := by
  rcases pk_ix a (n := 1) (by decide) with h | h | ⟨j, hj, rfl⟩
  · unfold f_K_hasParameter; rw [if_pos h]
  · unfold f_K_hasParameter; rw [if_neg (z_le h (by decide)), z_xc, if_pos (show (1 : Int32) ≤ a from h)]
  · obtain rfl : j = 0 := by omega
    unfold f_K_hasParameter
    rw [if_neg (by decide +kernel), if_neg (by decide +kernel)]
    by_cases hb : b < 0
    · rw [if_pos hb]
    · rw [if_neg hb]
      have e : xS0 2 (nI 0).toNatClampNeg = 0 := by decide +kernel
      have e2 : qin (nI 0) 12 = true := by decide +kernel
      rw [e, e2]
      show (if (0 : Int32) ≤ b then some false else some true) = some false
      rw [if_pos]
      rw [Int32.le_iff_toInt_le]
      rw [Int32.lt_iff_toInt_lt] at hb
      omega
def z_go (o a b c : Int32) : Bool := (qlaw o a b c xS0 mS0).isSome
