theorem xns_in : ∀ w ∈ xns, w ∈ lw_tbl := by decide +kernel
theorem mns_in : ∀ w ∈ mns, w ∈ lw_tbl := by decide +kernel
theorem q_arr {s : State} {args : Array Value} {ty : FieldType} (hty : ty = .int ∨ ty = .boolean) (h : (Cond.arrayClass ty).before args s = true) : ∃ cA : ClassId, ArrOfT s cA ty ∧ va_RA s cA ty := by
  obtain ⟨cA, kA, comp, h1, h2, h3⟩ := Cond.arrayClass_spec h
  refine ⟨cA, fun n z => ⟨fun k h => (by cases h), kA, h2, comp, h3⟩, ?_⟩
  rcases hty with rfl | rfl <;> exact h1
set_option maxRecDepth 100000 in
set_option maxHeartbeats 4000000 in
theorem q_start (hO : qOk 1 xS0 mS0) {p : Program} {e : Env} {s : State} {m : MethodId} {below : List Frame} {meth : Method} {c : Code} (l : Launch) {b L : Nat} {xs : Nat → Int32} (hL : L ≤ 4) (C0 : lw_At p s m meth c b L xs) : W p l e room_1 s m #[Value.ref b] below meth c s.heap [] 0 0 (lw_Z below #[Value.ref b] s) (entryFrame m ([Value.ref b] : List Value).toArray 4) := by
  obtain ⟨hx, hb, hr, hml, hown, hts0, hX, hbl, hlocks, hgv⟩ := id C0
  have hts : ∀ w ∈ qtb, w.before #[Value.ref b] s = true := fun w h => hts0 w (qw_tbl h)
  have hA : ∀ q : Nat, s.heap.size ≤ q → (fun q : Nat => s.heap.size ≤ q) q := fun _ h => h
  have hNx : qnests xns s := fun w hw => by obtain ⟨a, i, x, hh, e⟩ := xns_form w hw; have := hts0 w (xns_in w hw); subst e; exact va_Nw.of rfl this
  have hNm : qnests mns s := fun w hw => by obtain ⟨a, i, x, hh, e⟩ := mns_form w hw; have := hts0 w (mns_in w hw); subst e; exact va_Nw.of rfl this
  obtain ⟨c0, i0, hn0⟩ := u_known (C := qR_K) (T := qF_K) (N := 10) (n := 10) hts qi_K (hts _ qk_18)
  obtain ⟨c1, i1, hn1⟩ := u_known (C := qR_T) (T := qF_T) (N := 10) (n := 10) hts qi_T (hts _ qk_67)
  obtain ⟨c2, i2, hn2⟩ := u_known (C := qR_S) (T := qF_S) (N := 2) (n := 2) hts qi_S (hts _ qk_120)
  obtain ⟨c3, i3, hn3⟩ := u_known (C := qR_O) (T := qF_O) (N := 3) (n := 3) hts qi_O (hts _ qk_133)
  obtain ⟨c4, i4, hn4⟩ := u_known (C := qR_U) (T := qF_U) (N := 4) (n := 4) hts qi_U (hts _ qk_149)
  obtain ⟨c5, i5, hn5⟩ := u_known (C := qR_X) (T := qF_X) (N := 5) (n := 5) hts qi_X (hts _ qk_10)
  obtain ⟨c6, i6, hn6⟩ := u_known (C := qR_M) (T := qF_M) (N := 32) (n := 32) hts qi_M (hts _ qk_638)
  obtain ⟨D, hKc⟩ : ∃ D : va_G, ∀ (k : Nat) (q : vw_C), qcl[k]? = some q → u_Kn s q.1 q.2.1 q.2.2 (D.1 k) (D.2 k) := by
    refine ⟨(fun k => if k = 0 then c0 else if k = 1 then c1 else if k = 2 then c2 else if k = 3 then c3 else if k = 4 then c4 else if k = 5 then c5 else c6, fun k => if k = 0 then i0 else if k = 1 then i1 else if k = 2 then i2 else if k = 3 then i3 else if k = 4 then i4 else if k = 5 then i5 else i6), ?_⟩
    intro k q hq
    match k, hq with
    | 0, hq => cases hq; exact hn0
    | 1, hq => cases hq; exact hn1
    | 2, hq => cases hq; exact hn2
    | 3, hq => cases hq; exact hn3
    | 4, hq => cases hq; exact hn4
    | 5, hq => cases hq; exact hn5
    | 6, hq => cases hq; exact hn6
    | k + 7, hq => simp [qcl] at hq
  obtain ⟨cI, hcI⟩ := q_arr (Or.inl rfl) (hts _ qk_65)
  obtain ⟨cZ, hcZ⟩ := q_arr (Or.inr rfl) (hts _ qk_752)
  have hK : va_K D qcl [(cI, .int), (cZ, .boolean)] s := ⟨hKc, fun k q h => by
    match k, h with
    | 0, h => cases h; exact hcI
    | 1, h => cases h; exact hcZ
    | k + 2, h => simp at h⟩
  have hK1 : va_K D qcl [(cI, .int)] s := hK.sub [0] rfl
  have hS : va_S (fun q : Nat => s.heap.size ≤ q) s.heap s.heap [] := va_S.rf
  have hP : va_P D qcl [] s.heap := fun k q h => by simp at h
  have hD : va_D (fun q : Nat => s.heap.size ≤ q) [] := ⟨fun i j p q h => by simp at h, fun k q h => by simp at h⟩
  have hl := lv_entry ([.ref b]) (n := 4) (Nat.le_of_ble_eq_true rfl)
  rw [lg_entry_eq]
  generalize (lg_sl ([.ref b]) ++ List.replicate (4 - (lg_sl ([.ref b])).length) Slot.unset).toArray = ls at hl ⊢
  have hl : lv_has ls 4 [(0, .ref b)] := hl
  refine va_new (ci := 5) (fs := [.null, .null, .null, .null, .null]) (C := qR_X) (T := qF_X) (N := 5) hx hb hts qi_X qt_X qt_X_ok hown (hts _ qk_9) (hts _ qk_10) (hts _ qk_1) hK hP hD hS hA rfl (fun j hj => by rcases (show j = 0 ∨ j = 1 ∨ j = 2 ∨ j = 3 ∨ j = 4 by omega) with rfl | rfl | rfl | rfl | rfl <;> rfl) (Nat.le_of_ble_eq_true rfl) (Nat.le_of_ble_eq_true rfl) qd_L_0 (fun q0 H hP hD hS => ?_)
  have hP : va_P D qcl ([(q0, .inr (5, [.null, .null, .null, .null, .null]))]) H := hP
  have hD : va_D (fun q : Nat => s.heap.size ≤ q) ([(q0, .inr (5, [.null, .null, .null, .null, .null]))]) := hD
  refine W.widen (k := 1) (n := 5) (by decide) (by decide) ?_
  refine lv_dup hx hb qd_L_3 rfl ?_
  have hPc := hP.sub (ws' := [(q0, .inr (5, [.null, .null, .null, .null, .null]))]) [0] rfl
  have hDc := hD.sub (ws' := [(q0, .inr (5, [.null, .null, .null, .null, .null]))]) [0] (by decide) rfl
  have hFc := va_free (wc := [(q0, .inr (5, [.null, .null, .null, .null, .null]))]) hD hS hA [0] rfl
  refine va_callv (va_runI (As := []) (rest := [.ref q0]) ⟨hx, hb, hml, hown, hts⟩ (c_X_init l D cI q0 H.size) (cwI 0 hts (q_good qk_13) rfl rfl rfl (hts _ qk_1) (hts _ qk_11) (hts _ qk_12) rfl (by decide +kernel) (by exact ⟨Nat.le_of_ble_eq_true rfl, Nat.le_of_ble_eq_true rfl⟩)) ⟨fun a U g mk q => by obtain ⟨z0, z1, zP, zK, zD⟩ := q; exact ⟨z0, z1, zP, va_K.moved (u := U) (U := U.calling g mk a) (Vm.Alike.refl U.vm) zK, zD⟩, fun U hU hW => ⟨rfl, by rw [hU], by rw [hU]; exact hPc, va_K.moved hW.alike hK1, hDc.weaken (fun _ _ _ _ => trivial)⟩⟩ rfl rfl hl.1 rfl (lv_room (Nat.le_of_ble_eq_true rfl)) qd_L_4 (by exact ⟨Nat.le_of_ble_eq_true rfl, Nat.le_of_ble_eq_true rfl⟩)) hS (fun q _ h => hFc q h) hFc (fun u t H1 locs ht hvm hw hB hz1 hk1 hS => ?_)
  obtain ⟨hP1, hD1⟩ := hB
  rw [ht] at hP1
  have hw := hw.symm
  subst hw
  obtain ⟨hP, hD⟩ := va_join (wr := []) (w1 := xw u cI xS0) hP hD [0] [] rfl rfl (by decide) (by decide) hk1 hFc hP1 hD1
  generalize H1 = H at hP hS ⊢
  have hP : va_P D qcl (xw u cI xS0) H := hP
  have hD : va_D (fun q : Nat => s.heap.size ≤ q) (xw u cI xS0) := hD
  refine W.widen (k := 23) (n := 8430) (by decide) (by decide) ?_
  refine lv_astore_n (lv' := [(1, .ref (u 0)), (0, .ref b)]) hx hb qd_L_7 rfl hl (by decide) rfl (fun ls hl => ?_)
  refine va_new (ci := 6) (fs := [.int 0, .null, .null, .null, .null, .null, .null, .int 0, .int 0, .null, .null, .null, .null, .null, .int 0, .null, .null, .null, .null, .null, .null, .null, .null, .null, .null, .null, .null, .null, .int 0, .null, .null, .null]) (C := qR_M) (T := qF_M) (N := 32) hx hb hts qi_M qt_M qt_M_ok hown (hts _ qk_637) (hts _ qk_638) (hts _ qk_8) hK hP hD hS hA rfl (fun j hj => by rcases (show j = 0 ∨ j = 1 ∨ j = 2 ∨ j = 3 ∨ j = 4 ∨ j = 5 ∨ j = 6 ∨ j = 7 ∨ j = 8 ∨ j = 9 ∨ j = 10 ∨ j = 11 ∨ j = 12 ∨ j = 13 ∨ j = 14 ∨ j = 15 ∨ j = 16 ∨ j = 17 ∨ j = 18 ∨ j = 19 ∨ j = 20 ∨ j = 21 ∨ j = 22 ∨ j = 23 ∨ j = 24 ∨ j = 25 ∨ j = 26 ∨ j = 27 ∨ j = 28 ∨ j = 29 ∨ j = 30 ∨ j = 31 by omega) with rfl | rfl | rfl | rfl | rfl | rfl | rfl | rfl | rfl | rfl | rfl | rfl | rfl | rfl | rfl | rfl | rfl | rfl | rfl | rfl | rfl | rfl | rfl | rfl | rfl | rfl | rfl | rfl | rfl | rfl | rfl | rfl <;> rfl) (Nat.le_of_ble_eq_true rfl) (Nat.le_of_ble_eq_true rfl) qd_L_8 (fun q1 H hP hD hS => ?_)
  have hP : va_P D qcl (xw u cI xS0 ++ [(q1, .inr (6, [.int 0, .null, .null, .null, .null, .null, .null, .int 0, .int 0, .null, .null, .null, .null, .null, .int 0, .null, .null, .null, .null, .null, .null, .null, .null, .null, .null, .null, .null, .null, .int 0, .null, .null, .null]))]) H := hP
  have hD : va_D (fun q : Nat => s.heap.size ≤ q) (xw u cI xS0 ++ [(q1, .inr (6, [.int 0, .null, .null, .null, .null, .null, .null, .int 0, .int 0, .null, .null, .null, .null, .null, .int 0, .null, .null, .null, .null, .null, .null, .null, .null, .null, .null, .null, .null, .null, .int 0, .null, .null, .null]))]) := hD
  refine W.widen (k := 24) (n := 8462) (by decide) (by decide) ?_
  refine lv_dup hx hb qd_L_11 rfl ?_
  have hPc := hP.sub (ws' := [(q1, .inr (6, [.int 0, .null, .null, .null, .null, .null, .null, .int 0, .int 0, .null, .null, .null, .null, .null, .int 0, .null, .null, .null, .null, .null, .null, .null, .null, .null, .null, .null, .null, .null, .int 0, .null, .null, .null]))]) [23] rfl
  have hDc := hD.sub (ws' := [(q1, .inr (6, [.int 0, .null, .null, .null, .null, .null, .null, .int 0, .int 0, .null, .null, .null, .null, .null, .int 0, .null, .null, .null, .null, .null, .null, .null, .null, .null, .null, .null, .null, .null, .int 0, .null, .null, .null]))]) [23] (by decide) rfl
  have hFc := va_free (wc := [(q1, .inr (6, [.int 0, .null, .null, .null, .null, .null, .null, .int 0, .int 0, .null, .null, .null, .null, .null, .int 0, .null, .null, .null, .null, .null, .null, .null, .null, .null, .null, .null, .null, .null, .int 0, .null, .null, .null]))]) hD hS hA [23] rfl
  refine va_callv (va_runI (As := []) (rest := [.ref q1]) ⟨hx, hb, hml, hown, hts⟩ (c_M_init l D cI cZ q1 H.size) (cwI 0 hts (q_good qk_641) rfl rfl rfl (hts _ qk_8) (hts _ qk_639) (hts _ qk_640) rfl (by decide +kernel) (by exact ⟨Nat.le_of_ble_eq_true rfl, Nat.le_of_ble_eq_true rfl⟩)) ⟨fun a U g mk q => by obtain ⟨z0, z1, zP, zK, zD, zN⟩ := q; exact ⟨z0, z1, zP, va_K.moved (u := U) (U := U.calling g mk a) (Vm.Alike.refl U.vm) zK, zD, m_nestsame (s := U) rfl zN⟩, fun U hU hW => ⟨rfl, by rw [hU], by rw [hU]; exact hPc, va_K.moved hW.alike hK, hDc.weaken (fun _ _ _ _ => trivial), m_nests hW hNm⟩⟩ rfl rfl hl.1 rfl (lv_room (Nat.le_of_ble_eq_true rfl)) qd_L_12 (by exact ⟨Nat.le_of_ble_eq_true rfl, Nat.le_of_ble_eq_true rfl⟩)) hS (fun q _ h => hFc q h) hFc (fun v t H1 locs ht hvm hw hB hz1 hk1 hS => ?_)
  obtain ⟨hP1, hD1⟩ := hB
  rw [ht] at hP1
  have hw := hw.symm
  subst hw
  obtain ⟨hP, hD⟩ := va_join (wr := xw u cI xS0) (w1 := mw v cI cZ mS0) hP hD [23] [0, 1, 2, 3, 4, 5, 6, 7, 8, 9, 10, 11, 12, 13, 14, 15, 16, 17, 18, 19, 20, 21, 22] rfl rfl (by decide) (by decide) hk1 hFc hP1 hD1
  generalize H1 = H at hP hS ⊢
  have hP : va_P D qcl (xw u cI xS0 ++ mw v cI cZ mS0) H := hP
  have hD : va_D (fun q : Nat => s.heap.size ≤ q) (xw u cI xS0 ++ mw v cI cZ mS0) := hD
  refine W.widen (k := 51) (n := 108040) (by decide) (by decide) ?_
  refine lv_astore_n (lv' := [(2, .ref (v 0)), (1, .ref (u 0)), (0, .ref b)]) hx hb qd_L_15 rfl hl (by decide) rfl (fun ls hl => ?_)
  refine lv_iconst (v := 0) hx hb qd_L_16 (by decide) ?_
  refine lv_istore_n (lv' := [(3, .int 0), (2, .ref (v 0)), (1, .ref (u 0)), (0, .ref b)]) hx hb qd_L_17 rfl hl (by decide) rfl (fun ls hl => ?_)
  exact q_loop hL C0 hK hNx hNm 1 0 0 xS0 mS0 (Nat.zero_le _) (by omega) nI_0.symm hO _ _ ls ⟨hP, hD, hS⟩ (lv_sub hl [3, 2, 1, 0] rfl)
