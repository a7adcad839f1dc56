set_option maxHeartbeats 4000000 in
set_option maxRecDepth 100000 in
theorem c_S_init (l : Launch) (D : va_G) (cI : ClassId) (h0 sz a1 a2 : Nat) : Met l qy_S_init (.code qy_S_init qb_S_init 3 none :: qtb) { frames := 1, cells := 0, slots := 0, locals := 12 } (va_Pc [.ref h0, .ref a1, .ref a2] (fun U => U.heap.size = sz ∧ va_P D qcl [(h0, .inr (2, [.null, .null]))] U.heap ∧ va_K D qcl [(cI, .int)] U ∧ va_D (fun _ => True) [(h0, .inr (2, [.null, .null]))])) (va_Qv (fun _ : Unit => True) (fun _ t => va_P D qcl [(h0, .inr (2, [.ref a1, .ref a2]))] t.heap ∧ va_D (va_A [(h0, .inr (2, [.null, .null]))] sz) [(h0, .inr (2, [.ref a1, .ref a2]))]) (va_A [(h0, .inr (2, [.null, .null]))] sz)) 0 0 (va_A [(h0, .inr (2, [.null, .null]))] sz) := by
  refine Met.ofW (cc := qb_S_init) (maxL := 3) (ret := none) (by decide) rfl ?_
  intro p e s m args below meth c s₁ B hml hv
  obtain ⟨rfl, hsz, hP, hK, hD0⟩ := hv
  have hx := B.exec
  have hb := B.bytes
  have hr := B.returns
  have hts : ∀ w ∈ qtb, w.before _ s = true := fun w h => atoms_spec (ws := .code qy_S_init qb_S_init 3 none :: qtb) B.pre w (List.mem_cons_of_mem _ h)
  have hown : s.vm.findClass qR_S = some m.cls := findClass_of_methodNamed B.named
  have hlocks := B.notSynchronized
  have hin : meth.name = "<init>" := (name_of_methodNamed B.named B.method).1
  subst hsz
  have hD := hD0.self (sz := s.heap.size)
  generalize hAe : va_A [(h0, .inr (2, [.null, .null]))] s.heap.size = A at hD ⊢
  have hA : ∀ q : Nat, s.heap.size ≤ q → A q := fun q h => by rw [← hAe]; exact Or.inr h
  have hS : va_S A s.heap s.heap [] := va_S.rf
  have hl := lv_entry ([.ref h0, .ref a1, .ref a2]) (n := 3) (Nat.le_of_ble_eq_true rfl)
  rw [lg_entry_eq]
  generalize (lg_sl ([.ref h0, .ref a1, .ref a2]) ++ List.replicate (3 - (lg_sl ([.ref h0, .ref a1, .ref a2])).length) Slot.unset).toArray = ls at hl ⊢
  have hl : lv_has ls 3 [(0, .ref h0), (1, .ref a1), (2, .ref a2)] := hl
  refine lv_aload_n hx hb qd_S_init_0 rfl (lv_at hl 0 rfl) ?_
  refine W.objInit hx hb hown (hts _ qk_124) (hts _ qk_15) (hts _ qk_16) rfl (by rw [hml]; exact hl.1) rfl qd_S_init_1 (Nat.le_of_ble_eq_true rfl) (Nat.le_of_ble_eq_true rfl) ?_
  refine W.eq (g2 := F0 m 4 ls []) rfl ?_
  refine lv_aload_n hx hb qd_S_init_4 rfl (lv_at hl 0 rfl) ?_
  refine lv_aload_n hx hb qd_S_init_5 rfl (lv_at hl 1 rfl) ?_
  refine va_putF (D := D) (ci := 2) (v := .ref a1) (ty := .object "CaptureSubtypes$Classes") (C := qR_S) (T := qF_S) (N := 2) hx hb hts qi_S qt_S qt_S_ok qn_S hown hK hP hD hS 0 rfl rfl 0 (by decide) (hts _ qk_125) (fun _ h9 => h9) rfl hin rfl (by decide +kernel) rfl rfl (Nat.le_of_ble_eq_true rfl) qd_S_init_6 (fun H locs hP hD hS => ?_)
  have hP : va_P D qcl [(h0, .inr (2, [.ref a1, .null]))] H := hP
  have hD : va_D A [(h0, .inr (2, [.ref a1, .null]))] := hD
  refine lv_aload_n hx hb qd_S_init_9 rfl (lv_at hl 0 rfl) ?_
  refine lv_aload_n hx hb qd_S_init_10 rfl (lv_at hl 2 rfl) ?_
  refine va_putF (D := D) (ci := 2) (v := .ref a2) (ty := .object "CaptureSubtypes$Types") (C := qR_S) (T := qF_S) (N := 2) hx hb hts qi_S qt_S qt_S_ok qn_S hown hK hP hD hS 0 rfl rfl 1 (by decide) (hts _ qk_126) (fun _ h9 => h9) rfl hin rfl (by decide +kernel) rfl rfl (Nat.le_of_ble_eq_true rfl) qd_S_init_11 (fun H locs hP hD hS => ?_)
  have hP : va_P D qcl [(h0, .inr (2, [.ref a1, .ref a2]))] H := hP
  have hD : va_D A [(h0, .inr (2, [.ref a1, .ref a2]))] := hD
  exact W.vret hx hb hr (fun t ht hW => ⟨⟨(), rfl, trivial, by subst ht; exact hP, hD⟩, hS.F ht⟩) hS.2.2 qd_S_init_14
set_option maxHeartbeats 4000000 in
set_option maxRecDepth 100000 in
theorem c_O_init (l : Launch) (D : va_G) (cI : ClassId) (h0 sz a1 a2 a3 : Nat) : Met l qy_O_init (.code qy_O_init qb_O_init 4 none :: qtb) { frames := 1, cells := 0, slots := 0, locals := 12 } (va_Pc [.ref h0, .ref a1, .ref a2, .ref a3] (fun U => U.heap.size = sz ∧ va_P D qcl [(h0, .inr (3, [.null, .null, .null]))] U.heap ∧ va_K D qcl [(cI, .int)] U ∧ va_D (fun _ => True) [(h0, .inr (3, [.null, .null, .null]))])) (va_Qv (fun _ : Unit => True) (fun _ t => va_P D qcl [(h0, .inr (3, [.ref a1, .ref a2, .ref a3]))] t.heap ∧ va_D (va_A [(h0, .inr (3, [.null, .null, .null]))] sz) [(h0, .inr (3, [.ref a1, .ref a2, .ref a3]))]) (va_A [(h0, .inr (3, [.null, .null, .null]))] sz)) 0 0 (va_A [(h0, .inr (3, [.null, .null, .null]))] sz) := by
  refine Met.ofW (cc := qb_O_init) (maxL := 4) (ret := none) (by decide) rfl ?_
  intro p e s m args below meth c s₁ B hml hv
  obtain ⟨rfl, hsz, hP, hK, hD0⟩ := hv
  have hx := B.exec
  have hb := B.bytes
  have hr := B.returns
  have hts : ∀ w ∈ qtb, w.before _ s = true := fun w h => atoms_spec (ws := .code qy_O_init qb_O_init 4 none :: qtb) B.pre w (List.mem_cons_of_mem _ h)
  have hown : s.vm.findClass qR_O = some m.cls := findClass_of_methodNamed B.named
  have hlocks := B.notSynchronized
  have hin : meth.name = "<init>" := (name_of_methodNamed B.named B.method).1
  subst hsz
  have hD := hD0.self (sz := s.heap.size)
  generalize hAe : va_A [(h0, .inr (3, [.null, .null, .null]))] s.heap.size = A at hD ⊢
  have hA : ∀ q : Nat, s.heap.size ≤ q → A q := fun q h => by rw [← hAe]; exact Or.inr h
  have hS : va_S A s.heap s.heap [] := va_S.rf
  have hl := lv_entry ([.ref h0, .ref a1, .ref a2, .ref a3]) (n := 4) (Nat.le_of_ble_eq_true rfl)
  rw [lg_entry_eq]
  generalize (lg_sl ([.ref h0, .ref a1, .ref a2, .ref a3]) ++ List.replicate (4 - (lg_sl ([.ref h0, .ref a1, .ref a2, .ref a3])).length) Slot.unset).toArray = ls at hl ⊢
  have hl : lv_has ls 4 [(0, .ref h0), (1, .ref a1), (2, .ref a2), (3, .ref a3)] := hl
  refine lv_aload_n hx hb qd_O_init_0 rfl (lv_at hl 0 rfl) ?_
  refine W.objInit hx hb hown (hts _ qk_137) (hts _ qk_15) (hts _ qk_16) rfl (by rw [hml]; exact hl.1) rfl qd_O_init_1 (Nat.le_of_ble_eq_true rfl) (Nat.le_of_ble_eq_true rfl) ?_
  refine W.eq (g2 := F0 m 4 ls []) rfl ?_
  refine lv_aload_n hx hb qd_O_init_4 rfl (lv_at hl 0 rfl) ?_
  refine lv_aload_n hx hb qd_O_init_5 rfl (lv_at hl 1 rfl) ?_
  refine va_putF (D := D) (ci := 3) (v := .ref a1) (ty := .object "CaptureSubtypes$Classes") (C := qR_O) (T := qF_O) (N := 3) hx hb hts qi_O qt_O qt_O_ok qn_O hown hK hP hD hS 0 rfl rfl 0 (by decide) (hts _ qk_138) (fun _ h9 => h9) rfl hin rfl (by decide +kernel) rfl rfl (Nat.le_of_ble_eq_true rfl) qd_O_init_6 (fun H locs hP hD hS => ?_)
  have hP : va_P D qcl [(h0, .inr (3, [.ref a1, .null, .null]))] H := hP
  have hD : va_D A [(h0, .inr (3, [.ref a1, .null, .null]))] := hD
  refine lv_aload_n hx hb qd_O_init_9 rfl (lv_at hl 0 rfl) ?_
  refine lv_aload_n hx hb qd_O_init_10 rfl (lv_at hl 2 rfl) ?_
  refine va_putF (D := D) (ci := 3) (v := .ref a2) (ty := .object "CaptureSubtypes$Types") (C := qR_O) (T := qF_O) (N := 3) hx hb hts qi_O qt_O qt_O_ok qn_O hown hK hP hD hS 0 rfl rfl 1 (by decide) (hts _ qk_139) (fun _ h9 => h9) rfl hin rfl (by decide +kernel) rfl rfl (Nat.le_of_ble_eq_true rfl) qd_O_init_11 (fun H locs hP hD hS => ?_)
  have hP : va_P D qcl [(h0, .inr (3, [.ref a1, .ref a2, .null]))] H := hP
  have hD : va_D A [(h0, .inr (3, [.ref a1, .ref a2, .null]))] := hD
  refine lv_aload_n hx hb qd_O_init_14 rfl (lv_at hl 0 rfl) ?_
  refine lv_aload_n hx hb qd_O_init_15 rfl (lv_at hl 3 rfl) ?_
  refine va_putF (D := D) (ci := 3) (v := .ref a3) (ty := .object "CaptureSubtypes$Shapes") (C := qR_O) (T := qF_O) (N := 3) hx hb hts qi_O qt_O qt_O_ok qn_O hown hK hP hD hS 0 rfl rfl 2 (by decide) (hts _ qk_140) (fun _ h9 => h9) rfl hin rfl (by decide +kernel) rfl rfl (Nat.le_of_ble_eq_true rfl) qd_O_init_16 (fun H locs hP hD hS => ?_)
  have hP : va_P D qcl [(h0, .inr (3, [.ref a1, .ref a2, .ref a3]))] H := hP
  have hD : va_D A [(h0, .inr (3, [.ref a1, .ref a2, .ref a3]))] := hD
  exact W.vret hx hb hr (fun t ht hW => ⟨⟨(), rfl, trivial, by subst ht; exact hP, hD⟩, hS.F ht⟩) hS.2.2 qd_O_init_19
set_option maxHeartbeats 4000000 in
set_option maxRecDepth 100000 in
theorem c_U_init (l : Launch) (D : va_G) (cI : ClassId) (h0 sz a1 a2 a3 a4 : Nat) : Met l qy_U_init (.code qy_U_init qb_U_init 5 none :: qtb) { frames := 1, cells := 0, slots := 0, locals := 12 } (va_Pc [.ref h0, .ref a1, .ref a2, .ref a3, .ref a4] (fun U => U.heap.size = sz ∧ va_P D qcl [(h0, .inr (4, [.null, .null, .null, .null]))] U.heap ∧ va_K D qcl [(cI, .int)] U ∧ va_D (fun _ => True) [(h0, .inr (4, [.null, .null, .null, .null]))])) (va_Qv (fun _ : Unit => True) (fun _ t => va_P D qcl [(h0, .inr (4, [.ref a1, .ref a2, .ref a3, .ref a4]))] t.heap ∧ va_D (va_A [(h0, .inr (4, [.null, .null, .null, .null]))] sz) [(h0, .inr (4, [.ref a1, .ref a2, .ref a3, .ref a4]))]) (va_A [(h0, .inr (4, [.null, .null, .null, .null]))] sz)) 0 0 (va_A [(h0, .inr (4, [.null, .null, .null, .null]))] sz) := by
  refine Met.ofW (cc := qb_U_init) (maxL := 5) (ret := none) (by decide) rfl ?_
  intro p e s m args below meth c s₁ B hml hv
  obtain ⟨rfl, hsz, hP, hK, hD0⟩ := hv
  have hx := B.exec
  have hb := B.bytes
  have hr := B.returns
  have hts : ∀ w ∈ qtb, w.before _ s = true := fun w h => atoms_spec (ws := .code qy_U_init qb_U_init 5 none :: qtb) B.pre w (List.mem_cons_of_mem _ h)
  have hown : s.vm.findClass qR_U = some m.cls := findClass_of_methodNamed B.named
  have hlocks := B.notSynchronized
  have hin : meth.name = "<init>" := (name_of_methodNamed B.named B.method).1
  subst hsz
  have hD := hD0.self (sz := s.heap.size)
  generalize hAe : va_A [(h0, .inr (4, [.null, .null, .null, .null]))] s.heap.size = A at hD ⊢
  have hA : ∀ q : Nat, s.heap.size ≤ q → A q := fun q h => by rw [← hAe]; exact Or.inr h
  have hS : va_S A s.heap s.heap [] := va_S.rf
  have hl := lv_entry ([.ref h0, .ref a1, .ref a2, .ref a3, .ref a4]) (n := 5) (Nat.le_of_ble_eq_true rfl)
  rw [lg_entry_eq]
  generalize (lg_sl ([.ref h0, .ref a1, .ref a2, .ref a3, .ref a4]) ++ List.replicate (5 - (lg_sl ([.ref h0, .ref a1, .ref a2, .ref a3, .ref a4])).length) Slot.unset).toArray = ls at hl ⊢
  have hl : lv_has ls 5 [(0, .ref h0), (1, .ref a1), (2, .ref a2), (3, .ref a3), (4, .ref a4)] := hl
  refine lv_aload_n hx hb qd_U_init_0 rfl (lv_at hl 0 rfl) ?_
  refine W.objInit hx hb hown (hts _ qk_153) (hts _ qk_15) (hts _ qk_16) rfl (by rw [hml]; exact hl.1) rfl qd_U_init_1 (Nat.le_of_ble_eq_true rfl) (Nat.le_of_ble_eq_true rfl) ?_
  refine W.eq (g2 := F0 m 4 ls []) rfl ?_
  refine lv_aload_n hx hb qd_U_init_4 rfl (lv_at hl 0 rfl) ?_
  refine lv_aload_n hx hb qd_U_init_5 rfl (lv_at hl 1 rfl) ?_
  refine va_putF (D := D) (ci := 4) (v := .ref a1) (ty := .object "CaptureSubtypes$Classes") (C := qR_U) (T := qF_U) (N := 4) hx hb hts qi_U qt_U qt_U_ok qn_U hown hK hP hD hS 0 rfl rfl 0 (by decide) (hts _ qk_154) (fun _ h9 => h9) rfl hin rfl (by decide +kernel) rfl rfl (Nat.le_of_ble_eq_true rfl) qd_U_init_6 (fun H locs hP hD hS => ?_)
  have hP : va_P D qcl [(h0, .inr (4, [.ref a1, .null, .null, .null]))] H := hP
  have hD : va_D A [(h0, .inr (4, [.ref a1, .null, .null, .null]))] := hD
  refine lv_aload_n hx hb qd_U_init_9 rfl (lv_at hl 0 rfl) ?_
  refine lv_aload_n hx hb qd_U_init_10 rfl (lv_at hl 2 rfl) ?_
  refine va_putF (D := D) (ci := 4) (v := .ref a2) (ty := .object "CaptureSubtypes$Types") (C := qR_U) (T := qF_U) (N := 4) hx hb hts qi_U qt_U qt_U_ok qn_U hown hK hP hD hS 0 rfl rfl 1 (by decide) (hts _ qk_155) (fun _ h9 => h9) rfl hin rfl (by decide +kernel) rfl rfl (Nat.le_of_ble_eq_true rfl) qd_U_init_11 (fun H locs hP hD hS => ?_)
  have hP : va_P D qcl [(h0, .inr (4, [.ref a1, .ref a2, .null, .null]))] H := hP
  have hD : va_D A [(h0, .inr (4, [.ref a1, .ref a2, .null, .null]))] := hD
  refine lv_aload_n hx hb qd_U_init_14 rfl (lv_at hl 0 rfl) ?_
  refine lv_aload_n hx hb qd_U_init_15 rfl (lv_at hl 3 rfl) ?_
  refine va_putF (D := D) (ci := 4) (v := .ref a3) (ty := .object "CaptureSubtypes$Shapes") (C := qR_U) (T := qF_U) (N := 4) hx hb hts qi_U qt_U qt_U_ok qn_U hown hK hP hD hS 0 rfl rfl 2 (by decide) (hts _ qk_156) (fun _ h9 => h9) rfl hin rfl (by decide +kernel) rfl rfl (Nat.le_of_ble_eq_true rfl) qd_U_init_16 (fun H locs hP hD hS => ?_)
  have hP : va_P D qcl [(h0, .inr (4, [.ref a1, .ref a2, .ref a3, .null]))] H := hP
  have hD : va_D A [(h0, .inr (4, [.ref a1, .ref a2, .ref a3, .null]))] := hD
  refine lv_aload_n hx hb qd_U_init_19 rfl (lv_at hl 0 rfl) ?_
  refine lv_aload hx hb qd_U_init_20 (lv_at hl 4 rfl) ?_
  refine va_putF (D := D) (ci := 4) (v := .ref a4) (ty := .object "CaptureSubtypes$Order") (C := qR_U) (T := qF_U) (N := 4) hx hb hts qi_U qt_U qt_U_ok qn_U hown hK hP hD hS 0 rfl rfl 3 (by decide) (hts _ qk_157) (fun _ h9 => h9) rfl hin rfl (by decide +kernel) rfl rfl (Nat.le_of_ble_eq_true rfl) qd_U_init_22 (fun H locs hP hD hS => ?_)
  have hP : va_P D qcl [(h0, .inr (4, [.ref a1, .ref a2, .ref a3, .ref a4]))] H := hP
  have hD : va_D A [(h0, .inr (4, [.ref a1, .ref a2, .ref a3, .ref a4]))] := hD
  exact W.vret hx hb hr (fun t ht hW => ⟨⟨(), rfl, trivial, by subst ht; exact hP, hD⟩, hS.F ht⟩) hS.2.2 qd_U_init_25
def xS0 : Nat → Nat → Int32 := fun k => if k < 10 then kS0 k else ttS0 k
set_option maxHeartbeats 4000000 in
set_option maxRecDepth 100000 in
theorem c_X_init (l : Launch) (D : va_G) (cI : ClassId) (h0 sz : Nat) : Met l qy_X_init (.code qy_X_init qb_X_init 1 none :: qtb) { frames := 5, cells := 22, slots := 8425, locals := 144 } (va_Pc [.ref h0] (fun U => U.heap.size = sz ∧ va_P D qcl [(h0, .inr (5, [.null, .null, .null, .null, .null]))] U.heap ∧ va_K D qcl [(cI, .int)] U ∧ va_D (fun _ => True) [(h0, .inr (5, [.null, .null, .null, .null, .null]))])) (va_Qv (fun u : Nat → Nat => u 0 = h0) (fun u t => va_P D qcl (xw u cI xS0) t.heap ∧ va_D (va_A [(h0, .inr (5, [.null, .null, .null, .null, .null]))] sz) (xw u cI xS0)) (va_A [(h0, .inr (5, [.null, .null, .null, .null, .null]))] sz)) 22 8425 (va_A [(h0, .inr (5, [.null, .null, .null, .null, .null]))] sz) := by
  refine Met.ofW (cc := qb_X_init) (maxL := 1) (ret := none) (by decide) rfl ?_
  intro p e s m args below meth c s₁ B hml hv
  obtain ⟨rfl, hsz, hP, hK, hD0⟩ := hv
  have hx := B.exec
  have hb := B.bytes
  have hr := B.returns
  have hts : ∀ w ∈ qtb, w.before _ s = true := fun w h => atoms_spec (ws := .code qy_X_init qb_X_init 1 none :: qtb) B.pre w (List.mem_cons_of_mem _ h)
  have hown : s.vm.findClass qR_X = some m.cls := findClass_of_methodNamed B.named
  have hlocks := B.notSynchronized
  have hin : meth.name = "<init>" := (name_of_methodNamed B.named B.method).1
  subst hsz
  have hD := hD0.self (sz := s.heap.size)
  generalize hAe : va_A [(h0, .inr (5, [.null, .null, .null, .null, .null]))] s.heap.size = A at hD ⊢
  have hA : ∀ q : Nat, s.heap.size ≤ q → A q := fun q h => by rw [← hAe]; exact Or.inr h
  have hS : va_S A s.heap s.heap [] := va_S.rf
  have hl := lv_entry ([.ref h0]) (n := 1) (Nat.le_of_ble_eq_true rfl)
  rw [lg_entry_eq]
  generalize (lg_sl ([.ref h0]) ++ List.replicate (1 - (lg_sl ([.ref h0])).length) Slot.unset).toArray = ls at hl ⊢
  have hl : lv_has ls 1 [(0, .ref h0)] := hl
  refine lv_aload_n hx hb qd_X_init_0 rfl (lv_at hl 0 rfl) ?_
  refine W.objInit hx hb hown (hts _ qk_14) (hts _ qk_15) (hts _ qk_16) rfl (by rw [hml]; exact hl.1) rfl qd_X_init_1 (Nat.le_of_ble_eq_true rfl) (Nat.le_of_ble_eq_true rfl) ?_
  refine W.eq (g2 := F0 m 4 ls []) rfl ?_
  refine lv_aload_n hx hb qd_X_init_4 rfl (lv_at hl 0 rfl) ?_
  refine va_new (ci := 0) (fs := [.int 0, .null, .null, .null, .null, .null, .null, .null, .null, .null]) (C := qR_K) (T := qF_K) (N := 10) hx hb hts qi_K qt_K qt_K_ok hown (hts _ qk_17) (hts _ qk_18) (hts _ qk_2) hK hP hD hS hA rfl (fun j hj => by rcases (show j = 0 ∨ j = 1 ∨ j = 2 ∨ j = 3 ∨ j = 4 ∨ j = 5 ∨ j = 6 ∨ j = 7 ∨ j = 8 ∨ j = 9 by omega) with rfl | rfl | rfl | rfl | rfl | rfl | rfl | rfl | rfl | rfl <;> rfl) (Nat.le_of_ble_eq_true rfl) (Nat.le_of_ble_eq_true rfl) qd_X_init_5 (fun qK H hP hD hS => ?_)
  refine W.widen (k := 1) (n := 10) (by decide) (by decide) ?_
  have hP : va_P D qcl ([(h0, .inr (5, [.null, .null, .null, .null, .null]))] ++ [(qK, .inr (0, [.int 0, .null, .null, .null, .null, .null, .null, .null, .null, .null]))]) H := hP
  have hD : va_D A ([(h0, .inr (5, [.null, .null, .null, .null, .null]))] ++ [(qK, .inr (0, [.int 0, .null, .null, .null, .null, .null, .null, .null, .null, .null]))]) := hD
  refine lv_dup hx hb qd_X_init_8 rfl ?_
  have hPc := hP.sub (ws' := [(qK, .inr (0, [.int 0, .null, .null, .null, .null, .null, .null, .null, .null, .null]))]) [1] rfl
  have hDc := hD.sub (ws' := [(qK, .inr (0, [.int 0, .null, .null, .null, .null, .null, .null, .null, .null, .null]))]) [1] (by decide) rfl
  have hFc := va_free (wc := [(qK, .inr (0, [.int 0, .null, .null, .null, .null, .null, .null, .null, .null, .null]))]) hD hS hA [1] rfl
  refine va_callv (va_runI (As := []) (rest := [.ref qK, .ref h0]) ⟨hx, hb, hml, hown, hts⟩ (c_K_init l D cI qK H.size) (cwI 0 hts (q_good qk_21) rfl rfl rfl (hts _ qk_2) (hts _ qk_19) (hts _ qk_20) rfl (by decide +kernel) (by exact ⟨Nat.le_of_ble_eq_true rfl, Nat.le_of_ble_eq_true rfl⟩)) ⟨fun a U g mk q => by obtain ⟨z0, z1, zP, zK, zD, zN⟩ := q; exact ⟨z0, z1, zP, va_K.moved (u := U) (U := U.calling g mk a) (Vm.Alike.refl U.vm) zK, zD, k_nestsame (s := U) rfl zN⟩, fun U hU hW => ⟨rfl, by rw [hU], by rw [hU]; exact hPc, va_K.moved hW.alike hK, hDc.weaken (fun _ _ _ _ => trivial), fun w hw => absurd hw List.not_mem_nil⟩⟩ rfl rfl hl.1 rfl (lv_room (Nat.le_of_ble_eq_true rfl)) qd_X_init_9 (by exact ⟨Nat.le_of_ble_eq_true rfl, Nat.le_of_ble_eq_true rfl⟩)) hS (fun q _ h => hFc q h) hFc (fun uK t H1 locs ht hvm hw hB hz1 hk1 hS => ?_)
  obtain ⟨hP1, hD1⟩ := hB
  rw [ht] at hP1
  have hw := hw.symm
  subst hw
  obtain ⟨hP, hD⟩ := va_join (wr := [(h0, .inr (5, [.null, .null, .null, .null, .null]))]) (w1 := kw uK cI kS0) hP hD [1] [0] rfl rfl (by decide) (by decide) hk1 hFc hP1 hD1
  generalize H1 = H at hP hS ⊢
  have hP : va_P D qcl ([(h0, .inr (5, [.null, .null, .null, .null, .null]))] ++ kw uK cI kS0) H := hP
  have hD : va_D A ([(h0, .inr (5, [.null, .null, .null, .null, .null]))] ++ kw uK cI kS0) := hD
  refine W.widen (k := 10) (n := 214) (by decide) (by decide) ?_
  refine va_putF (D := D) (ci := 5) (v := .ref (uK 0)) (ty := .object "CaptureSubtypes$Classes") (C := qR_X) (T := qF_X) (N := 5) hx hb hts qi_X qt_X qt_X_ok qn_X hown hK hP hD hS 0 rfl rfl 0 (by decide) (hts _ qk_167) (fun _ h9 => h9) rfl hin rfl (by decide +kernel) rfl rfl (Nat.le_of_ble_eq_true rfl) qd_X_init_12 (fun H locs hP hD hS => ?_)
  have hP : va_P D qcl ([(h0, .inr (5, [.ref (uK 0), .null, .null, .null, .null]))] ++ kw uK cI kS0) H := hP
  have hD : va_D A ([(h0, .inr (5, [.ref (uK 0), .null, .null, .null, .null]))] ++ kw uK cI kS0) := hD
  refine lv_aload_n hx hb qd_X_init_15 rfl (lv_at hl 0 rfl) ?_
  refine va_new (ci := 1) (fs := [.int 0, .int 0, .null, .null, .null, .null, .null, .null, .null, .null]) (C := qR_T) (T := qF_T) (N := 10) hx hb hts qi_T qt_T qt_T_ok hown (hts _ qk_66) (hts _ qk_67) (hts _ qk_3) hK hP hD hS hA rfl (fun j hj => by rcases (show j = 0 ∨ j = 1 ∨ j = 2 ∨ j = 3 ∨ j = 4 ∨ j = 5 ∨ j = 6 ∨ j = 7 ∨ j = 8 ∨ j = 9 by omega) with rfl | rfl | rfl | rfl | rfl | rfl | rfl | rfl | rfl | rfl <;> rfl) (Nat.le_of_ble_eq_true rfl) (Nat.le_of_ble_eq_true rfl) qd_X_init_16 (fun qT H hP hD hS => ?_)
  refine W.widen (k := 11) (n := 224) (by decide) (by decide) ?_
  have hP : va_P D qcl ([(h0, .inr (5, [.ref (uK 0), .null, .null, .null, .null]))] ++ kw uK cI kS0 ++ [(qT, .inr (1, [.int 0, .int 0, .null, .null, .null, .null, .null, .null, .null, .null]))]) H := hP
  have hD : va_D A ([(h0, .inr (5, [.ref (uK 0), .null, .null, .null, .null]))] ++ kw uK cI kS0 ++ [(qT, .inr (1, [.int 0, .int 0, .null, .null, .null, .null, .null, .null, .null, .null]))]) := hD
  refine lv_dup hx hb qd_X_init_19 rfl ?_
  have hPc := hP.sub (ws' := [(qT, .inr (1, [.int 0, .int 0, .null, .null, .null, .null, .null, .null, .null, .null]))]) [11] rfl
  have hDc := hD.sub (ws' := [(qT, .inr (1, [.int 0, .int 0, .null, .null, .null, .null, .null, .null, .null, .null]))]) [11] (by decide) rfl
  have hFc := va_free (wc := [(qT, .inr (1, [.int 0, .int 0, .null, .null, .null, .null, .null, .null, .null, .null]))]) hD hS hA [11] rfl
  refine va_callv (va_runI (As := []) (rest := [.ref qT, .ref h0]) ⟨hx, hb, hml, hown, hts⟩ (c_T_init l D cI qT H.size) (cwI 0 hts (q_good qk_70) rfl rfl rfl (hts _ qk_3) (hts _ qk_68) (hts _ qk_69) rfl (by decide +kernel) (by exact ⟨Nat.le_of_ble_eq_true rfl, Nat.le_of_ble_eq_true rfl⟩)) ⟨fun a U g mk q => by obtain ⟨z0, z1, zP, zK, zD, zN⟩ := q; exact ⟨z0, z1, zP, va_K.moved (u := U) (U := U.calling g mk a) (Vm.Alike.refl U.vm) zK, zD, tt_nestsame (s := U) rfl zN⟩, fun U hU hW => ⟨rfl, by rw [hU], by rw [hU]; exact hPc, va_K.moved hW.alike hK, hDc.weaken (fun _ _ _ _ => trivial), fun w hw => absurd hw List.not_mem_nil⟩⟩ rfl rfl hl.1 rfl (lv_room (Nat.le_of_ble_eq_true rfl)) qd_X_init_20 (by exact ⟨Nat.le_of_ble_eq_true rfl, Nat.le_of_ble_eq_true rfl⟩)) hS (fun q _ h => hFc q h) hFc (fun uT t H1 locs ht hvm hw hB hz1 hk1 hS => ?_)
  obtain ⟨hP1, hD1⟩ := hB
  rw [ht] at hP1
  have hw := hw.symm
  subst hw
  obtain ⟨hP, hD⟩ := va_join (wr := [(h0, .inr (5, [.ref (uK 0), .null, .null, .null, .null]))] ++ kw uK cI kS0) (w1 := ttw uT cI ttS0) hP hD [11] [0, 1, 2, 3, 4, 5, 6, 7, 8, 9, 10] rfl rfl (by decide) (by decide) hk1 hFc hP1 hD1
  generalize H1 = H at hP hS ⊢
  have hP : va_P D qcl ([(h0, .inr (5, [.ref (uK 0), .null, .null, .null, .null]))] ++ kw uK cI kS0 ++ ttw uT cI ttS0) H := hP
  have hD : va_D A ([(h0, .inr (5, [.ref (uK 0), .null, .null, .null, .null]))] ++ kw uK cI kS0 ++ ttw uT cI ttS0) := hD
  refine W.widen (k := 19) (n := 8416) (by decide) (by decide) ?_
  refine va_putF (D := D) (ci := 5) (v := .ref (uT 0)) (ty := .object "CaptureSubtypes$Types") (C := qR_X) (T := qF_X) (N := 5) hx hb hts qi_X qt_X qt_X_ok qn_X hown hK hP hD hS 0 rfl rfl 1 (by decide) (hts _ qk_168) (fun _ h9 => h9) rfl hin rfl (by decide +kernel) rfl rfl (Nat.le_of_ble_eq_true rfl) qd_X_init_23 (fun H locs hP hD hS => ?_)
  have hP : va_P D qcl ([(h0, .inr (5, [.ref (uK 0), .ref (uT 0), .null, .null, .null]))] ++ kw uK cI kS0 ++ ttw uT cI ttS0) H := hP
  have hD : va_D A ([(h0, .inr (5, [.ref (uK 0), .ref (uT 0), .null, .null, .null]))] ++ kw uK cI kS0 ++ ttw uT cI ttS0) := hD
  refine lv_aload_n hx hb qd_X_init_26 rfl (lv_at hl 0 rfl) ?_
  refine va_new (ci := 2) (fs := [.null, .null]) (C := qR_S) (T := qF_S) (N := 2) hx hb hts qi_S qt_S qt_S_ok hown (hts _ qk_119) (hts _ qk_120) (hts _ qk_5) hK hP hD hS hA rfl (fun j hj => by rcases (show j = 0 ∨ j = 1 by omega) with rfl | rfl <;> rfl) (Nat.le_of_ble_eq_true rfl) (Nat.le_of_ble_eq_true rfl) qd_X_init_27 (fun qS H hP hD hS => ?_)
  refine W.widen (k := 20) (n := 8418) (by decide) (by decide) ?_
  have hP : va_P D qcl ([(h0, .inr (5, [.ref (uK 0), .ref (uT 0), .null, .null, .null]))] ++ kw uK cI kS0 ++ ttw uT cI ttS0 ++ [(qS, .inr (2, [.null, .null]))]) H := hP
  have hD : va_D A ([(h0, .inr (5, [.ref (uK 0), .ref (uT 0), .null, .null, .null]))] ++ kw uK cI kS0 ++ ttw uT cI ttS0 ++ [(qS, .inr (2, [.null, .null]))]) := hD
  refine lv_dup hx hb qd_X_init_30 rfl ?_
  refine lv_aload_n hx hb qd_X_init_31 rfl (lv_at hl 0 rfl) ?_
  refine va_get (D := D) (ci := 5) (v := .ref (uK 0)) (C := qR_X) (T := qF_X) (N := 5) hx hb hts qi_X hown hK hP 0 rfl rfl 0 (by decide) (hts _ qk_167) (fun _ h9 => h9) rfl qd_X_init_32 ?_
  refine lv_aload_n hx hb qd_X_init_35 rfl (lv_at hl 0 rfl) ?_
  refine va_get (D := D) (ci := 5) (v := .ref (uT 0)) (C := qR_X) (T := qF_X) (N := 5) hx hb hts qi_X hown hK hP 0 rfl rfl 1 (by decide) (hts _ qk_168) (fun _ h9 => h9) rfl qd_X_init_36 ?_
  have hPc := hP.sub (ws' := [(qS, .inr (2, [.null, .null]))]) [20] rfl
  have hDc := hD.sub (ws' := [(qS, .inr (2, [.null, .null]))]) [20] (by decide) rfl
  have hFc := va_free (wc := [(qS, .inr (2, [.null, .null]))]) hD hS hA [20] rfl
  refine va_callv (va_runI (As := [.ref (uK 0), .ref (uT 0)]) (rest := [.ref qS, .ref h0]) ⟨hx, hb, hml, hown, hts⟩ (c_S_init l D cI qS H.size (uK 0) (uT 0)) (cwI 2 hts (q_good qk_123) rfl rfl rfl (hts _ qk_5) (hts _ qk_121) (hts _ qk_122) rfl (by decide +kernel) (by exact ⟨Nat.le_of_ble_eq_true rfl, Nat.le_of_ble_eq_true rfl⟩)) ⟨fun a U g mk q => by obtain ⟨z0, z1, zP, zK, zD⟩ := q; exact ⟨z0, z1, zP, va_K.moved (u := U) (U := U.calling g mk a) (Vm.Alike.refl U.vm) zK, zD⟩, fun U hU hW => ⟨rfl, by rw [hU], by rw [hU]; exact hPc, va_K.moved hW.alike hK, hDc.weaken (fun _ _ _ _ => trivial)⟩⟩ rfl rfl hl.1 rfl (lv_room (Nat.le_of_ble_eq_true rfl)) qd_X_init_39 (by exact ⟨Nat.le_of_ble_eq_true rfl, Nat.le_of_ble_eq_true rfl⟩)) hS (fun q _ h => hFc q h) hFc (fun uS t H1 locs ht hvm hw hB hz1 hk1 hS => ?_)
  obtain ⟨hP1, hD1⟩ := hB
  rw [ht] at hP1
  obtain ⟨hP, hD⟩ := va_join (wr := [(h0, .inr (5, [.ref (uK 0), .ref (uT 0), .null, .null, .null]))] ++ kw uK cI kS0 ++ ttw uT cI ttS0) (w1 := [(qS, .inr (2, [.ref (uK 0), .ref (uT 0)]))]) hP hD [20] [0, 1, 2, 3, 4, 5, 6, 7, 8, 9, 10, 11, 12, 13, 14, 15, 16, 17, 18, 19] rfl rfl (by decide) (by decide) hk1 hFc hP1 hD1
  generalize H1 = H at hP hS ⊢
  have hP : va_P D qcl ([(h0, .inr (5, [.ref (uK 0), .ref (uT 0), .null, .null, .null]))] ++ kw uK cI kS0 ++ ttw uT cI ttS0 ++ [(qS, .inr (2, [.ref (uK 0), .ref (uT 0)]))]) H := hP
  have hD : va_D A ([(h0, .inr (5, [.ref (uK 0), .ref (uT 0), .null, .null, .null]))] ++ kw uK cI kS0 ++ ttw uT cI ttS0 ++ [(qS, .inr (2, [.ref (uK 0), .ref (uT 0)]))]) := hD
  refine W.widen (k := 20) (n := 8418) (by decide) (by decide) ?_
  refine va_putF (D := D) (ci := 5) (v := .ref qS) (ty := .object "CaptureSubtypes$Shapes") (C := qR_X) (T := qF_X) (N := 5) hx hb hts qi_X qt_X qt_X_ok qn_X hown hK hP hD hS 0 rfl rfl 2 (by decide) (hts _ qk_169) (fun _ h9 => h9) rfl hin rfl (by decide +kernel) rfl rfl (Nat.le_of_ble_eq_true rfl) qd_X_init_42 (fun H locs hP hD hS => ?_)
  have hP : va_P D qcl ([(h0, .inr (5, [.ref (uK 0), .ref (uT 0), .ref qS, .null, .null]))] ++ kw uK cI kS0 ++ ttw uT cI ttS0 ++ [(qS, .inr (2, [.ref (uK 0), .ref (uT 0)]))]) H := hP
  have hD : va_D A ([(h0, .inr (5, [.ref (uK 0), .ref (uT 0), .ref qS, .null, .null]))] ++ kw uK cI kS0 ++ ttw uT cI ttS0 ++ [(qS, .inr (2, [.ref (uK 0), .ref (uT 0)]))]) := hD
  refine lv_aload_n hx hb qd_X_init_45 rfl (lv_at hl 0 rfl) ?_
  refine va_new (ci := 3) (fs := [.null, .null, .null]) (C := qR_O) (T := qF_O) (N := 3) hx hb hts qi_O qt_O qt_O_ok hown (hts _ qk_132) (hts _ qk_133) (hts _ qk_6) hK hP hD hS hA rfl (fun j hj => by rcases (show j = 0 ∨ j = 1 ∨ j = 2 by omega) with rfl | rfl | rfl <;> rfl) (Nat.le_of_ble_eq_true rfl) (Nat.le_of_ble_eq_true rfl) qd_X_init_46 (fun qO H hP hD hS => ?_)
  refine W.widen (k := 21) (n := 8421) (by decide) (by decide) ?_
  have hP : va_P D qcl ([(h0, .inr (5, [.ref (uK 0), .ref (uT 0), .ref qS, .null, .null]))] ++ kw uK cI kS0 ++ ttw uT cI ttS0 ++ [(qS, .inr (2, [.ref (uK 0), .ref (uT 0)]))] ++ [(qO, .inr (3, [.null, .null, .null]))]) H := hP
  have hD : va_D A ([(h0, .inr (5, [.ref (uK 0), .ref (uT 0), .ref qS, .null, .null]))] ++ kw uK cI kS0 ++ ttw uT cI ttS0 ++ [(qS, .inr (2, [.ref (uK 0), .ref (uT 0)]))] ++ [(qO, .inr (3, [.null, .null, .null]))]) := hD
  refine lv_dup hx hb qd_X_init_49 rfl ?_
  refine lv_aload_n hx hb qd_X_init_50 rfl (lv_at hl 0 rfl) ?_
  refine va_get (D := D) (ci := 5) (v := .ref (uK 0)) (C := qR_X) (T := qF_X) (N := 5) hx hb hts qi_X hown hK hP 0 rfl rfl 0 (by decide) (hts _ qk_167) (fun _ h9 => h9) rfl qd_X_init_51 ?_
  refine lv_aload_n hx hb qd_X_init_54 rfl (lv_at hl 0 rfl) ?_
  refine va_get (D := D) (ci := 5) (v := .ref (uT 0)) (C := qR_X) (T := qF_X) (N := 5) hx hb hts qi_X hown hK hP 0 rfl rfl 1 (by decide) (hts _ qk_168) (fun _ h9 => h9) rfl qd_X_init_55 ?_
  refine lv_aload_n hx hb qd_X_init_58 rfl (lv_at hl 0 rfl) ?_
  refine va_get (D := D) (ci := 5) (v := .ref qS) (C := qR_X) (T := qF_X) (N := 5) hx hb hts qi_X hown hK hP 0 rfl rfl 2 (by decide) (hts _ qk_169) (fun _ h9 => h9) rfl qd_X_init_59 ?_
  have hPc := hP.sub (ws' := [(qO, .inr (3, [.null, .null, .null]))]) [21] rfl
  have hDc := hD.sub (ws' := [(qO, .inr (3, [.null, .null, .null]))]) [21] (by decide) rfl
  have hFc := va_free (wc := [(qO, .inr (3, [.null, .null, .null]))]) hD hS hA [21] rfl
  refine va_callv (va_runI (As := [.ref (uK 0), .ref (uT 0), .ref qS]) (rest := [.ref qO, .ref h0]) ⟨hx, hb, hml, hown, hts⟩ (c_O_init l D cI qO H.size (uK 0) (uT 0) qS) (cwI 3 hts (q_good qk_136) rfl rfl rfl (hts _ qk_6) (hts _ qk_134) (hts _ qk_135) rfl (by decide +kernel) (by exact ⟨Nat.le_of_ble_eq_true rfl, Nat.le_of_ble_eq_true rfl⟩)) ⟨fun a U g mk q => by obtain ⟨z0, z1, zP, zK, zD⟩ := q; exact ⟨z0, z1, zP, va_K.moved (u := U) (U := U.calling g mk a) (Vm.Alike.refl U.vm) zK, zD⟩, fun U hU hW => ⟨rfl, by rw [hU], by rw [hU]; exact hPc, va_K.moved hW.alike hK, hDc.weaken (fun _ _ _ _ => trivial)⟩⟩ rfl rfl hl.1 rfl (lv_room (Nat.le_of_ble_eq_true rfl)) qd_X_init_62 (by exact ⟨Nat.le_of_ble_eq_true rfl, Nat.le_of_ble_eq_true rfl⟩)) hS (fun q _ h => hFc q h) hFc (fun uO t H1 locs ht hvm hw hB hz1 hk1 hS => ?_)
  obtain ⟨hP1, hD1⟩ := hB
  rw [ht] at hP1
  obtain ⟨hP, hD⟩ := va_join (wr := [(h0, .inr (5, [.ref (uK 0), .ref (uT 0), .ref qS, .null, .null]))] ++ kw uK cI kS0 ++ ttw uT cI ttS0 ++ [(qS, .inr (2, [.ref (uK 0), .ref (uT 0)]))]) (w1 := [(qO, .inr (3, [.ref (uK 0), .ref (uT 0), .ref qS]))]) hP hD [21] [0, 1, 2, 3, 4, 5, 6, 7, 8, 9, 10, 11, 12, 13, 14, 15, 16, 17, 18, 19, 20] rfl rfl (by decide) (by decide) hk1 hFc hP1 hD1
  generalize H1 = H at hP hS ⊢
  have hP : va_P D qcl ([(h0, .inr (5, [.ref (uK 0), .ref (uT 0), .ref qS, .null, .null]))] ++ kw uK cI kS0 ++ ttw uT cI ttS0 ++ [(qS, .inr (2, [.ref (uK 0), .ref (uT 0)]))] ++ [(qO, .inr (3, [.ref (uK 0), .ref (uT 0), .ref qS]))]) H := hP
  have hD : va_D A ([(h0, .inr (5, [.ref (uK 0), .ref (uT 0), .ref qS, .null, .null]))] ++ kw uK cI kS0 ++ ttw uT cI ttS0 ++ [(qS, .inr (2, [.ref (uK 0), .ref (uT 0)]))] ++ [(qO, .inr (3, [.ref (uK 0), .ref (uT 0), .ref qS]))]) := hD
  refine W.widen (k := 21) (n := 8421) (by decide) (by decide) ?_
  refine va_putF (D := D) (ci := 5) (v := .ref qO) (ty := .object "CaptureSubtypes$Order") (C := qR_X) (T := qF_X) (N := 5) hx hb hts qi_X qt_X qt_X_ok qn_X hown hK hP hD hS 0 rfl rfl 3 (by decide) (hts _ qk_170) (fun _ h9 => h9) rfl hin rfl (by decide +kernel) rfl rfl (Nat.le_of_ble_eq_true rfl) qd_X_init_65 (fun H locs hP hD hS => ?_)
  have hP : va_P D qcl ([(h0, .inr (5, [.ref (uK 0), .ref (uT 0), .ref qS, .ref qO, .null]))] ++ kw uK cI kS0 ++ ttw uT cI ttS0 ++ [(qS, .inr (2, [.ref (uK 0), .ref (uT 0)]))] ++ [(qO, .inr (3, [.ref (uK 0), .ref (uT 0), .ref qS]))]) H := hP
  have hD : va_D A ([(h0, .inr (5, [.ref (uK 0), .ref (uT 0), .ref qS, .ref qO, .null]))] ++ kw uK cI kS0 ++ ttw uT cI ttS0 ++ [(qS, .inr (2, [.ref (uK 0), .ref (uT 0)]))] ++ [(qO, .inr (3, [.ref (uK 0), .ref (uT 0), .ref qS]))]) := hD
  refine lv_aload_n hx hb qd_X_init_68 rfl (lv_at hl 0 rfl) ?_
  refine va_new (ci := 4) (fs := [.null, .null, .null, .null]) (C := qR_U) (T := qF_U) (N := 4) hx hb hts qi_U qt_U qt_U_ok hown (hts _ qk_148) (hts _ qk_149) (hts _ qk_7) hK hP hD hS hA rfl (fun j hj => by rcases (show j = 0 ∨ j = 1 ∨ j = 2 ∨ j = 3 by omega) with rfl | rfl | rfl | rfl <;> rfl) (Nat.le_of_ble_eq_true rfl) (Nat.le_of_ble_eq_true rfl) qd_X_init_69 (fun qU H hP hD hS => ?_)
  refine W.widen (k := 22) (n := 8425) (by decide) (by decide) ?_
  have hP : va_P D qcl ([(h0, .inr (5, [.ref (uK 0), .ref (uT 0), .ref qS, .ref qO, .null]))] ++ kw uK cI kS0 ++ ttw uT cI ttS0 ++ [(qS, .inr (2, [.ref (uK 0), .ref (uT 0)]))] ++ [(qO, .inr (3, [.ref (uK 0), .ref (uT 0), .ref qS]))] ++ [(qU, .inr (4, [.null, .null, .null, .null]))]) H := hP
  have hD : va_D A ([(h0, .inr (5, [.ref (uK 0), .ref (uT 0), .ref qS, .ref qO, .null]))] ++ kw uK cI kS0 ++ ttw uT cI ttS0 ++ [(qS, .inr (2, [.ref (uK 0), .ref (uT 0)]))] ++ [(qO, .inr (3, [.ref (uK 0), .ref (uT 0), .ref qS]))] ++ [(qU, .inr (4, [.null, .null, .null, .null]))]) := hD
  refine lv_dup hx hb qd_X_init_72 rfl ?_
  refine lv_aload_n hx hb qd_X_init_73 rfl (lv_at hl 0 rfl) ?_
  refine va_get (D := D) (ci := 5) (v := .ref (uK 0)) (C := qR_X) (T := qF_X) (N := 5) hx hb hts qi_X hown hK hP 0 rfl rfl 0 (by decide) (hts _ qk_167) (fun _ h9 => h9) rfl qd_X_init_74 ?_
  refine lv_aload_n hx hb qd_X_init_77 rfl (lv_at hl 0 rfl) ?_
  refine va_get (D := D) (ci := 5) (v := .ref (uT 0)) (C := qR_X) (T := qF_X) (N := 5) hx hb hts qi_X hown hK hP 0 rfl rfl 1 (by decide) (hts _ qk_168) (fun _ h9 => h9) rfl qd_X_init_78 ?_
  refine lv_aload_n hx hb qd_X_init_81 rfl (lv_at hl 0 rfl) ?_
  refine va_get (D := D) (ci := 5) (v := .ref qS) (C := qR_X) (T := qF_X) (N := 5) hx hb hts qi_X hown hK hP 0 rfl rfl 2 (by decide) (hts _ qk_169) (fun _ h9 => h9) rfl qd_X_init_82 ?_
  refine lv_aload_n hx hb qd_X_init_85 rfl (lv_at hl 0 rfl) ?_
  refine va_get (D := D) (ci := 5) (v := .ref qO) (C := qR_X) (T := qF_X) (N := 5) hx hb hts qi_X hown hK hP 0 rfl rfl 3 (by decide) (hts _ qk_170) (fun _ h9 => h9) rfl qd_X_init_86 ?_
  have hPc := hP.sub (ws' := [(qU, .inr (4, [.null, .null, .null, .null]))]) [22] rfl
  have hDc := hD.sub (ws' := [(qU, .inr (4, [.null, .null, .null, .null]))]) [22] (by decide) rfl
  have hFc := va_free (wc := [(qU, .inr (4, [.null, .null, .null, .null]))]) hD hS hA [22] rfl
  refine va_callv (va_runI (As := [.ref (uK 0), .ref (uT 0), .ref qS, .ref qO]) (rest := [.ref qU, .ref h0]) ⟨hx, hb, hml, hown, hts⟩ (c_U_init l D cI qU H.size (uK 0) (uT 0) qS qO) (cwI 4 hts (q_good qk_152) rfl rfl rfl (hts _ qk_7) (hts _ qk_150) (hts _ qk_151) rfl (by decide +kernel) (by exact ⟨Nat.le_of_ble_eq_true rfl, Nat.le_of_ble_eq_true rfl⟩)) ⟨fun a U g mk q => by obtain ⟨z0, z1, zP, zK, zD⟩ := q; exact ⟨z0, z1, zP, va_K.moved (u := U) (U := U.calling g mk a) (Vm.Alike.refl U.vm) zK, zD⟩, fun U hU hW => ⟨rfl, by rw [hU], by rw [hU]; exact hPc, va_K.moved hW.alike hK, hDc.weaken (fun _ _ _ _ => trivial)⟩⟩ rfl rfl hl.1 rfl (lv_room (Nat.le_of_ble_eq_true rfl)) qd_X_init_89 (by exact ⟨Nat.le_of_ble_eq_true rfl, Nat.le_of_ble_eq_true rfl⟩)) hS (fun q _ h => hFc q h) hFc (fun uU t H1 locs ht hvm hw hB hz1 hk1 hS => ?_)
  obtain ⟨hP1, hD1⟩ := hB
  rw [ht] at hP1
  obtain ⟨hP, hD⟩ := va_join (wr := [(h0, .inr (5, [.ref (uK 0), .ref (uT 0), .ref qS, .ref qO, .null]))] ++ kw uK cI kS0 ++ ttw uT cI ttS0 ++ [(qS, .inr (2, [.ref (uK 0), .ref (uT 0)]))] ++ [(qO, .inr (3, [.ref (uK 0), .ref (uT 0), .ref qS]))]) (w1 := [(qU, .inr (4, [.ref (uK 0), .ref (uT 0), .ref qS, .ref qO]))]) hP hD [22] [0, 1, 2, 3, 4, 5, 6, 7, 8, 9, 10, 11, 12, 13, 14, 15, 16, 17, 18, 19, 20, 21] rfl rfl (by decide) (by decide) hk1 hFc hP1 hD1
  generalize H1 = H at hP hS ⊢
  have hP : va_P D qcl ([(h0, .inr (5, [.ref (uK 0), .ref (uT 0), .ref qS, .ref qO, .null]))] ++ kw uK cI kS0 ++ ttw uT cI ttS0 ++ [(qS, .inr (2, [.ref (uK 0), .ref (uT 0)]))] ++ [(qO, .inr (3, [.ref (uK 0), .ref (uT 0), .ref qS]))] ++ [(qU, .inr (4, [.ref (uK 0), .ref (uT 0), .ref qS, .ref qO]))]) H := hP
  have hD : va_D A ([(h0, .inr (5, [.ref (uK 0), .ref (uT 0), .ref qS, .ref qO, .null]))] ++ kw uK cI kS0 ++ ttw uT cI ttS0 ++ [(qS, .inr (2, [.ref (uK 0), .ref (uT 0)]))] ++ [(qO, .inr (3, [.ref (uK 0), .ref (uT 0), .ref qS]))] ++ [(qU, .inr (4, [.ref (uK 0), .ref (uT 0), .ref qS, .ref qO]))]) := hD
  refine W.widen (k := 22) (n := 8425) (by decide) (by decide) ?_
  refine va_putF (D := D) (ci := 5) (v := .ref qU) (ty := .object "CaptureSubtypes$Turning") (C := qR_X) (T := qF_X) (N := 5) hx hb hts qi_X qt_X qt_X_ok qn_X hown hK hP hD hS 0 rfl rfl 4 (by decide) (hts _ qk_171) (fun _ h9 => h9) rfl hin rfl (by decide +kernel) rfl rfl (Nat.le_of_ble_eq_true rfl) qd_X_init_92 (fun H locs hP hD hS => ?_)
  have hP : va_P D qcl ([(h0, .inr (5, [.ref (uK 0), .ref (uT 0), .ref qS, .ref qO, .ref qU]))] ++ kw uK cI kS0 ++ ttw uT cI ttS0 ++ [(qS, .inr (2, [.ref (uK 0), .ref (uT 0)]))] ++ [(qO, .inr (3, [.ref (uK 0), .ref (uT 0), .ref qS]))] ++ [(qU, .inr (4, [.ref (uK 0), .ref (uT 0), .ref qS, .ref qO]))]) H := hP
  have hD : va_D A ([(h0, .inr (5, [.ref (uK 0), .ref (uT 0), .ref qS, .ref qO, .ref qU]))] ++ kw uK cI kS0 ++ ttw uT cI ttS0 ++ [(qS, .inr (2, [.ref (uK 0), .ref (uT 0)]))] ++ [(qO, .inr (3, [.ref (uK 0), .ref (uT 0), .ref qS]))] ++ [(qU, .inr (4, [.ref (uK 0), .ref (uT 0), .ref qS, .ref qO]))]) := hD
  have hP9 := hP.sub (ws' := xw (fun i => ([h0, uK 0, uT 0, qS, qO, qU, uK 1, uK 2, uK 3, uK 4, uK 5, uK 6, uK 7, uK 8, uK 9, uT 1, uT 2, uT 3, uT 4, uT 5, uT 6, uT 7, uT 8] : List Nat).getD i 0) cI xS0) [0, 1, 11, 20, 21, 22, 2, 3, 4, 5, 6, 7, 8, 9, 10, 12, 13, 14, 15, 16, 17, 18, 19] rfl
  have hD9 := hD.sub (ws' := xw (fun i => ([h0, uK 0, uT 0, qS, qO, qU, uK 1, uK 2, uK 3, uK 4, uK 5, uK 6, uK 7, uK 8, uK 9, uT 1, uT 2, uT 3, uT 4, uT 5, uT 6, uT 7, uT 8] : List Nat).getD i 0) cI xS0) [0, 1, 11, 20, 21, 22, 2, 3, 4, 5, 6, 7, 8, 9, 10, 12, 13, 14, 15, 16, 17, 18, 19] (by decide) rfl
  exact W.vret hx hb hr (fun t ht hW => ⟨⟨(fun i => ([h0, uK 0, uT 0, qS, qO, qU, uK 1, uK 2, uK 3, uK 4, uK 5, uK 6, uK 7, uK 8, uK 9, uT 1, uT 2, uT 3, uT 4, uT 5, uT 6, uT 7, uT 8] : List Nat).getD i 0), rfl, rfl, by subst ht; exact hP9, hD9⟩, hS.F ht⟩) hS.2.2 qd_X_init_95
